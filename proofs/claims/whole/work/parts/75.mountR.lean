/-! mounting -/
theorem rd_rec {f e : Nat → Int32} {p : Nat} (h : (sf_rd f e p).1 = 1 ∨ (sf_rd f e p).1 = 2) : pkey ((sf_rd f e p).2 1) = true := by
  unfold sf_rd sf_rd1 at h ⊢
  split at h
  · rcases h with z | z <;> cases z
  · rename_i hz
    rw [if_neg hz]
    unfold sf_rd2 psafe at h ⊢
    split at h
    · rcases h with z | z <;> cases z
    · rename_i hq
      rw [if_neg hq]
      have hp : prec (pmend (sf_raw f e p) (prem (sf_raw f e p) 178 0 0)).2 = true := by
        cases hh : prec (pmend (sf_raw f e p) (prem (sf_raw f e p) 178 0 0)).2 with
        | true => rfl
        | false => exact absurd ⟨h, hh⟩ hq
      unfold prec at hp
      rw [Bool.and_eq_true, Bool.and_eq_true] at hp
      exact hp.2.1
theorem fp_keep : ∀ n p S, ss_r (ss_fp n p S).2 = ss_r S ∧ ss_f (ss_fp n p S).2 = ss_f S ∧ ss_a (ss_fp n p S).2 = ss_a S ∧ ss_n (ss_fp n p S).2 = ss_n S ∧ ss_d (ss_fp n p S).2 = ss_d S ∧ zl_h (ss_L (ss_fp n p S).2) = zl_h (ss_L S) := by
  intro n
  induction n with
  | zero => intro p S; exact ⟨rfl, rfl, rfl, rfl, rfl, rfl⟩
  | succ n ih =>
    intro p S
    have e : ss_fp (n + 1) p S = if (ss_rd S p).1 = 3 then (false, (ss_rd S p).2) else if (ss_rd S p).1 = 0 then ss_fp n (p + 1) (ss_rd S p).2 else ss_fp n (p + 1) (sp_k S p) := rfl
    rw [e]
    split
    · exact ⟨rfl, rfl, rfl, rfl, rfl, rfl⟩
    · split
      · exact ih (p + 1) (ss_rd S p).2
      · exact ih (p + 1) (sp_k S p)
theorem ms_keep : ∀ n p M any gr, mm_f (sm_ms n p M any gr).1 = mm_f M ∧ mm_c (sm_ms n p M any gr).1 = mm_c M ∧ mm_a (sm_ms n p M any gr).1 = mm_a M ∧ mm_n (sm_ms n p M any gr).1 = mm_n M ∧ mm_h (sm_ms n p M any gr).1 = mm_h M := by
  intro n
  induction n with
  | zero => intro p M any gr; exact ⟨rfl, rfl, rfl, rfl, rfl⟩
  | succ n ih =>
    intro p M any gr
    exact ih (p + 1) (sm_mst M p (sm_rd (mm_f M) (mm_e M) p)) _ _
theorem ms_rF : ∀ n p M any gr, mm_r M = false → mm_r (sm_ms n p M any gr).1 = false := by
  intro n
  induction n with
  | zero => intro p M any gr h; exact h
  | succ n ih =>
    intro p M any gr h
    refine ih (p + 1) (sm_mst M p (sm_rd (mm_f M) (mm_e M) p)) _ _ ?_
    show (mm_r M && !decide ((sm_rd (mm_f M) (mm_e M) p).1 = 3)) = false
    rw [h]; rfl
theorem ms_below : ∀ n p M any gr q, q < p → mm_w (sm_ms n p M any gr).1 q = mm_w M q ∧ mm_s (sm_ms n p M any gr).1 q = mm_s M q := by
  intro n
  induction n with
  | zero => intro p M any gr q _; exact ⟨rfl, rfl⟩
  | succ n ih =>
    intro p M any gr q hq
    have := ih (p + 1) (sm_mst M p (sm_rd (mm_f M) (mm_e M) p)) (any || sm_mw (sm_rd (mm_f M) (mm_e M) p).1) (sm_mgr any gr (sm_mw (sm_rd (mm_f M) (mm_e M) p).1) ((sm_rd (mm_f M) (mm_e M) p).2 0)) q (by omega)
    refine ⟨this.1.trans ?_, this.2.trans ?_⟩
    · show ub (mm_w M) p _ q = _; rw [ub_n (by omega)]
    · show upd (mm_s M) p _ q = _; rw [pk_un (by omega)]
def zgf (w : Nat → Bool) (s : Nat → Int32) : Nat → Nat → Bool → Int32 → Bool × Int32
  | 0, _, any, gr => (any, gr)
  | n + 1, p, any, gr => zgf w s n (p + 1) (any || w p) (sm_mgr any gr (w p) (s p))
theorem ms_gr : ∀ n p M any gr, (sm_ms n p M any gr).2 = zgf (mm_w (sm_ms n p M any gr).1) (mm_s (sm_ms n p M any gr).1) n p any gr := by
  intro n
  induction n with
  | zero => intro p M any gr; rfl
  | succ n ih =>
    intro p M any gr
    have e : sm_ms (n + 1) p M any gr = sm_ms n (p + 1) (sm_mst M p (sm_rd (mm_f M) (mm_e M) p)) (any || sm_mw (sm_rd (mm_f M) (mm_e M) p).1) (sm_mgr any gr (sm_mw (sm_rd (mm_f M) (mm_e M) p).1) ((sm_rd (mm_f M) (mm_e M) p).2 0)) := rfl
    have hb := ms_below n (p + 1) (sm_mst M p (sm_rd (mm_f M) (mm_e M) p)) (any || sm_mw (sm_rd (mm_f M) (mm_e M) p).1) (sm_mgr any gr (sm_mw (sm_rd (mm_f M) (mm_e M) p).1) ((sm_rd (mm_f M) (mm_e M) p).2 0)) p (by omega)
    have h1 : mm_w (sm_mst M p (sm_rd (mm_f M) (mm_e M) p)) p = sm_mw (sm_rd (mm_f M) (mm_e M) p).1 := ub_s
    have h2 : mm_s (sm_mst M p (sm_rd (mm_f M) (mm_e M) p)) p = (sm_rd (mm_f M) (mm_e M) p).2 0 := pk_us
    rw [h1, h2] at hb
    have e3 : ∀ (w : Nat → Bool) (s : Nat → Int32), zgf w s (n + 1) p any gr = zgf w s n (p + 1) (any || w p) (sm_mgr any gr (w p) (s p)) := fun _ _ => rfl
    rw [e, e3, hb.1, hb.2]
    exact ih _ _ _ _
/-- the greatest number, and the newest page -/
theorem zgf_news {w w' : Nat → Bool} {s s' : Nat → Int32} {N : Nat} (hw : ∀ q, q < N → w q = w' q ∧ (w q = true → s q = s' q)) : ∀ n p best any gr, p + n ≤ N → ((best = none ∧ any = false) ∨ ∃ q, best = some q ∧ any = true ∧ gr = s q) → sl_next s (sl_news w s n p best) = sm_mnx (zgf w' s' n p any gr).1 (zgf w' s' n p any gr).2 := by
  intro n
  induction n with
  | zero =>
    intro p best any gr _ h
    rcases h with ⟨h1, h2⟩ | ⟨q, h1, h2, h3⟩
    · subst h1; subst h2; rfl
    · subst h1; subst h2; subst h3; rfl
  | succ n ih =>
    intro p best any gr hp h
    obtain ⟨e1, e2⟩ := hw p (by omega)
    show sl_next s (sl_news w s n (p + 1) (if w p = true ∧ (match (generalizing := false) best with | none => true | some q => decide (s q < s p)) = true then some p else best)) = sm_mnx (zgf w' s' n (p + 1) (any || w' p) (sm_mgr any gr (w' p) (s' p))).1 (zgf w' s' n (p + 1) (any || w' p) (sm_mgr any gr (w' p) (s' p))).2
    refine ih (p + 1) _ _ _ (by omega) ?_
    unfold sm_mgr
    rw [← e1]
    cases hwp : w p with
    | false =>
      rw [if_neg (fun z => by cases z.1), if_neg (fun z => by cases z.1), Bool.or_false]
      exact h
    | true =>
      rw [← e2 hwp, Bool.or_true]
      rcases h with ⟨h1, h2⟩ | ⟨q, h1, h2, h3⟩
      · subst h1; subst h2
        rw [if_pos ⟨rfl, rfl⟩, if_pos ⟨rfl, Or.inl rfl⟩]
        exact Or.inr ⟨p, rfl, rfl, rfl⟩
      · subst h1; subst h2; subst h3
        by_cases hc : s q < s p
        · rw [if_pos ⟨rfl, decide_eq_true hc⟩, if_pos ⟨rfl, Or.inr hc⟩]
          exact Or.inr ⟨p, rfl, rfl, rfl⟩
        · rw [if_neg (fun z => hc (of_decide_eq_true z.2)), if_neg (fun z => z.2.elim (fun y => by cases y) hc)]
          exact Or.inr ⟨q, rfl, rfl, rfl⟩
/-- the pages read so far -/
def zN (bc bp p : Nat) (S : zs_S) (M : zm_S) : Prop := zC bc bp (zf_c (ss_F S)) (mm_f M) ∧ (∀ q, q < p → zl_w (ss_L S) q = mm_w M q ∧ (zl_w (ss_L S) q = true → (zl_s (ss_L S) q = mm_s M q ∧ zl_k (ss_L S) q = mm_k M q ∧ zl_d (ss_L S) q = mm_d M q) ∧ pkey (zl_k (ss_L S) q) = true)) ∧ (∀ q, p ≤ q → q < bc * bp → zl_w (ss_L S) q = false) ∧ mm_r M = true
theorem zN_fp {bc bp : Nat} : ∀ n p S M any gr, p + n ≤ bc * bp → zN bc bp p S M → ((ss_fp n p S).1 = true ∧ zN bc bp (p + n) (ss_fp n p S).2 (sm_ms n p M any gr).1) ∨ ((ss_fp n p S).1 = false ∧ mm_r (sm_ms n p M any gr).1 = false) := by
  intro n
  induction n with
  | zero => intro p S M any gr _ h; exact Or.inl ⟨rfl, h⟩
  | succ n ih =>
    intro p S M any gr hp h
    have e : ss_fp (n + 1) p S = if (ss_rd S p).1 = 3 then (false, (ss_rd S p).2) else if (ss_rd S p).1 = 0 then ss_fp n (p + 1) (ss_rd S p).2 else ss_fp n (p + 1) (sp_k S p) := rfl
    have e2 : sm_ms (n + 1) p M any gr = sm_ms n (p + 1) (sm_mst M p (sm_rd (mm_f M) (mm_e M) p)) (any || sm_mw (sm_rd (mm_f M) (mm_e M) p).1) (sm_mgr any gr (sm_mw (sm_rd (mm_f M) (mm_e M) p).1) ((sm_rd (mm_f M) (mm_e M) p).2 0)) := rfl
    obtain ⟨hC, hA, hB, hR⟩ := h
    have hrd := zC_rd hC (show p < bc * bp by omega) (zf_e (ss_F S)) (mm_e M)
    have er : (ss_rd S p).1 = (sf_rd (zf_c (ss_F S)) (zf_e (ss_F S)) p).1 := rfl
    rw [e, e2, er]
    by_cases h3 : (sf_rd (zf_c (ss_F S)) (zf_e (ss_F S)) p).1 = 3
    · rw [if_pos h3]
      refine Or.inr ⟨rfl, ms_rF _ _ _ _ _ ?_⟩
      show (mm_r M && !decide ((sm_rd (mm_f M) (mm_e M) p).1 = 3)) = false
      rw [← hrd.1, h3, Bool.and_eq_false_iff]
      exact Or.inr rfl
    · rw [if_neg h3]
      have hR2 : mm_r (sm_mst M p (sm_rd (mm_f M) (mm_e M) p)) = true := by
        show (mm_r M && !decide ((sm_rd (mm_f M) (mm_e M) p).1 = 3)) = true
        rw [hR, ← hrd.1, decide_eq_false h3]; rfl
      have hlo : ∀ q, q < p → mm_w (sm_mst M p (sm_rd (mm_f M) (mm_e M) p)) q = mm_w M q ∧ mm_s (sm_mst M p (sm_rd (mm_f M) (mm_e M) p)) q = mm_s M q ∧ mm_k (sm_mst M p (sm_rd (mm_f M) (mm_e M) p)) q = mm_k M q ∧ mm_d (sm_mst M p (sm_rd (mm_f M) (mm_e M) p)) q = mm_d M q := by
        intro q hq
        exact ⟨ub_n (by omega), pk_un (by omega), pk_un (by omega), pk_un (by omega)⟩
      have hwp : mm_w (sm_mst M p (sm_rd (mm_f M) (mm_e M) p)) p = sm_mw (sm_rd (mm_f M) (mm_e M) p).1 := ub_s
      rw [show p + (n + 1) = p + 1 + n by omega]
      by_cases h0 : (sf_rd (zf_c (ss_F S)) (zf_e (ss_F S)) p).1 = 0
      · rw [if_pos h0]
        refine ih (p + 1) (ss_rd S p).2 _ _ _ (by omega) ⟨hC, fun q hq => ?_, fun q h1 h2 => hB q (by omega) h2, hR2⟩
        show zl_w (ss_L S) q = _ ∧ (zl_w (ss_L S) q = true → _)
        by_cases hqp : q = p
        · subst hqp
          have hf := hB q (by omega) (by omega)
          rw [hwp, hf, ← hrd.1, h0]
          exact ⟨rfl, fun z => by cases z⟩
        · obtain ⟨a1, a2, a3, a4⟩ := hlo q (by omega)
          rw [a1, a2, a3, a4]
          exact hA q (by omega)
      · rw [if_neg h0]
        have hle := sf_rd_le (zf_c (ss_F S)) (zf_e (ss_F S)) p
        have h12 : (sf_rd (zf_c (ss_F S)) (zf_e (ss_F S)) p).1 = 1 ∨ (sf_rd (zf_c (ss_F S)) (zf_e (ss_F S)) p).1 = 2 := by omega
        have hz := hrd.2.1 h3
        refine ih (p + 1) (sp_k S p) _ _ _ (by omega) ⟨hC, fun q hq => ?_, fun q h1 h2 => ?_, hR2⟩
        · show ub (zl_w (ss_L S)) p true q = _ ∧ (ub (zl_w (ss_L S)) p true q = true → (upd (zl_s (ss_L S)) p ((sf_rd (zf_c (ss_F S)) (zf_e (ss_F S)) p).2 0) q = _ ∧ upd (zl_k (ss_L S)) p ((sf_rd (zf_c (ss_F S)) (zf_e (ss_F S)) p).2 1) q = _ ∧ upd (zl_d (ss_L S)) p ((sf_rd (zf_c (ss_F S)) (zf_e (ss_F S)) p).2 3) q = _) ∧ pkey (upd (zl_k (ss_L S)) p ((sf_rd (zf_c (ss_F S)) (zf_e (ss_F S)) p).2 1) q) = true)
          by_cases hqp : q = p
          · subst hqp
            have s1 : mm_s (sm_mst M q (sm_rd (mm_f M) (mm_e M) q)) q = (sm_rd (mm_f M) (mm_e M) q).2 0 := pk_us
            have s2 : mm_k (sm_mst M q (sm_rd (mm_f M) (mm_e M) q)) q = (sm_rd (mm_f M) (mm_e M) q).2 1 := pk_us
            have s3 : mm_d (sm_mst M q (sm_rd (mm_f M) (mm_e M) q)) q = (sm_rd (mm_f M) (mm_e M) q).2 3 := pk_us
            have hmw : sm_mw (sm_rd (mm_f M) (mm_e M) q).1 = true := by
              unfold sm_mw
              rw [← hrd.1]
              simpa using h12
            rw [hwp, hmw, ub_s, pk_us, pk_us, pk_us, s1, s2, s3]
            exact ⟨rfl, fun _ => ⟨⟨hz 0 (by omega), hz 1 (by omega), hz 3 (by omega)⟩, rd_rec h12⟩⟩
          · obtain ⟨a1, a2, a3, a4⟩ := hlo q (by omega)
            rw [a1, a2, a3, a4, ub_n hqp, pk_un hqp, pk_un hqp, pk_un hqp]
            exact hA q (by omega)
        · show ub (zl_w (ss_L S)) p true q = false
          rw [ub_n (by omega)]
          exact hB q (by omega) h2
theorem fhs_eq {bc bp : Nat} {w w' : Nat → Bool} (hw : ∀ p, p < bc * bp → w p = w' p) : ∀ n h, n ≤ bc → sl_fhs bp w n h = sm_mhs bp w' n h := by
  intro n
  induction n with
  | zero => intro h _; rfl
  | succ n ih =>
    intro h hn
    show sl_fhs bp w n (if sl_free bp w n = false ∧ 0 < sl_gap bp w n then some n else h) = sm_mhs bp w' n (if 0 < sm_wr bp w' n ∧ sm_wr bp w' n < bp then some n else h)
    have hg := zq_gap hw (show n < bc by omega)
    have hf := zq_free hw (show n < bc by omega)
    have e : (sl_free bp w n = false ∧ 0 < sl_gap bp w n) ↔ (0 < sm_wr bp w' n ∧ sm_wr bp w' n < bp) := by
      rw [hf, decide_eq_false_iff_not]
      omega
    by_cases hc : 0 < sm_wr bp w' n ∧ sm_wr bp w' n < bp
    · rw [if_pos (e.mpr hc), if_pos hc]; exact ih _ (by omega)
    · rw [if_neg (fun z => hc (e.mp z)), if_neg hc]; exact ih _ (by omega)
/-- the log once it is found: as the reference has found it -/
theorem zK_found {bc bp : Nat} {S : zs_S} {M : zm_S} {x : Int32} (h : zN bc bp (bc * bp) S M) (hf : ss_f S = mm_c M) (hd : ss_d S = mm_n M) (ha : zarm (ss_a S) (ss_n S) (mm_a M)) (hx : sl_next (zl_s (ss_L S)) (sl_news (zl_w (ss_L S)) (zl_s (ss_L S)) (bc * bp) 0 none) = x) : zK bc bp (ss_mh bc bp (ss_setr (ss_fn bc bp S) true)) (sm_mhd bc bp M x) := by
  obtain ⟨hC, hA, hB, hR⟩ := h
  have hw : ∀ p, p < bc * bp → zl_w (ss_L S) p = mm_w M p := fun p hp => (hA p hp).1
  refine ⟨hC, ⟨hR.symm, hf, hd, ha⟩, fhs_ok bc bp _, ⟨⟨hw, fun p hp h1 => ((hA p hp).2 h1).1⟩, fhs_eq hw bc none (Nat.le_refl _), hx⟩, fun p hp h1 => ((hA p hp).2 h1).2⟩
theorem zK_mcl {bc bp : Nat} (hbp : 0 < bp) {S : zs_S} {M : zm_S} (h : zK bc bp S M) : zK bc bp (ss_mc bc bp S) (sm_mcl bc bp M) := by
  unfold ss_mc sm_mcl
  rw [zK_fr h]
  by_cases hc : sm_fr bc bp (mm_w M) = 0
  · rw [if_pos hc, if_pos hc]
    obtain ⟨c1, c2⟩ := zK_clean hbp h
    rcases hm : sm_choose bc bp M with _ | b
    · exact (c1 hm).2
    · exact (c2 b hm).2
  · rw [if_neg hc, if_neg hc]; exact h
theorem zR_mount {bc bp : Nat} (hbp : 0 < bp) {S : zs_S} {M : zm_S} (h : zR bc bp S M) : (ss_mount bc bp S).1 = (sm_mount bc bp M).1 ∧ zR bc bp (ss_mount bc bp S).2 (sm_mount bc bp M).2 := by
  obtain ⟨hC, ⟨p1, p2, p3, p4⟩, hh, hm, hL⟩ := h
  have h0 : zN bc bp 0 (ss_setL (ss_up S) (sl_all bc bp (ss_L S))) (sm_mup M) := by
    refine ⟨hC, fun q hq => by omega, fun q _ hq => ?_, rfl⟩
    exact sl_fasE bp bc 0 _ q (by omega) (by rw [Nat.zero_add]; exact hq)
  have hf := zN_fp (bc * bp) 0 _ (sm_mup M) false 0 (by omega) h0
  have kS := fp_keep (bc * bp) 0 (ss_setL (ss_up S) (sl_all bc bp (ss_L S)))
  have kc := fp_c (bc * bp) 0 (ss_setL (ss_up S) (sl_all bc bp (ss_L S)))
  have kM := ms_keep (bc * bp) 0 (sm_mup M) false 0
  have kg := ms_gr (bc * bp) 0 (sm_mup M) false 0
  have e1 : ss_mount bc bp S = ss_mo bc bp (ss_find2 bc bp (ss_fp (bc * bp) 0 (ss_setL (ss_up S) (sl_all bc bp (ss_L S))))) := rfl
  have e2 : sm_mount bc bp M = sm_mo bc bp (sm_ms (bc * bp) 0 (sm_mup M) false 0) := rfl
  rw [e1, e2]
  generalize ss_fp (bc * bp) 0 (ss_setL (ss_up S) (sl_all bc bp (ss_L S))) = g at hf kS kc
  generalize sm_ms (bc * bp) 0 (sm_mup M) false 0 = g' at hf kM kg
  obtain ⟨o, T⟩ := g
  obtain ⟨N, any, gr⟩ := g'
  obtain ⟨s1, s2, s3, s4, s5, s6⟩ := kS
  obtain ⟨m1, m2, m3, m4, m5⟩ := kM
  have s2Q : ss_f T = false := s2
  have s3Q : ss_a T = false := s3
  have s4Q : ss_n T = 0 := s4
  have s5Q : ss_d T = ss_d S := s5
  have s6Q : zl_h (ss_L T) = none := s6
  have kcQ : zf_c (ss_F T) = zf_c (ss_F S) := kc
  have m1Q : mm_f N = mm_f M := m1
  have m2Q : mm_c N = false := m2
  have m3Q : mm_a N = -1 := m3
  have m4Q : mm_n N = mm_n M := m4
  have m5Q : mm_h N = mm_h M := m5
  have ha : zarm (ss_a T) (ss_n T) (mm_a N) := by
    rw [s3Q, m3Q]
    exact ⟨fun z => (by cases z), fun _ => rfl⟩
  rcases hf with ⟨c1, c2⟩ | ⟨c1, c2⟩
  · have c1 : o = true := c1
    subst c1
    rw [Nat.zero_add] at c2
    have c2 : zN bc bp (bc * bp) T N := c2
    have hr : mm_r N = true := c2.2.2.2
    have kg : (any, gr) = zgf (mm_w N) (mm_s N) (bc * bp) 0 false 0 := kg
    have hx := zgf_news (w := zl_w (ss_L T)) (w' := mm_w N) (s := zl_s (ss_L T)) (s' := mm_s N) (N := bc * bp) (fun q hq => ⟨(c2.2.1 q hq).1, fun z => ((c2.2.1 q hq).2 z).1.1⟩) (bc * bp) 0 none false 0 (by omega) (Or.inl ⟨rfl, rfl⟩)
    rw [← kg] at hx
    have hk := zK_found c2 (by rw [s2Q, m2Q]) (by rw [s5Q, m4Q]; exact p3) ha hx
    have hk2 := zK_mcl hbp hk
    have e3 : ss_mo bc bp (ss_find2 bc bp (true, T)) = (nI (sl_hks bc bp (ss_L (ss_mc bc bp (ss_mh bc bp (ss_setr (ss_fn bc bp T) true)))) 16 0 0), ss_mc bc bp (ss_mh bc bp (ss_setr (ss_fn bc bp T) true))) := rfl
    have e4 : sm_mo bc bp (N, any, gr) = sm_mo1 bc bp (sm_mcl bc bp (sm_mhd bc bp N (sm_mnx any gr))) := if_pos hr
    rw [e3, e4]
    refine ⟨?_, hk2.R⟩
    show nI (sl_hks bc bp (ss_L (ss_mc bc bp (ss_mh bc bp (ss_setr (ss_fn bc bp T) true)))) 16 0 0) = nI (sm_hks bc bp (sm_mcl bc bp (sm_mhd bc bp N (sm_mnx any gr))) 16 0 0)
    rw [hks_eq hbp hk2.2.2.2.1]
  · have c1 : o = false := c1
    subst c1
    have c2 : mm_r N = false := c2
    have e3 : ss_mo bc bp (ss_find2 bc bp (false, T)) = (-1, ss_setr T false) := rfl
    have e4 : sm_mo bc bp (N, any, gr) = (-1, N) := if_neg (show ¬ mm_r N = true by rw [c2]; decide)
    rw [e3, e4]
    refine ⟨rfl, ?_, ⟨c2.symm, ?_, ?_, ha⟩, ?_, ?_, fun z => (by cases z)⟩
    · show zC bc bp (zf_c (ss_F T)) (mm_f N); rw [kcQ, m1Q]; exact hC
    · show ss_f T = mm_c N; rw [s2Q, m2Q]
    · show ss_d T = mm_n N; rw [s5Q, m4Q]; exact p3
    · show zh_ok bc (zl_h (ss_L T)); rw [s6Q]; exact fun j hj => by cases hj
    · show zh_ok bc (mm_h N); rw [m5Q]; exact hm
