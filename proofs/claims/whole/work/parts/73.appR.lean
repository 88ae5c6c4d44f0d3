theorem rs5 {f' u : Nat → Int32} {p : Nat} (h : ∀ k, k < 5 → u k = f' (6 * p + k)) : ∀ n i a, i + n ≤ 160 → sm_rs f' p n i a = prem u n i a := by
  intro n
  induction n with
  | zero => intro i a _; rfl
  | succ n ih =>
    intro i a hi
    show sm_rs f' p n (i + 1) (if sm_bit f' p i = true then a ^^^ kt i else a) = prem u n (i + 1) (if pbit u i = true then a ^^^ kt i else a)
    have e : sm_bit f' p i = pbit u i := by
      unfold sm_bit pbit
      rw [h (i / 32) (by omega)]
    rw [e]
    exact ih (i + 1) _ (by omega)
theorem nI_low {n : Nat} (h : n < 262144) : (nI n).toBitVec.toNat < 2 ^ 18 := by
  have e : (nI n).toBitVec.toNat = n % 2 ^ 32 := rfl
  rw [e]
  omega
theorem rec_w (e : Nat → Int32) (x k v d : Int32) : sf_rec4 (sf_recd e x k v d) 0 = x ∧ sf_rec4 (sf_recd e x k v d) 1 = k ∧ sf_rec4 (sf_recd e x k v d) 2 = v ∧ sf_rec4 (sf_recd e x k v d) 3 = d ∧ sf_rec4 (sf_recd e x k v d) 4 = pchk x k v d := by
  have h0 : sf_recd e x k v d 0 = x := by simp [sf_recd, upd]
  have h1 : sf_recd e x k v d 1 = k := by simp [sf_recd, upd]
  have h2 : sf_recd e x k v d 2 = v := by simp [sf_recd, upd]
  have h3 : sf_recd e x k v d 3 = d := by simp [sf_recd, upd]
  refine ⟨?_, ?_, ?_, ?_, ?_⟩
  · unfold sf_rec4; rw [pk_un (by decide), h0]
  · unfold sf_rec4; rw [pk_un (by decide), h1]
  · unfold sf_rec4; rw [pk_un (by decide), h2]
  · unfold sf_rec4; rw [pk_un (by decide), h3]
  · unfold sf_rec4; rw [pk_us, h0, h1, h2, h3]
theorem pg_w (f : Nat → Int32) (p : Nat) (x k v d : Int32) : sm_pg5 f p x k v d (6 * p + 0) = x ∧ sm_pg5 f p x k v d (6 * p + 1) = k ∧ sm_pg5 f p x k v d (6 * p + 2) = v ∧ sm_pg5 f p x k v d (6 * p + 3) = d ∧ sm_pg5 f p x k v d (6 * p + 4) = pchk x k v d := by
  unfold sm_pg5
  refine ⟨?_, ?_, ?_, ?_, ?_⟩
  · rw [pk_un (by omega), pk_un (by omega), pk_un (by omega), pk_un (by omega), pk_un (by omega)]; exact pk_us
  · rw [pk_un (by omega), pk_un (by omega), pk_un (by omega), pk_un (by omega)]; exact pk_us
  · rw [pk_un (by omega), pk_un (by omega), pk_un (by omega)]; exact pk_us
  · rw [pk_un (by omega), pk_un (by omega)]; exact pk_us
  · rw [pk_un (by omega)]; exact pk_us
theorem lt5 {P : Nat → Prop} (h0 : P 0) (h1 : P 1) (h2 : P 2) (h3 : P 3) (h4 : P 4) : ∀ k, k < 5 → P k := by
  intro k hk
  rcases (by omega : k = 0 ∨ k = 1 ∨ k = 2 ∨ k = 3 ∨ k = 4) with q | q | q | q | q
  · subst q; exact h0
  · subst q; exact h1
  · subst q; exact h2
  · subst q; exact h3
  · subst q; exact h4
theorem rec_pg (f e : Nat → Int32) (p : Nat) (x k v d : Int32) : ∀ j, j < 5 → sf_rec4 (sf_recd e x k v d) j = sm_pg5 f p x k v d (6 * p + j) := by
  obtain ⟨a0, a1, a2, a3, a4⟩ := rec_w e x k v d
  obtain ⟨b0, b1, b2, b3, b4⟩ := pg_w f p x k v d
  exact lt5 (a0.trans b0.symm) (a1.trans b1.symm) (a2.trans b2.symm) (a3.trans b3.symm) (a4.trans b4.symm)
/-- a record written alike -/
theorem zC_rec {bc bp : Nat} {f f' : Nat → Int32} {p : Nat} (e : Nat → Int32) (x k v d : Int32) (h : zC bc bp f f') : zC bc bp (sf_put f (sf_rec e x k v d) p) (sm_pg f' p x k v d) := by
  have hw := rec_pg f' e p x k v d
  have hr := rs5 hw 160 0 0 (by omega)
  have h5 : sf_rec e x k v d 5 = nI (prem (sf_rec4 (sf_recd e x k v d)) 160 0 0) := by unfold sf_rec sf_rec5; exact pk_us
  refine zC_page h ?_ (fun j => ?_) (fun j hj => ?_)
  · rw [h5]
    exact nI_low (prem_lt _ 160 0 0 (by decide))
  · by_cases hc : p * 6 ≤ j ∧ j < p * 6 + 6
    · rw [if_pos hc]
    · rw [if_neg hc]
      unfold sm_pg sm_pg5
      rw [pk_un (by omega), pk_un (by omega), pk_un (by omega), pk_un (by omega), pk_un (by omega), pk_un (by omega), pk_un (by omega)]
  · by_cases e5 : j = 5
    · subst e5
      rw [h5]
      unfold sm_pg
      rw [pk_us, hr]
    · unfold sm_pg sf_rec sf_rec5
      rw [pk_un (by omega), pk_un e5]
      exact (hw j (by omega)).symm
/-- the record of a change, at the head's gap -/
theorem zK_write {bc bp : Nat} {S : zs_S} {M : zm_S} {k : Int32} (v d : Int32) (hk : pkey k = true) (h : zK bc bp S M) (hg : sm_gap bc bp M) :
    (sa_2 (ss_wr bp (sa_r S k v d) (zl_x (ss_L S)) k d)).1 = (sm_app2 bp k v d (sm_act M)).1 ∧ zK bc bp (sa_2 (ss_wr bp (sa_r S k v d) (zl_x (ss_L S)) k d)).2 (sm_app2 bp k v d (sm_act M)).2 := by
  obtain ⟨g, g1, g2, g3, g4⟩ := zK_place h hg
  obtain ⟨hC, hP, hh, hL, hkk⟩ := h
  have hact := zP_act (S := sa_r S k v d) (M := M) hP
  have mL := may_L (sa_r S k v d)
  have mF := may_F (sa_r S k v d)
  have ew : ss_wr bp (sa_r S k v d) (zl_x (ss_L S)) k d = ss_wr2 g (zl_x (ss_L S)) k d (ss_may (sa_r S k v d)) := by
    show ss_wr1 (sa_r S k v d) _ _ _ (sl_hg bp (zl_w (ss_L S)) (zl_h (ss_L S))) = _
    rw [g1]; rfl
  have hE := sm_actE M
  rw [ew]
  rcases hm : ss_may (sa_r S k v d) with ⟨c, T⟩
  rcases ha : sm_act M with ⟨c', N⟩
  rw [hm] at hact mL mF
  rw [ha] at hact hE
  obtain ⟨e1, hP2⟩ := hact
  have e1 : c = c' := e1
  subst e1
  have hP3 : zP T N := hP2
  have mL' : ss_L T = ss_L S := mL
  have mF' : ss_F T = (zf_c (ss_F S), sf_rec (zf_e (ss_F S)) (zl_x (ss_L S)) k v d) := mF
  have hE' : N = _ := hE
  have f1 : mm_f N = mm_f M := by rw [hE']; rfl
  have f2 : mm_w N = mm_w M := by rw [hE']; rfl
  have f3 : mm_s N = mm_s M := by rw [hE']; rfl
  have f4 : mm_k N = mm_k M := by rw [hE']; rfl
  have f5 : mm_d N = mm_d M := by rw [hE']; rfl
  have f6 : mm_h N = mm_h M := by rw [hE']; rfl
  have f7 : mm_x N = mm_x M := by rw [hE']; rfl
  cases c with
  | false =>
    have es : sa_2 (ss_wr2 g (zl_x (ss_L S)) k d (false, T)) = (-2, T) := if_neg (show ¬ (-2 : Int32) = 0 by decide)
    rw [es]
    refine ⟨rfl, ?_, hP3, ?_, ⟨?_, ?_, ?_⟩, ?_⟩
    · show zC bc bp (zf_c (ss_F T)) (mm_f N); rw [mF', f1]; exact hC
    · show zh_ok bc (zl_h (ss_L T)); rw [mL']; exact hh
    · show zq_same (bc * bp) (zl_w (ss_L T)) (mm_w N) (zl_s (ss_L T)) (mm_s N) (zl_k (ss_L T)) (mm_k N) (zl_d (ss_L T)) (mm_d N)
      rw [mL', f2, f3, f4, f5]; exact hL.1
    · show zl_h (ss_L T) = mm_h N; rw [mL', f6]; exact hL.2.1
    · show zl_x (ss_L T) = mm_x N; rw [mL', f7]; exact hL.2.2
    · intro q hq hwq
      have hwq : zl_w (ss_L T) q = true := hwq
      show pkey (zl_k (ss_L T) q) = true
      rw [mL'] at hwq ⊢; exact hkk q hq hwq
  | true =>
    have es : sa_2 (ss_wr2 g (zl_x (ss_L S)) k d (true, T)) = (0, ss_setL (ss_setF T (sf_put (zf_c (ss_F T)) (zf_e (ss_F T)) g, zf_e (ss_F T))) (sl_setX (sl_know (ss_L T) g (zl_x (ss_L S)) k d) (zl_x (ss_L T) + 1))) := if_pos (show (0 : Int32) = 0 from rfl)
    rw [es]
    have hx := hL.2.2
    refine ⟨rfl, ?_, hP3, ?_, ⟨?_, ?_, ?_⟩, ?_⟩
    · show zC bc bp (sf_put (zf_c (ss_F T)) (zf_e (ss_F T)) g) (sm_pg (mm_f N) (sm_plO bp (mm_w N) (mm_h N)) (mm_x N) k v d)
      rw [mF', f1, f2, f6, f7, g2, ← hx]
      exact zC_rec _ _ _ _ _ hC
    · show zh_ok bc (zl_h (ss_L T)); rw [mL']; exact hh
    · show zq_same (bc * bp) (ub (zl_w (ss_L T)) g true) (ub (mm_w N) (sm_plO bp (mm_w N) (mm_h N)) true) (upd (zl_s (ss_L T)) g (zl_x (ss_L S))) (upd (mm_s N) (sm_plO bp (mm_w N) (mm_h N)) (mm_x N)) (upd (zl_k (ss_L T)) g k) (upd (mm_k N) (sm_plO bp (mm_w N) (mm_h N)) k) (upd (zl_d (ss_L T)) g d) (upd (mm_d N) (sm_plO bp (mm_w N) (mm_h N)) d)
      rw [mL', f2, f3, f4, f5, f6, f7, g2, ← hx]
      exact zq_know hL.1 g _ _ _
    · show zl_h (ss_L T) = mm_h N; rw [mL', f6]; exact hL.2.1
    · show zl_x (ss_L T) + 1 = mm_x N + 1; rw [mL', f7, hx]
    · intro q hq hwq
      have hwq : ub (zl_w (ss_L T)) g true q = true := hwq
      show pkey (upd (zl_k (ss_L T)) g k q) = true
      rw [mL'] at hwq ⊢
      by_cases e : q = g
      · subst e; rw [pk_us]; exact hk
      · rw [pk_un e]; rw [ub_n e] at hwq; exact hkk q hq hwq
theorem zK_app {bc bp : Nat} (hbp : 0 < bp) {S : zs_S} {M : zm_S} {k : Int32} (v d : Int32) (hk : pkey k = true) (h : zK bc bp S M) :
    (sk_app bc bp S k v d).1 = (sm_app bc bp M k v d).1 ∧ zK bc bp (sk_app bc bp S k v d).2 (sm_app bc bp M k v d).2 := by
  have hl := zK_hl h
  have hfr := zK_fr h
  have e0 : ∀ T, sa_1 bp k v d (0, T) = sa_2 (ss_wr bp (sa_r T k v d) (zl_x (ss_L T)) k d) := fun T => if_pos (show (0 : Int32) = 0 from rfl)
  unfold sk_app sm_app
  by_cases hn : sl_hg bp (zl_w (ss_L S)) (zl_h (ss_L S)) = none
  · rw [decide_eq_true hn] at hl
    rw [if_pos hl]
    by_cases hf : 1 < sm_fr bc bp (mm_w M)
    · rw [if_pos hf]
      have eo : sl_openH bc bp (ss_L S) 2 = sl_setH (ss_L S) (sl_lows bp (zl_w (ss_L S)) bc 0) := if_pos ⟨hn, by omega⟩
      rw [eo]
      have h2 := zK_setH h
      have hg := sm_lowG hbp hf
      obtain ⟨g, g1, _⟩ := zK_place h2 hg
      have es : sa_0 bc bp (ss_setL S (sl_setH (ss_L S) (sl_lows bp (zl_w (ss_L S)) bc 0))) = (0, ss_setL S (sl_setH (ss_L S) (sl_lows bp (zl_w (ss_L S)) bc 0))) := if_neg (by rw [g1]; simp)
      rw [es, e0]
      exact zK_write v d hk h2 hg
    · rw [if_neg hf]
      have eo : sl_openH bc bp (ss_L S) 2 = ss_L S := if_neg (fun z => by have := z.2; omega)
      rw [eo]
      have es : sa_0 bc bp (ss_setL S (ss_L S)) = sk_clean bc bp S := if_pos hn
      rw [es]
      obtain ⟨c1, c2⟩ := zK_clean hbp h
      rcases hc : sm_choose bc bp M with _ | b
      · obtain ⟨d1, d2⟩ := c1 hc
        have e1 : sa_1 bp k v d (sk_clean bc bp S) = sk_clean bc bp S := if_neg (by rw [d1]; decide)
        rw [e1]
        exact ⟨d1, d2⟩
      · obtain ⟨d1, d2⟩ := c2 b hc
        have hgap := (sm_clI hbp h.hm hc).2 hl
        show (sa_1 bp k v d (sk_clean bc bp S)).1 = (sm_app1 bp k v d (sm_clean bc bp M b)).1 ∧ zK bc bp (sa_1 bp k v d (sk_clean bc bp S)).2 (sm_app1 bp k v d (sm_clean bc bp M b)).2
        rcases hs : sk_clean bc bp S with ⟨o, T⟩
        rcases hm : sm_clean bc bp M b with ⟨o', N⟩
        rw [hs, hm] at d1 d2
        rw [hm] at hgap
        rcases d1 with ⟨q1, q2⟩ | ⟨q1, q2⟩
        · have q1 : o = 0 := q1
          have q2 : o' = true := q2
          subst q1; subst q2
          rw [e0]
          exact zK_write v d hk d2 (hgap rfl)
        · have q1 : o = -2 := q1
          have q2 : o' = false := q2
          subst q1; subst q2
          have e1 : sa_1 bp k v d (-2, T) = (-2, T) := if_neg (show ¬ (-2 : Int32) = 0 by decide)
          rw [e1]
          exact ⟨rfl, d2⟩
  · rw [decide_eq_false hn] at hl
    rw [if_neg (by rw [hl]; decide)]
    have eo : sl_openH bc bp (ss_L S) 2 = ss_L S := if_neg (fun z => hn z.1)
    rw [eo]
    have es : sa_0 bc bp (ss_setL S (ss_L S)) = (0, ss_setL S (ss_L S)) := if_neg hn
    rw [es, e0]
    exact zK_write (S := ss_setL S (ss_L S)) v d hk h (sm_hlG h.hm hl)
theorem zR_put {bc bp : Nat} (hbp : 0 < bp) {S : zs_S} {M : zm_S} (k v : Int32) (h : zR bc bp S M) : (ss_put bc bp S k v).1 = (sm_put bc bp M k v).1 ∧ zR bc bp (ss_put bc bp S k v).2 (sm_put bc bp M k v).2 := by
  unfold ss_put sm_put
  rw [← h.2.1.1]
  by_cases hk : pkey k = true
  · rw [if_pos hk, if_pos hk]
    by_cases hr : ss_r S = true
    · rw [if_pos hr, if_pos hr]
      have := zK_app hbp v 1 hk (h.K hr)
      exact ⟨this.1, this.2.R⟩
    · rw [if_neg hr, if_neg hr]
      exact ⟨rfl, h⟩
  · rw [if_neg hk, if_neg hk]
    exact ⟨rfl, h⟩
theorem zR_rem {bc bp : Nat} (hbp : 0 < bp) {S : zs_S} {M : zm_S} (k : Int32) (h : zR bc bp S M) : (ss_rem bc bp S k).1 = (sm_rem bc bp M k).1 ∧ zR bc bp (ss_rem bc bp S k).2 (sm_rem bc bp M k).2 := by
  unfold ss_rem sm_rem
  rw [← h.2.1.1]
  by_cases hk : pkey k = true
  · rw [if_pos hk, if_pos hk]
    by_cases hr : ss_r S = true
    · rw [if_pos hr, if_pos hr, ← zq_held hbp (h.K hr).2.2.2.1]
      by_cases hd : sl_held bc bp (ss_L S) k = true
      · rw [if_pos hd, if_pos hd]
        have := zK_app hbp 0 2 hk (h.K hr)
        exact ⟨this.1, this.2.R⟩
      · rw [if_neg hd, if_neg hd]
        exact ⟨rfl, h⟩
    · rw [if_neg hr, if_neg hr]
      exact ⟨rfl, h⟩
  · rw [if_neg hk, if_neg hk]
    exact ⟨rfl, h⟩
