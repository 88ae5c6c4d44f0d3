theorem sm_cls_q (bp : Nat) : ∀ n p M, mm_q (sm_cls bp n p M).2 = mm_q M := by
  intro n
  induction n with
  | zero => intro p M; rfl
  | succ n ih =>
    intro p M
    show mm_q (if mm_q M p = true then (if (sm_copy bp M p).1 = true then sm_cls bp n (p + 1) (sm_copy bp M p).2 else (false, (sm_copy bp M p).2)) else sm_cls bp n (p + 1) M).2 = _
    split
    · split
      · rw [ih, sm_copy_q]
      · exact sm_copy_q bp M p
    · exact ih (p + 1) M
theorem sm_cls_skip (bp : Nat) : ∀ n p M, (∀ q, p ≤ q → q < p + n → mm_q M q = false) → sm_cls bp n p M = (true, M) := by
  intro n
  induction n with
  | zero => intro p M _; rfl
  | succ n ih =>
    intro p M h
    show (if mm_q M p = true then (if (sm_copy bp M p).1 = true then sm_cls bp n (p + 1) (sm_copy bp M p).2 else (false, (sm_copy bp M p).2)) else sm_cls bp n (p + 1) M) = _
    rw [if_neg (by rw [h p (by omega) (by omega)]; decide)]
    exact ih (p + 1) M (fun q h1 h2 => h q (by omega) (by omega))
theorem sm_cls_app (bp : Nat) : ∀ a b p M, sm_cls bp (a + b) p M = if (sm_cls bp a p M).1 = true then sm_cls bp b (p + a) (sm_cls bp a p M).2 else sm_cls bp a p M := by
  intro a
  induction a with
  | zero =>
    intro b p M
    show _ = if true = true then sm_cls bp b (p + 0) M else _
    rw [if_pos rfl, Nat.zero_add, Nat.add_zero]
  | succ a ih =>
    intro b p M
    rw [show a + 1 + b = (a + b) + 1 by omega]
    have e1 : sm_cls bp (a + b + 1) p M = if mm_q M p = true then (if (sm_copy bp M p).1 = true then sm_cls bp (a + b) (p + 1) (sm_copy bp M p).2 else (false, (sm_copy bp M p).2)) else sm_cls bp (a + b) (p + 1) M := rfl
    have e2 : sm_cls bp (a + 1) p M = if mm_q M p = true then (if (sm_copy bp M p).1 = true then sm_cls bp a (p + 1) (sm_copy bp M p).2 else (false, (sm_copy bp M p).2)) else sm_cls bp a (p + 1) M := rfl
    rw [e1, e2, show p + (a + 1) = p + 1 + a by omega]
    by_cases hc : mm_q M p = true
    · rw [if_pos hc, if_pos hc]
      by_cases h2 : (sm_copy bp M p).1 = true
      · rw [if_pos h2, if_pos h2]; exact ih b (p + 1) _
      · rw [if_neg h2, if_neg h2, if_neg (show ¬ (false, (sm_copy bp M p).2).1 = true from fun z => by cases z)]
    · rw [if_neg hc, if_neg hc]; exact ih b (p + 1) M
theorem sm_clsOk_pre {bc bp : Nat} : ∀ a b p M, sm_clsOk bc bp (a + b) p M → sm_clsOk bc bp a p M := by
  intro a
  induction a with
  | zero => intro b p M _; exact trivial
  | succ a ih =>
    intro b p M h
    rw [show a + 1 + b = (a + b) + 1 by omega] at h
    exact ⟨fun q => ⟨(h.1 q).1, fun q2 => ih b (p + 1) _ ((h.1 q).2 q2)⟩, fun q => ih b (p + 1) M (h.2 q)⟩
theorem sm_clsOk_skip {bc bp : Nat} : ∀ a b p M, (∀ q, p ≤ q → q < p + a → mm_q M q = false) → sm_clsOk bc bp (a + b) p M → sm_clsOk bc bp b (p + a) M := by
  intro a
  induction a with
  | zero => intro b p M _ h; rw [Nat.zero_add] at h; exact h
  | succ a ih =>
    intro b p M hq h
    rw [show a + 1 + b = (a + b) + 1 by omega] at h
    rw [show p + (a + 1) = p + 1 + a by omega]
    exact ih b (p + 1) M (fun q h1 h2 => hq q (by omega) (by omega)) (h.2 (hq p (by omega) (by omega)))
theorem zK_cls {bc bp : Nat} : ∀ n p S M, zK bc bp S M → sm_clsOk bc bp n p M → p + n ≤ bc * bp → (∀ q, p ≤ q → q < p + n → zl_m (ss_L S) q = mm_q M q ∧ (mm_q M q = true → zl_w (ss_L S) q = true)) → (((sk_s bp n p S).1 = 0 ∧ (sm_cls bp n p M).1 = true) ∨ ((sk_s bp n p S).1 = -2 ∧ (sm_cls bp n p M).1 = false)) ∧ zK bc bp (sk_s bp n p S).2 (sm_cls bp n p M).2 := by
  intro n
  induction n with
  | zero => intro p S M h _ _ _; exact ⟨Or.inl ⟨rfl, rfl⟩, h⟩
  | succ n ih =>
    intro p S M h hok hp hq
    have e1 : sk_s bp (n + 1) p S = if zl_m (ss_L S) p = true then (if (sk_w bp S p).1 = 0 then sk_s bp n (p + 1) (sk_w bp S p).2 else sk_w bp S p) else sk_s bp n (p + 1) S := rfl
    have e2 : sm_cls bp (n + 1) p M = if mm_q M p = true then (if (sm_copy bp M p).1 = true then sm_cls bp n (p + 1) (sm_copy bp M p).2 else (false, (sm_copy bp M p).2)) else sm_cls bp n (p + 1) M := rfl
    obtain ⟨m1, m2⟩ := hq p (by omega) (by omega)
    rw [e1, e2, m1]
    by_cases hc : mm_q M p = true
    · rw [if_pos hc, if_pos hc]
      have hk := hok.1 hc
      obtain ⟨c1, c2, c3, c4⟩ := zK_copy h hk.1 (by omega) (m2 hc)
      rcases c1 with ⟨d1, d2⟩ | ⟨d1, d2⟩
      · rw [if_pos d1, if_pos d2]
        refine ih (p + 1) _ _ c2 (hk.2 d2) (by omega) (fun q h1 h2 => ?_)
        rw [c3, sm_copy_q]
        obtain ⟨g1, g2⟩ := hq q (by omega) (by omega)
        exact ⟨g1, fun z => c4 q (g2 z)⟩
      · rw [if_neg (show ¬ (sk_w bp S p).1 = 0 by rw [d1]; decide), if_neg (show ¬ (sm_copy bp M p).1 = true by rw [d2]; decide)]
        exact ⟨Or.inr ⟨d1, rfl⟩, c2⟩
    · rw [if_neg hc, if_neg hc]
      exact ih (p + 1) S M h (hok.2 (zb_tf hc)) (by omega) (fun q h1 h2 => hq q (by omega) (by omega))
theorem sl_fbsE (bp b : Nat) : ∀ n k w i, sl_fbs bp b n k w i = if b * bp + k ≤ i ∧ i < b * bp + k + n then false else w i := by
  intro n
  induction n with
  | zero =>
    intro k w i
    show w i = _
    rw [if_neg (by omega)]
  | succ n ih =>
    intro k w i
    show sl_fbs bp b n (k + 1) (ub w (b * bp + k) false) i = _
    rw [ih]
    by_cases h : i = b * bp + k
    · subst h
      rw [if_neg (by omega), if_pos (by omega), ub_s]
    · by_cases h2 : b * bp + (k + 1) ≤ i ∧ i < b * bp + (k + 1) + n
      · rw [if_pos h2, if_pos (by omega)]
      · rw [if_neg h2, if_neg (by omega), ub_n h]
theorem sl_fbE (bp b : Nat) (w : Nat → Bool) (i : Nat) : sl_fb bp b w i = if b * bp ≤ i ∧ i < b * bp + bp then false else w i := by
  unfold sl_fb
  rw [sl_fbsE, Nat.add_zero]
/-- a block erased -/
theorem zK_erase {bc bp : Nat} {S : zs_S} {M : zm_S} (b : Nat) (h : zK bc bp S M) : zK bc bp (sk_e bp b S) (sm_wipe bp b M) := by
  obtain ⟨hC, hP, hh, ⟨hE, hx⟩, hk⟩ := h
  have hw : ∀ i, sl_fb bp b (zl_w (ss_L S)) i = true → zl_w (ss_L S) i = true := by
    intro i hi
    rw [sl_fbE] at hi
    split at hi
    · cases hi
    · exact hi
  refine ⟨zC_ers _ bp (b * bp) _ _ hC, hP, hh, ⟨⟨fun p hp => ?_, fun p hp h1 => hE.2 p hp (hw p h1)⟩, hx⟩, fun p hp h1 => hk p hp (hw p h1)⟩
  show sl_fb bp b (zl_w (ss_L S)) p = sm_bgw bp (b * bp) (mm_w M) p
  rw [sl_fbE, sm_bgwE, hE.1 p hp]
theorem zK_act {bc bp : Nat} {S : zs_S} {M : zm_S} (h : zK bc bp S M) : (ss_may S).1 = (sm_act M).1 ∧ zK bc bp (ss_may S).2 (sm_act M).2 := by
  obtain ⟨hC, hP, hh, ⟨hE, hx⟩, hk⟩ := h
  obtain ⟨e, hP2⟩ := zP_act hP
  refine ⟨e, ?_, hP2, ?_, ⟨?_, ?_⟩, ?_⟩
  · rw [may_F, sm_actE]; exact hC
  · rw [may_L]; exact hh
  · rw [may_L, sm_actE]; exact hE
  · rw [may_L, sm_actE]; exact hx
  · rw [may_L]; exact hk
/-- the copies of a whole cleaning, and the erasing -/
theorem zK_clean2 {bc bp b : Nat} (hbp : 0 < bp) (hb : b < bc) {S : zs_S} {M : zm_S} (h : zK bc bp S M) (hok : sm_clsOk bc bp (bc * bp) 0 M) (hq : ∀ q, q < bc * bp → mm_q M q = (decide (q / bp = b) && zl_m (ss_L S) q)) (hm : ∀ q, q < bc * bp → zl_m (ss_L S) q = true → zl_w (ss_L S) q = true) :
    (((sk_3 bp b (sk_s bp bp (b * bp) S)).1 = 0 ∧ (sm_cl2 bp b (sm_cls bp (bc * bp) 0 M)).1 = true) ∨ ((sk_3 bp b (sk_s bp bp (b * bp) S)).1 = -2 ∧ (sm_cl2 bp b (sm_cls bp (bc * bp) 0 M)).1 = false)) ∧ zK bc bp (sk_3 bp b (sk_s bp bp (b * bp) S)).2 (sm_cl2 bp b (sm_cls bp (bc * bp) 0 M)).2 := by
  have hk := zq_blk (bp := bp) hb
  generalize hr : bc * bp - (b * bp + bp) = r
  have e : bc * bp = b * bp + (bp + r) := by omega
  have z1 : ∀ q, 0 ≤ q → q < 0 + b * bp → mm_q M q = false := fun q _ h2 => by
    rw [hq q (by omega), decide_eq_false (fun z => by rw [zq_div hbp] at z; omega), Bool.false_and]
  have z2 : ∀ q, b * bp + bp ≤ q → q < b * bp + bp + r → mm_q M q = false := fun q h1 h2 => by
    rw [hq q (by omega), decide_eq_false (fun z => by rw [zq_div hbp] at z; omega), Bool.false_and]
  have z3 : ∀ q, b * bp ≤ q → q < b * bp + bp → zl_m (ss_L S) q = mm_q M q := fun q h1 h2 => by
    rw [hq q (by omega), decide_eq_true ((zq_div hbp).mpr ⟨h1, h2⟩), Bool.true_and]
  have ok1 : sm_clsOk bc bp bp (b * bp) M := by
    have h1 : sm_clsOk bc bp (b * bp + (bp + r)) 0 M := by rw [← e]; exact hok
    have h2 := sm_clsOk_skip (b * bp) (bp + r) 0 M z1 h1
    rw [Nat.zero_add] at h2
    exact sm_clsOk_pre bp r (b * bp) M h2
  obtain ⟨c1, c2⟩ := zK_cls bp (b * bp) S M h ok1 (by omega) (fun q h1 h2 => ⟨z3 q h1 h2, fun z => hm q (by omega) (by rw [z3 q h1 h2]; exact z)⟩)
  have ec : sm_cls bp (bc * bp) 0 M = sm_cls bp bp (b * bp) M := by
    rw [show sm_cls bp (bc * bp) 0 M = sm_cls bp (b * bp + (bp + r)) 0 M from by rw [← e]]
    rw [sm_cls_app, sm_cls_skip bp (b * bp) 0 M z1, if_pos rfl, Nat.zero_add]
    show sm_cls bp (bp + r) (b * bp) M = _
    rw [sm_cls_app, sm_cls_skip bp r (b * bp + bp) _ (fun q h1 h2 => by rw [sm_cls_q]; exact z2 q h1 h2)]
    split
    · rename_i hs
      rw [← hs]
    · rfl
  rw [ec]
  rcases hs : sk_s bp bp (b * bp) S with ⟨o, T⟩
  rcases hcl : sm_cls bp bp (b * bp) M with ⟨o', N⟩
  rw [hs, hcl] at c1 c2
  have c2 : zK bc bp T N := c2
  rcases c1 with ⟨d1, d2⟩ | ⟨d1, d2⟩
  · have d1 : o = 0 := d1
    have d2 : o' = true := d2
    subst d1; subst d2
    have e1 : sk_3 bp b (0, T) = sk_4 bp b (ss_may T) := if_pos rfl
    have e2 : sm_cl2 bp b (true, N) = sm_cl3 bp b (sm_act N) := rfl
    rw [e1, e2]
    obtain ⟨a1, a2⟩ := zK_act c2
    rcases hma : ss_may T with ⟨o1, T1⟩
    rcases hac : sm_act N with ⟨o2, N1⟩
    rw [hma, hac] at a1 a2
    have a1 : o1 = o2 := a1
    have a2 : zK bc bp T1 N1 := a2
    subst a1
    cases o1 with
    | false => exact ⟨Or.inr ⟨rfl, rfl⟩, a2⟩
    | true => exact ⟨Or.inl ⟨rfl, rfl⟩, zK_erase b a2⟩
  · have d1 : o = -2 := d1
    have d2 : o' = false := d2
    subst d1; subst d2
    exact ⟨Or.inr ⟨rfl, rfl⟩, c2⟩
/-- the head moves alike -/
theorem zK_setH {bc bp : Nat} {S : zs_S} {M : zm_S} (h : zK bc bp S M) : zK bc bp (ss_setL S (sl_setH (ss_L S) (sl_lows bp (zl_w (ss_L S)) bc 0))) (sm_setH M (sm_low bc bp (mm_w M))) := by
  obtain ⟨hC, hP, hh, ⟨hE, hx⟩, hk⟩ := h
  exact ⟨hC, hP, zq_lowOk bc bp _, ⟨hE, (zq_low hE.1).symm, hx.2⟩, hk⟩
theorem zK_hl {bc bp : Nat} {S : zs_S} {M : zm_S} (h : zK bc bp S M) : sm_hl bp (mm_w M) (mm_h M) = decide (sl_hg bp (zl_w (ss_L S)) (zl_h (ss_L S)) = none) := by
  obtain ⟨hC, hP, hh, ⟨hE, hx⟩, hk⟩ := h
  rw [← hx.1]; exact zq_hl hE.1 hh
theorem zK_fr {bc bp : Nat} {S : zs_S} {M : zm_S} (h : zK bc bp S M) : sl_fr bc bp (ss_L S) = sm_fr bc bp (mm_w M) := zq_frs h.2.2.2.1.1.1 bc 0 0 (by omega)
theorem zK_clean {bc bp : Nat} (hbp : 0 < bp) {S : zs_S} {M : zm_S} (h : zK bc bp S M) :
    (sm_choose bc bp M = none → (sk_clean bc bp S).1 = -1 ∧ zK bc bp (sk_clean bc bp S).2 M) ∧ ∀ b, sm_choose bc bp M = some b → (((sk_clean bc bp S).1 = 0 ∧ (sm_clean bc bp M b).1 = true) ∨ ((sk_clean bc bp S).1 = -2 ∧ (sm_clean bc bp M b).1 = false)) ∧ zK bc bp (sk_clean bc bp S).2 (sm_clean bc bp M b).2 := by
  have hz := zq_choose hbp h.2.2.2.1 h.2.2.1
  have hl := zK_hl h
  have hfr := zK_fr h
  refine ⟨fun hn => ?_, fun b hb => ?_⟩
  · rw [hz.1] at hn
    rcases hc : sl_choose bc bp (ss_L S) with _ | b
    · have e : sk_clean bc bp S = (-1, sk_m bc bp S) := by unfold sk_clean; rw [hc]; rfl
      rw [e]; exact ⟨rfl, h⟩
    · rw [hc] at hn
      have h2 : sl_hg bp (zl_w (ss_L S)) (zl_h (ss_L S)) = none ∧ sl_fr bc bp (ss_L S) = 0 := by
        rcases Classical.em (sl_hg bp (zl_w (ss_L S)) (zl_h (ss_L S)) = none ∧ sl_fr bc bp (ss_L S) = 0) with q | q
        · exact q
        · rw [if_neg q] at hn; cases hn
      have eo : sl_openH bc bp (sl_setM (ss_L S) (sl_mn bc bp (ss_L S))) 1 = sl_setM (ss_L S) (sl_mn bc bp (ss_L S)) := by
        unfold sl_openH
        rw [if_neg (fun z => by have z2 : 1 ≤ sl_fr bc bp (ss_L S) := z.2; omega)]
      have e : sk_clean bc bp S = (-1, sk_m bc bp S) := by
        unfold sk_clean
        rw [hc]
        show sk_2 bp (ss_setL (sk_m bc bp S) (sl_openH bc bp (sl_setM (ss_L S) (sl_mn bc bp (ss_L S))) 1)) b = _
        rw [eo]
        show (if sl_hg bp (zl_w (ss_L S)) (zl_h (ss_L S)) = none then (-1, ss_setL (sk_m bc bp S) (sl_setM (ss_L S) (sl_mn bc bp (ss_L S)))) else _) = _
        rw [if_pos h2.1]
        rfl
      rw [e]; exact ⟨rfl, h⟩
  · have hok := sm_clI hbp h.hm hb
    have hI := sm_chooseI hb
    rw [hz.1] at hb
    have hnn : ¬ (sl_hg bp (zl_w (ss_L S)) (zl_h (ss_L S)) = none ∧ sl_fr bc bp (ss_L S) = 0) := fun z => by rw [if_pos z] at hb; cases hb
    rw [if_neg hnn] at hb
    have ek : sk_clean bc bp S = sk_2 bp (ss_setL (sk_m bc bp S) (sl_openH bc bp (sl_setM (ss_L S) (sl_mn bc bp (ss_L S))) 1)) b := by
      unfold sk_clean
      rw [hb]; rfl
    have em : sm_clean bc bp M b = sm_cl2 bp b (sm_cls bp (bc * bp) 0 (sm_cl0 bc bp M b)) := rfl
    -- both have moved the head
    have hx : zK bc bp (ss_setL (sk_m bc bp S) (sl_openH bc bp (sl_setM (ss_L S) (sl_mn bc bp (ss_L S))) 1)) (sm_cl0 bc bp M b) ∧ sm_gap bc bp (sm_cl0 bc bp M b) ∧ zl_m (sl_openH bc bp (sl_setM (ss_L S) (sl_mn bc bp (ss_L S))) 1) = sl_mn bc bp (ss_L S) ∧ mm_q (sm_cl0 bc bp M b) = sm_wts bc bp M b (bc * bp) 0 (mm_q M) := by
      unfold sl_openH sm_cl0 sm_cl1
      by_cases hn : sl_hg bp (zl_w (ss_L S)) (zl_h (ss_L S)) = none
      · have h1 : 1 ≤ sl_fr bc bp (ss_L S) := by
          rcases Nat.eq_zero_or_pos (sl_fr bc bp (ss_L S)) with q | q
          · exact absurd ⟨hn, q⟩ hnn
          · exact q
        rw [decide_eq_true hn] at hl
        have c1 : sl_hg bp (zl_w (sl_setM (ss_L S) (sl_mn bc bp (ss_L S)))) (zl_h (sl_setM (ss_L S) (sl_mn bc bp (ss_L S)))) = none ∧ 1 ≤ sl_fr bc bp (sl_setM (ss_L S) (sl_mn bc bp (ss_L S))) := ⟨hn, h1⟩
        have c2 : sm_hl bp (mm_w (sm_setQ M (sm_wts bc bp M b (bc * bp) 0 (mm_q M)))) (mm_h (sm_setQ M (sm_wts bc bp M b (bc * bp) 0 (mm_q M)))) = true := hl
        rw [if_pos c1, if_pos c2]
        refine ⟨zK_setH (S := sk_m bc bp S) (M := sm_setQ M (sm_wts bc bp M b (bc * bp) 0 (mm_q M))) h, ?_, rfl, rfl⟩
        obtain ⟨j, q1, q2, q3⟩ := sm_lowS (hI.2.2.1 hl)
        have := zng_wr0 bp (mm_w M) j
        exact sm_gapI (M := sm_setH (sm_setQ M (sm_wts bc bp M b (bc * bp) 0 (mm_q M))) (sm_low bc bp (mm_w M))) q1 q2 (by show 0 < zng (mm_w M) bp (j * bp); omega)
      · rw [decide_eq_false hn] at hl
        have c1 : ¬ (sl_hg bp (zl_w (sl_setM (ss_L S) (sl_mn bc bp (ss_L S)))) (zl_h (sl_setM (ss_L S) (sl_mn bc bp (ss_L S)))) = none ∧ 1 ≤ sl_fr bc bp (sl_setM (ss_L S) (sl_mn bc bp (ss_L S)))) := fun z => hn z.1
        have c2 : ¬ sm_hl bp (mm_w (sm_setQ M (sm_wts bc bp M b (bc * bp) 0 (mm_q M)))) (mm_h (sm_setQ M (sm_wts bc bp M b (bc * bp) 0 (mm_q M)))) = true := by
          show ¬ sm_hl bp (mm_w M) (mm_h M) = true
          rw [hl]; decide
        rw [if_neg c1, if_neg c2]
        exact ⟨h, sm_hlG (M := sm_setQ M (sm_wts bc bp M b (bc * bp) 0 (mm_q M))) h.hm hl, rfl, rfl⟩
    obtain ⟨x1, x2, x3, x4⟩ := hx
    obtain ⟨g, g1, _⟩ := zK_place x1 x2
    generalize hS1 : ss_setL (sk_m bc bp S) (sl_openH bc bp (sl_setM (ss_L S) (sl_mn bc bp (ss_L S))) 1) = S1 at ek x1 g1
    have x5 : zl_m (ss_L S1) = sl_mn bc bp (ss_L S) := by rw [← hS1]; exact x3
    have x6 : zl_w (ss_L S1) = zl_w (ss_L S) := by rw [← hS1]; exact openH_w bc bp _ 1
    have e3 : sk_2 bp S1 b = sk_3 bp b (sk_s bp bp (b * bp) S1) := by
      unfold sk_2
      rw [g1, if_neg (by simp)]
    rw [ek, em, e3]
    refine zK_clean2 hbp hI.1 x1 hok.1 (fun q hq => ?_) (fun q hq hm => ?_)
    · rw [x4, x5, sm_wtsE, if_pos (by omega), zq_mn hbp h.2.2.2.1 hq]
    · rw [x5, zq_mn hbp h.2.2.2.1 hq] at hm
      rw [x6, h.2.2.2.1.1.1 q hq]
      unfold sm_need at hm
      split at hm
      · rename_i z; exact z.1
      · cases hm
