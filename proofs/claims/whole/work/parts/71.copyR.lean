/-! the store and the reference side by side -/
def zC (bc bp : Nat) (f f' : Nat → Int32) : Prop := (∀ j, j < bc * bp * 6 → f j = f' j) ∧ slow (bc * bp) f
def zarm (a : Bool) (n m : Int32) : Prop := (a = true → m = n ∧ 0 ≤ n) ∧ (a = false → m = -1)
def zP (S : zs_S) (M : zm_S) : Prop := ss_r S = mm_r M ∧ ss_f S = mm_c M ∧ ss_d S = mm_n M ∧ zarm (ss_a S) (ss_n S) (mm_a M)
def zR1 (bc bp : Nat) (L : zl_S) (M : zm_S) : Prop := zq_lm bc bp L M ∧ ∀ p, p < bc * bp → zl_w L p = true → pkey (zl_k L p) = true
/-- with what the log knows -/
def zK (bc bp : Nat) (S : zs_S) (M : zm_S) : Prop := zC bc bp (zf_c (ss_F S)) (mm_f M) ∧ zP S M ∧ zh_ok bc (zl_h (ss_L S)) ∧ zR1 bc bp (ss_L S) M
/-- while it is ready -/
def zR (bc bp : Nat) (S : zs_S) (M : zm_S) : Prop := zC bc bp (zf_c (ss_F S)) (mm_f M) ∧ zP S M ∧ zh_ok bc (zl_h (ss_L S)) ∧ zh_ok bc (mm_h M) ∧ (ss_r S = true → zR1 bc bp (ss_L S) M)
theorem zK.R {bc bp : Nat} {S : zs_S} {M : zm_S} (h : zK bc bp S M) : zR bc bp S M := ⟨h.1, h.2.1, h.2.2.1, by rw [← h.2.2.2.1.2.1]; exact h.2.2.1, fun _ => h.2.2.2⟩
theorem zR.K {bc bp : Nat} {S : zs_S} {M : zm_S} (h : zR bc bp S M) (hr : ss_r S = true) : zK bc bp S M := ⟨h.1, h.2.1, h.2.2.1, h.2.2.2.2 hr⟩
theorem zK.hm {bc bp : Nat} {S : zs_S} {M : zm_S} (h : zK bc bp S M) : zh_ok bc (mm_h M) := h.R.2.2.2.1
theorem i_dec0 {x : Int32} (h : 0 ≤ x) (h0 : ¬ x = 0) : 0 < x ∧ 0 ≤ x - 1 := by
  have hx : 0 < x := Int32.lt_of_le_of_ne h (fun z => h0 z.symm)
  refine ⟨hx, ?_⟩
  rw [Int32.lt_iff_toInt_lt, Int32.toInt_zero] at hx
  rw [Int32.le_iff_toInt_le, Int32.toInt_zero, Int32.toInt_sub]
  have h1 : (1 : Int32).toInt = 1 := by decide
  have h2 := Int32.toInt_lt x
  rw [h1, Int.bmod_eq_of_le (by omega) (by omega)]
  omega
theorem zP_act {S : zs_S} {M : zm_S} (h : zP S M) : (ss_may S).1 = (sm_act M).1 ∧ zP (ss_may S).2 (sm_act M).2 := by
  obtain ⟨h1, h2, h3, h4, h5⟩ := h
  unfold ss_may sm_act
  cases ha : ss_a S with
  | false =>
    have e := h5 ha
    rw [if_neg (fun z => by cases z.1), if_neg (show ¬ mm_a M = 0 by rw [e]; decide)]
    refine ⟨rfl, h1, h2, ?_, ?_⟩
    · show ss_d S + 1 = mm_n M + 1; rw [h3]
    · refine ⟨fun z => (by cases z), fun _ => ?_⟩
      show (if 0 < mm_a M then mm_a M - 1 else mm_a M) = -1
      rw [e]; decide
  | true =>
    obtain ⟨e, hn⟩ := h4 ha
    by_cases h0 : ss_n S = 0
    · rw [if_pos ⟨rfl, h0⟩, if_pos (show mm_a M = 0 by rw [e, h0])]
      exact ⟨rfl, rfl, rfl, h3, fun _ => ⟨e, hn⟩, fun z => by cases z⟩
    · rw [if_neg (fun z => h0 z.2), if_neg (show ¬ mm_a M = 0 by rw [e]; exact h0)]
      obtain ⟨q1, q2⟩ := i_dec0 hn h0
      refine ⟨rfl, h1, h2, ?_, ?_⟩
      · show ss_d S + 1 = mm_n M + 1; rw [h3]
      · refine ⟨fun _ => ?_, fun z => by cases z⟩
        show (if 0 < mm_a M then mm_a M - 1 else mm_a M) = (if true = true then ss_n S - 1 else ss_n S) ∧ 0 ≤ (if true = true then ss_n S - 1 else ss_n S)
        rw [e, if_pos q1, if_pos rfl]
        exact ⟨rfl, q2⟩
/-! the cells -/
theorem sm_wlsE (e : Nat → Int32) (to : Nat) : ∀ n k f j, sm_wls e to n k f j = if 6 * to + k ≤ j ∧ j < 6 * to + k + n then e (j - 6 * to) else f j := by
  intro n
  induction n with
  | zero =>
    intro k f j
    show f j = _
    rw [if_neg (by omega)]
  | succ n ih =>
    intro k f j
    show sm_wls e to n (k + 1) (upd f (6 * to + k) (e k)) j = _
    rw [ih]
    by_cases h : j = 6 * to + k
    · subst h
      rw [if_neg (by omega), if_pos (by omega), pk_us]
      congr 1; omega
    · by_cases h2 : 6 * to + (k + 1) ≤ j ∧ j < 6 * to + (k + 1) + n
      · rw [if_pos h2, if_pos (by omega)]
      · rw [if_neg h2, if_neg (by omega), pk_un h]
theorem sm_wcsE {fr to : Nat} (hne : fr ≠ to) : ∀ n k f j, k + n ≤ 6 → sm_wcs fr to n k f j = if 6 * to + k ≤ j ∧ j < 6 * to + k + n then f (6 * fr + (j - 6 * to)) else f j := by
  intro n
  induction n with
  | zero =>
    intro k f j _
    show f j = _
    rw [if_neg (by omega)]
  | succ n ih =>
    intro k f j hk
    show sm_wcs fr to n (k + 1) (upd f (6 * to + k) (f (6 * fr + k))) j = _
    rw [ih _ _ _ (by omega)]
    by_cases h : j = 6 * to + k
    · subst h
      rw [if_neg (by omega), if_pos (by omega), pk_us]
      congr 1; omega
    · by_cases h2 : 6 * to + (k + 1) ≤ j ∧ j < 6 * to + (k + 1) + n
      · rw [if_pos h2, if_pos (by omega), pk_un (by omega)]
      · rw [if_neg h2, if_neg (by omega), pk_un h]
theorem sf_putE (f e : Nat → Int32) (p j : Nat) : sf_put f e p j = if p * 6 ≤ j ∧ j < p * 6 + 6 then e (j - p * 6) else f j := by
  unfold sf_put
  by_cases h : p * 6 ≤ j ∧ j < p * 6 + 6
  · rw [if_pos h, pk_cpy_in h.1 h.2, Nat.zero_add]
  · rw [if_neg h, pk_cpy_out (by omega)]
/-- a page written alike -/
theorem zC_page {bc bp : Nat} {f f' g' e : Nat → Int32} {p : Nat} (h : zC bc bp f f') (he : (e 5).toBitVec.toNat < 2 ^ 18) (hg : ∀ j, g' j = if p * 6 ≤ j ∧ j < p * 6 + 6 then g' j else f' j) (hp : ∀ k, k < 6 → g' (6 * p + k) = e k) : zC bc bp (sf_put f e p) g' := by
  refine ⟨fun j hj => ?_, put_low h.2 he⟩
  rw [sf_putE, hg j]
  by_cases hc : p * 6 ≤ j ∧ j < p * 6 + 6
  · rw [if_pos hc, if_pos hc, ← hp (j - p * 6) (by omega)]
    congr 1; omega
  · rw [if_neg hc, if_neg hc]; exact h.1 j hj
theorem zC_put {bc bp : Nat} {f f' e e' : Nat → Int32} {p : Nat} (h : zC bc bp f f') (he : (e 5).toBitVec.toNat < 2 ^ 18) (hw : zw_eq e e') : zC bc bp (sf_put f e p) (sm_wls e' p 6 0 f') := by
  refine zC_page h he (fun j => ?_) (fun k hk => ?_)
  · rw [sm_wlsE]
    by_cases hc : p * 6 ≤ j ∧ j < p * 6 + 6
    · rw [if_pos hc]
    · rw [if_neg hc, if_neg (by omega)]
  · rw [sm_wlsE, if_pos (by omega), hw k hk]
    congr 1; omega
theorem zC_raw {bc bp : Nat} {f f' e e' : Nat → Int32} {p to : Nat} (h : zC bc bp f f') (he : (e 5).toBitVec.toNat < 2 ^ 18) (hne : p ≠ to) (hp : p < bc * bp) (hw : ∀ k, k < 6 → e k = f (p * 6 + k)) : zC bc bp (sf_put f e to) (sm_wcs p to 6 0 (sm_wls e' to 6 0 f')) := by
  refine zC_page h he (fun j => ?_) (fun k hk => ?_)
  · rw [sm_wcsE hne _ _ _ _ (by omega)]
    by_cases hc : to * 6 ≤ j ∧ j < to * 6 + 6
    · rw [if_pos hc]
    · rw [if_neg hc, if_neg (by omega), sm_wlsE, if_neg (by omega)]
  · rw [sm_wcsE hne _ _ _ _ (by omega), if_pos (by omega), sm_wlsE, if_neg (by omega), hw k hk, h.1 _ (by omega)]
    congr 1; omega
theorem sf_flsE (v : Int32) : ∀ n i f j, sf_fls v n i f j = if i ≤ j ∧ j < i + n then v else f j := by
  intro n
  induction n with
  | zero =>
    intro i f j
    show f j = _
    rw [if_neg (by omega)]
  | succ n ih =>
    intro i f j
    show sf_fls v n (i + 1) (upd f i v) j = _
    rw [ih]
    by_cases h : j = i
    · subst h
      rw [if_neg (by omega), if_pos (by omega), pk_us]
    · by_cases h2 : i + 1 ≤ j ∧ j < i + 1 + n
      · rw [if_pos h2, if_pos (by omega)]
      · rw [if_neg h2, if_neg (by omega), pk_un h]
theorem sf_erE (e : Nat → Int32) (k : Nat) (hk : k < 6) : sf_er e k = if k = 5 then 262143 else -1 := by
  unfold sf_er
  by_cases h : k = 5
  · subst h; rw [pk_us, if_pos rfl]
  · rw [pk_un h, sf_flsE, if_pos (by omega), if_neg h]
theorem sm_ersE (p : Nat) : ∀ n k f j, sm_ers p n k f j = if 6 * p + k ≤ j ∧ j < 6 * p + k + n then -1 else f j := by
  intro n
  induction n with
  | zero =>
    intro k f j
    show f j = _
    rw [if_neg (by omega)]
  | succ n ih =>
    intro k f j
    show sm_ers p n (k + 1) (upd f (6 * p + k) (-1)) j = _
    rw [ih]
    by_cases h : j = 6 * p + k
    · subst h
      rw [if_neg (by omega), if_pos (by omega), pk_us]
    · by_cases h2 : 6 * p + (k + 1) ≤ j ∧ j < 6 * p + (k + 1) + n
      · rw [if_pos h2, if_pos (by omega)]
      · rw [if_neg h2, if_neg (by omega), pk_un h]
theorem er_low (e : Nat → Int32) : (sf_er e 5).toBitVec.toNat < 2 ^ 18 := by
  rw [sf_erE e 5 (by omega), if_pos rfl]; decide
theorem zC_er {bc bp : Nat} {f f' : Nat → Int32} {p : Nat} (e : Nat → Int32) (h : zC bc bp f f') : zC bc bp (sf_put f (sf_er e) p) (sm_er p f') := by
  refine zC_page h (er_low e) (fun j => ?_) (fun k hk => ?_)
  · by_cases hc : p * 6 ≤ j ∧ j < p * 6 + 6
    · rw [if_pos hc]
    · rw [if_neg hc]
      unfold sm_er
      rw [pk_un (by omega), sm_ersE, if_neg (by omega)]
  · rw [sf_erE e k hk]
    unfold sm_er
    by_cases h5 : k = 5
    · subst h5; rw [pk_us, if_pos rfl]
    · rw [pk_un (by omega), sm_ersE, if_pos (by omega), if_neg h5]
theorem zC_ers {bc bp : Nat} (e : Nat → Int32) : ∀ n p f f', zC bc bp f f' → zC bc bp (sf_eps (sf_er e) n p f) (sm_bgf n p f') := by
  intro n
  induction n with
  | zero => intro p f f' h; exact h
  | succ n ih => intro p f f' h; exact ih (p + 1) _ _ (zC_er e h)
/-! what is known of a page -/
theorem zq_know {n : Nat} {w w' : Nat → Bool} {s s' k k' d d' : Nat → Int32} (E : zq_same n w w' s s' k k' d d') (g : Nat) (a b c : Int32) : zq_same n (ub w g true) (ub w' g true) (upd s g a) (upd s' g a) (upd k g b) (upd k' g b) (upd d g c) (upd d' g c) := by
  refine ⟨fun p hp => ?_, fun p hp hw => ?_⟩
  · by_cases h : p = g
    · subst h; rw [ub_s, ub_s]
    · rw [ub_n h, ub_n h]; exact E.1 p hp
  · by_cases h : p = g
    · subst h; simp only [pk_us]; exact ⟨trivial, trivial, trivial⟩
    · rw [ub_n h] at hw
      rw [pk_un h, pk_un h, pk_un h, pk_un h, pk_un h, pk_un h]
      exact E.2 p hp hw
/-- where both write: the lowest gap of the head -/
theorem zK_place {bc bp : Nat} {S : zs_S} {M : zm_S} (h : zK bc bp S M) (hg : sm_gap bc bp M) : ∃ g, sl_hg bp (zl_w (ss_L S)) (zl_h (ss_L S)) = some g ∧ sm_plO bp (mm_w M) (mm_h M) = g ∧ g < bc * bp ∧ zl_w (ss_L S) g = false := by
  obtain ⟨hd, q1, q2, q, q3, q4, q5⟩ := hg
  have hw := h.2.2.2.1.1.1
  have e : zl_h (ss_L S) = some hd := by rw [h.2.2.2.1.2.1]; exact q1
  have hb := zq_blk (bp := bp) q2
  rcases zq_hg hw q2 with ⟨p, a1, a2, a3, a4, a5, a6⟩ | ⟨a1, a2⟩
  · exact ⟨p, by rw [e]; exact a1, by rw [q1]; exact a2, by omega, a5⟩
  · exfalso
    have := zng_wr0 bp (mm_w M) hd
    have h2 : 0 < zng (mm_w M) bp (hd * bp) := qn_some bp (hd * bp) q q3 q4 (by show (!mm_w M q) = true; rw [q5]; rfl)
    omega
/-- a copy -/
theorem zK_copy {bc bp : Nat} {S : zs_S} {M : zm_S} {p : Nat} (h : zK bc bp S M) (hg : sm_gap bc bp M) (hp : p < bc * bp) (hwp : zl_w (ss_L S) p = true) :
    (((sk_w bp S p).1 = 0 ∧ (sm_copy bp M p).1 = true) ∨ ((sk_w bp S p).1 = -2 ∧ (sm_copy bp M p).1 = false)) ∧ zK bc bp (sk_w bp S p).2 (sm_copy bp M p).2 ∧ zl_m (ss_L (sk_w bp S p).2) = zl_m (ss_L S) ∧ ∀ q, zl_w (ss_L S) q = true → zl_w (ss_L (sk_w bp S p).2) q = true := by
  obtain ⟨g, g1, g2, g3, g4⟩ := zK_place h hg
  obtain ⟨hC, hP, hh, hL, hk⟩ := h
  have hne : p ≠ g := fun z => by rw [z, g4] at hwp; cases hwp
  have hact := zP_act (S := (ss_rd S p).2) (M := M) hP
  have er : zw_eq (sf_rd (zf_c (ss_F S)) (zf_e (ss_F S)) p).2 (sf_rd (zf_c (ss_F S)) (zf_e (ss_F S)) p).2 := fun _ _ => rfl
  have mL := may_L (ss_rd S p).2
  have mF := may_F (ss_rd S p).2
  have ew : sk_w bp S p = ss_wr2 g (zl_s (ss_L S) p) (zl_k (ss_L S) p) (zl_d (ss_L S) p) (ss_may (ss_rd S p).2) := by
    show ss_wr1 (ss_rd S p).2 _ _ _ (sl_hg bp (zl_w (ss_L S)) (zl_h (ss_L S))) = _
    rw [g1]; rfl
  have ec : sm_copy bp M p = sm_copy2 bp p (sm_act M) := rfl
  have hE := sm_actE M
  rw [ew, ec]
  rcases hm : ss_may (ss_rd S p).2 with ⟨c, T⟩
  rcases ha : sm_act M with ⟨c', N⟩
  rw [hm] at hact mL mF
  rw [ha] at hact hE
  obtain ⟨e1, hP2⟩ := hact
  have e1 : c = c' := e1
  have hP2 : zP T N := hP2
  have mL' : ss_L T = ss_L S := mL
  have mF' : ss_F T = (zf_c (ss_F S), (sf_rd (zf_c (ss_F S)) (zf_e (ss_F S)) p).2) := mF
  have hE : N = _ := hE
  have f1 : mm_f N = mm_f M := by rw [hE]; rfl
  have f2 : mm_w N = mm_w M := by rw [hE]; rfl
  have f3 : mm_s N = mm_s M := by rw [hE]; rfl
  have f4 : mm_k N = mm_k M := by rw [hE]; rfl
  have f5 : mm_d N = mm_d M := by rw [hE]; rfl
  have f6 : mm_h N = mm_h M := by rw [hE]; rfl
  have f7 : mm_x N = mm_x M := by rw [hE]; rfl
  have hL2 : zq_lm bc bp (ss_L S) N := by
    unfold zq_lm
    rw [f2, f3, f4, f5, f6, f7]; exact hL
  subst e1
  cases c with
  | false =>
    refine ⟨Or.inr ⟨rfl, rfl⟩, ⟨?_, hP2, ?_, ?_, ?_⟩, ?_, ?_⟩
    · show zC bc bp (zf_c (ss_F T)) (mm_f N); rw [mF', f1]; exact hC
    · show zh_ok bc (zl_h (ss_L T)); rw [mL']; exact hh
    · show zq_lm bc bp (ss_L T) N; rw [mL']; exact hL2
    · intro q hq hwq
      have hwq : zl_w (ss_L T) q = true := hwq
      show pkey (zl_k (ss_L T) q) = true
      rw [mL'] at hwq ⊢; exact hk q hq hwq
    · show zl_m (ss_L T) = zl_m (ss_L S); rw [mL']
    · intro q hq; show zl_w (ss_L T) q = true; rw [mL']; exact hq
  | true =>
    have hv := hL.1.2 p hp hwp
    have hrd := zw_rd (f := zf_c (ss_F S)) (f' := mm_f M) (e := zf_e (ss_F S)) (e' := mm_e N) (p := p) (fun k hk => by rw [hC.1 _ (by omega)]; congr 1; omega) (hC.2 p hp)
    have hlow := rd_low (e := zf_e (ss_F S)) (hC.2 p hp)
    refine ⟨Or.inl ⟨rfl, rfl⟩, ⟨?_, hP2, ?_, ⟨?_, ?_, ?_⟩, ?_⟩, ?_, ?_⟩
    · show zC bc bp (sf_put (zf_c (ss_F T)) (zf_e (ss_F T)) g) (sm_cpF (mm_f N) (sm_rd (mm_f N) (mm_e N) p).2 (sm_rd (mm_f N) (mm_e N) p).1 p (sm_plO bp (mm_w N) (mm_h N)))
      rw [mF', f1, f2, f6, g2]
      show zC bc bp (sf_put (zf_c (ss_F S)) (sf_rd (zf_c (ss_F S)) (zf_e (ss_F S)) p).2 g) _
      unfold sm_cpF
      rw [← hrd.1]
      by_cases h3 : (sf_rd (zf_c (ss_F S)) (zf_e (ss_F S)) p).1 = 3
      · rw [if_pos h3]
        exact zC_raw hC hlow hne hp (hrd.2.2 h3)
      · rw [if_neg h3]
        exact zC_put hC hlow (hrd.2.1 h3)
    · show zh_ok bc (zl_h (ss_L T)); rw [mL']; exact hh
    · show zq_same (bc * bp) (ub (zl_w (ss_L T)) g true) (ub (mm_w N) (sm_plO bp (mm_w N) (mm_h N)) true) (upd (zl_s (ss_L T)) g (zl_s (ss_L S) p)) (upd (mm_s N) (sm_plO bp (mm_w N) (mm_h N)) (mm_s N p)) (upd (zl_k (ss_L T)) g (zl_k (ss_L S) p)) (upd (mm_k N) (sm_plO bp (mm_w N) (mm_h N)) (mm_k N p)) (upd (zl_d (ss_L T)) g (zl_d (ss_L S) p)) (upd (mm_d N) (sm_plO bp (mm_w N) (mm_h N)) (mm_d N p))
      rw [mL', f2, f3, f4, f5, f6, g2, ← hv.1, ← hv.2.1, ← hv.2.2]
      exact zq_know hL.1 g _ _ _
    · show zl_h (ss_L T) = mm_h N; rw [mL', f6]; exact hL.2.1
    · show zl_x (ss_L T) = mm_x N; rw [mL', f7]; exact hL.2.2
    · intro q hq hwq
      have hwq : ub (zl_w (ss_L T)) g true q = true := hwq
      show pkey (upd (zl_k (ss_L T)) g (zl_k (ss_L S) p) q) = true
      rw [mL'] at hwq ⊢
      by_cases e : q = g
      · subst e; rw [pk_us]; exact hk p hp hwp
      · rw [pk_un e]; rw [ub_n e] at hwq; exact hk q hq hwq
    · show zl_m (ss_L T) = zl_m (ss_L S); rw [mL']
    · intro q hq
      show ub (zl_w (ss_L T)) g true q = true
      rw [mL']
      by_cases e : q = g
      · subst e; rw [ub_s]
      · rw [ub_n e]; exact hq
