/-! the log and the reference say the same: where both know the same of the pages below n -/
def zq_same (n : Nat) (w w' : Nat → Bool) (s s' k k' d d' : Nat → Int32) : Prop :=
  (∀ p, p < n → w p = w' p) ∧ (∀ p, p < n → w p = true → s p = s' p ∧ k p = k' p ∧ d p = d' p)
theorem zq_in {bp : Nat} (hb : 0 < bp) (p : Nat) (h : Option Nat) : sl_in bp p h = sm_isH bp h p := by
  cases h with
  | none => simp [sl_in, sm_isH]
  | some j =>
    simp only [sl_in, sm_isH, Option.some.injEq]
    rw [← Bool.decide_and]
    apply decide_eq_decide.mpr
    constructor
    · rintro ⟨h1, h2⟩
      exact (Nat.div_eq_of_lt_le h1 (by rw [Nat.succ_mul]; exact h2)).symm
    · intro h1
      subst h1
      have h2 := Nat.div_add_mod p bp
      have h3 := Nat.mod_lt p hb
      rw [Nat.mul_comm] at h2
      omega
theorem zq_l2 (x : Int32) (b : Bool) : (2 * x.toInt64 + (bI b).toInt64).toInt = 2 * x.toInt + (if b = true then 1 else 0) := by
  have h1 : x.toInt64.toInt = x.toInt := Int32.toInt_toInt64 x
  have h2 : (bI b).toInt64.toInt = if b = true then 1 else 0 := by cases b <;> decide
  have l1 := Int32.le_toInt x
  have l2 := Int32.toInt_lt x
  have e2 : (2 : Int64).toInt = 2 := by decide
  rw [Int64.toInt_add, Int64.toInt_mul, h1, h2, e2]
  have e3 : (2 * x.toInt).bmod (2 ^ 64) = 2 * x.toInt := by
    apply Int.bmod_eq_of_le <;> omega
  rw [e3]
  apply Int.bmod_eq_of_le <;> (split <;> omega)
theorem zq_better {bp : Nat} (hb : 0 < bp) (h : Option Nat) (s : Nat → Int32) {p q : Nat} (hq : q < p) : decide (sl_rank bp h s q < sl_rank bp h s p) = sm_bef bp h s p q := by
  have e : sl_rank bp h s q < sl_rank bp h s p ↔ 2 * (s q).toInt + (if sm_isH bp h q = true then 1 else 0) < 2 * (s p).toInt + (if sm_isH bp h p = true then 1 else 0) := by
    rw [Int64.lt_iff_toInt_lt]
    unfold sl_rank
    rw [zq_l2, zq_l2, zq_in hb, zq_in hb]
  unfold sm_bef
  by_cases hs : s p = s q
  · rw [if_pos hs]
    rw [hs] at e
    by_cases hh : sm_isH bp h p = sm_isH bp h q
    · rw [if_pos hh, decide_eq_decide, e, hh]
      omega
    · rw [if_neg hh]
      have : decide (sl_rank bp h s q < sl_rank bp h s p) = decide (sm_isH bp h p = true) := by
        rw [decide_eq_decide, e]
        cases h1 : sm_isH bp h p <;> cases h2 : sm_isH bp h q <;> simp_all <;> omega
      rw [this]
      cases sm_isH bp h p <;> rfl
  · rw [if_neg hs, decide_eq_decide, e, Int32.lt_iff_toInt_lt]
    have hne : (s p).toInt ≠ (s q).toInt := fun h => hs (Int32.toInt_inj.mp h)
    split <;> split <;> omega
theorem zq_lats {bp n0 : Nat} (hb : 0 < bp) {h : Option Nat} {w w' : Nat → Bool} {s s' k k' d d' : Nat → Int32} (E : zq_same n0 w w' s s' k k' d d') (key : Int32) :
    ∀ n p best, p + n = n0 → (∀ q, best = some q → q < p ∧ w q = true) → sl_lats bp h w s k key n p best = sm_lats bp h w' s' k' key n p best := by
  intro n
  induction n with
  | zero => intro p best _ _; rfl
  | succ n ih =>
    intro p best hp hbest
    show sl_lats bp h w s k key n (p + 1) (if w p = true ∧ k p = key ∧ sl_better bp h s p best = true then some p else best) = sm_lats bp h w' s' k' key n (p + 1) (if w' p = true ∧ k' p = key ∧ sm_befO bp h s' p best = true then some p else best)
    have hpn : p < n0 := by omega
    have ew := E.1 p hpn
    by_cases hw : w p = true
    · obtain ⟨es, ek, _⟩ := E.2 p hpn hw
      have eb : sl_better bp h s p best = sm_befO bp h s' p best := by
        cases best with
        | none => rfl
        | some q =>
          obtain ⟨h1, h2⟩ := hbest q rfl
          obtain ⟨es2, _, _⟩ := E.2 q (by omega) h2
          show decide (sl_rank bp h s q < sl_rank bp h s p) = sm_bef bp h s' p q
          rw [zq_better hb h s h1]
          unfold sm_bef
          rw [es, es2]
      rw [← ew, ← ek, ← eb]
      refine ih (p + 1) _ (by omega) (fun q hq => ?_)
      by_cases hc : w p = true ∧ k p = key ∧ sl_better bp h s p best = true
      · rw [if_pos hc] at hq
        have := Option.some.inj hq
        subst this
        exact ⟨by omega, hw⟩
      · rw [if_neg hc] at hq
        obtain ⟨h1, h2⟩ := hbest q hq
        exact ⟨by omega, h2⟩
    · have hw' : ¬ w' p = true := by rw [← ew]; exact hw
      rw [if_neg (fun h => hw h.1), if_neg (fun h => hw' h.1)]
      exact ih (p + 1) best (by omega) (fun q hq => by obtain ⟨h1, h2⟩ := hbest q hq; exact ⟨by omega, h2⟩)
theorem zq_gaps {bp n0 : Nat} {w w' : Nat → Bool} (hw : ∀ p, p < n0 → w p = w' p) (b : Nat) : ∀ n i a c, b * bp + i + n ≤ n0 → sl_gaps bp w b n i a + sm_wrs w' n (b * bp + i) c = a + c + n := by
  intro n
  induction n with
  | zero => intro i a c _; rfl
  | succ n ih =>
    intro i a c h
    show sl_gaps bp w b n (i + 1) (if w (b * bp + i) = true then a else a + 1) + sm_wrs w' n (b * bp + i + 1) (if w' (b * bp + i) = true then c + 1 else c) = a + c + (n + 1)
    rw [← hw (b * bp + i) (by omega)]
    have := ih (i + 1) (if w (b * bp + i) = true then a else a + 1) (if w (b * bp + i) = true then c + 1 else c) (by omega)
    rw [show b * bp + (i + 1) = b * bp + i + 1 by omega] at this
    rw [this]
    split <;> omega
theorem zq_ix {b bc bp i : Nat} (hb : b < bc) (hi : i < bp) : b * bp + i < bc * bp := by
  have : (b + 1) * bp ≤ bc * bp := Nat.mul_le_mul_right bp hb
  rw [Nat.succ_mul] at this
  omega
theorem zq_blk {b bc bp : Nat} (hb : b < bc) : b * bp + bp ≤ bc * bp := by
  have : (b + 1) * bp ≤ bc * bp := Nat.mul_le_mul_right bp hb
  rw [Nat.succ_mul] at this
  omega
theorem zq_gap {bc bp : Nat} {w w' : Nat → Bool} (hw : ∀ p, p < bc * bp → w p = w' p) {b : Nat} (hb : b < bc) : sl_gap bp w b + sm_wr bp w' b = bp := by
  have h := zq_gaps hw b bp 0 0 0 (by have := zq_blk (bp := bp) hb; omega)
  simp only [Nat.add_zero, Nat.zero_add] at h
  exact h
theorem zq_free {bc bp : Nat} {w w' : Nat → Bool} (hw : ∀ p, p < bc * bp → w p = w' p) {b : Nat} (hb : b < bc) : sl_free bp w b = decide (sm_wr bp w' b = 0) := by
  have := zq_gap hw hb
  unfold sl_free
  apply decide_eq_decide.mpr
  omega
theorem zq_frs {bc bp : Nat} {w w' : Nat → Bool} (hw : ∀ p, p < bc * bp → w p = w' p) : ∀ n b a, b + n = bc → sl_frs bp w n b a = sm_frs bp w' n b a := by
  intro n
  induction n with
  | zero => intro b a _; rfl
  | succ n ih =>
    intro b a h
    show sl_frs bp w n (b + 1) (if sl_free bp w b = true then a + 1 else a) = sm_frs bp w' n (b + 1) (if sm_wr bp w' b = 0 then a + 1 else a)
    rw [zq_free hw (show b < bc by omega)]
    simp only [decide_eq_true_eq]
    exact ih (b + 1) _ (by omega)
theorem zq_snoc (bp : Nat) (w : Nat → Bool) : ∀ n b, sl_lows bp w (n + 1) b = (sl_lows bp w n b).or (if sl_free bp w (b + n) = true then some (b + n) else none) := by
  intro n
  induction n with
  | zero => intro b; rfl
  | succ n ih =>
    intro b
    show (if sl_free bp w b = true then some b else sl_lows bp w (n + 1) (b + 1)) = (if sl_free bp w b = true then some b else sl_lows bp w n (b + 1)).or _
    by_cases h : sl_free bp w b = true
    · rw [if_pos h, if_pos h]; rfl
    · rw [if_neg h, if_neg h, ih (b + 1), show b + 1 + n = b + (n + 1) by omega]
theorem zq_lows {bc bp : Nat} {w w' : Nat → Bool} (hw : ∀ p, p < bc * bp → w p = w' p) : ∀ n best, n ≤ bc → sm_lows bp w' n best = (sl_lows bp w n 0).or best := by
  intro n
  induction n with
  | zero => intro best _; rfl
  | succ n ih =>
    intro best h
    show sm_lows bp w' n (if sm_wr bp w' n = 0 then some n else best) = _
    rw [ih _ (by omega), zq_snoc bp w n 0, Nat.zero_add, zq_free hw (show n < bc by omega), Option.or_assoc]
    congr 1
    simp only [decide_eq_true_eq]
    split <;> rfl
theorem zq_low {bc bp : Nat} {w w' : Nat → Bool} (hw : ∀ p, p < bc * bp → w p = w' p) : sm_low bc bp w' = sl_lows bp w bc 0 := by
  have h := zq_lows hw bc none (Nat.le_refl _)
  rw [Option.or_none] at h
  exact h
theorem zq_oths {n0 : Nat} {w w' : Nat → Bool} {s s' k k' d d' : Nat → Int32} (E : zq_same n0 w w' s s' k k' d d') {p : Nat} (hp : p < n0) (hwp : w p = true) : ∀ n q, q + n = n0 → sm_oths w' k' p n q false = sl_oths w k p n q ∧ sm_oths w' k' p n q true = true := by
  intro n
  induction n with
  | zero => intro q _; exact ⟨rfl, rfl⟩
  | succ n ih =>
    intro q h
    obtain ⟨i1, i2⟩ := ih (q + 1) (by omega)
    constructor
    · show sm_oths w' k' p n (q + 1) (if false = true ∨ (q ≠ p ∧ w' q = true ∧ k' q = k' p) then true else false) = (if q ≠ p ∧ w q = true ∧ k q = k p then true else sl_oths w k p n (q + 1))
      have e : (false = true ∨ (q ≠ p ∧ w' q = true ∧ k' q = k' p)) ↔ (q ≠ p ∧ w q = true ∧ k q = k p) := by
        rw [← E.1 q (by omega), ← (E.2 p hp hwp).2.1]
        constructor
        · rintro (h1 | ⟨h1, h2, h3⟩)
          · cases h1
          · exact ⟨h1, h2, by rw [(E.2 q (by omega) h2).2.1]; exact h3⟩
        · rintro ⟨h1, h2, h3⟩
          exact Or.inr ⟨h1, h2, by rw [← (E.2 q (by omega) h2).2.1]; exact h3⟩
      by_cases hc : q ≠ p ∧ w q = true ∧ k q = k p
      · rw [if_pos (e.mpr hc), if_pos hc, i2]
      · rw [if_neg (fun z => hc (e.mp z)), if_neg hc, i1]
    · show sm_oths w' k' p n (q + 1) (if true = true ∨ _ then true else false) = true
      rw [if_pos (Or.inl rfl)]
      exact i2
/-- log and reference know the same -/
def zq_lm (bc bp : Nat) (L : zl_S) (M : zm_S) : Prop :=
  zq_same (bc * bp) (zl_w L) (mm_w M) (zl_s L) (mm_s M) (zl_k L) (mm_k M) (zl_d L) (mm_d M) ∧ zl_h L = mm_h M ∧ zl_x L = mm_x M
theorem zq_lat {bc bp : Nat} (hb : 0 < bp) {L : zl_S} {M : zm_S} (E : zq_lm bc bp L M) (key : Int32) : sl_lat bc bp L key = sm_lat bc bp M key := by
  unfold sl_lat sm_lat
  rw [E.2.1]
  exact zq_lats hb E.1 key (bc * bp) 0 none (by omega) (fun q h => by cases h)
/-- what the latest is: a written page below n with the key -/
theorem zq_latS {bp : Nat} {h : Option Nat} {w : Nat → Bool} {s k : Nat → Int32} {key : Int32} : ∀ n p best, (∀ q, best = some q → q < p ∧ w q = true ∧ k q = key) → ∀ q, sl_lats bp h w s k key n p best = some q → q < p + n ∧ w q = true ∧ k q = key := by
  intro n
  induction n with
  | zero =>
    intro p best hb q hq
    obtain ⟨h1, h2⟩ := hb q hq
    exact ⟨by omega, h2⟩
  | succ n ih =>
    intro p best hb q hq
    have := ih (p + 1) (if w p = true ∧ k p = key ∧ sl_better bp h s p best = true then some p else best) (fun r hr => by
      by_cases hc : w p = true ∧ k p = key ∧ sl_better bp h s p best = true
      · rw [if_pos hc] at hr
        have := Option.some.inj hr
        subst this
        exact ⟨by omega, hc.1, hc.2.1⟩
      · rw [if_neg hc] at hr
        obtain ⟨h1, h2⟩ := hb r hr
        exact ⟨by omega, h2⟩) q hq
    exact ⟨by omega, this.2⟩
theorem zq_latI {bc bp : Nat} {L : zl_S} {key : Int32} {q : Nat} (h : sl_lat bc bp L key = some q) : q < bc * bp ∧ zl_w L q = true ∧ zl_k L q = key := by
  have := zq_latS (bc * bp) 0 none (fun _ h => by cases h) q h
  rw [Nat.zero_add] at this
  exact this
theorem zq_held {bc bp : Nat} (hb : 0 < bp) {L : zl_S} {M : zm_S} (E : zq_lm bc bp L M) (key : Int32) : sl_held bc bp L key = sm_held bc bp M key := by
  unfold sl_held sm_held
  rw [← zq_lat hb E]
  rcases h : sl_lat bc bp L key with _ | q
  · rfl
  · obtain ⟨h1, h2, _⟩ := zq_latI h
    show decide (zl_d L q = 1) = decide (mm_d M q = 1)
    rw [(E.1.2 q h1 h2).2.2]
theorem zq_need {bc bp : Nat} (hb : 0 < bp) {L : zl_S} {M : zm_S} (E : zq_lm bc bp L M) {p : Nat} (hp : p < bc * bp) : sl_need bc bp L p = sm_need bc bp M p := by
  unfold sl_need sm_need
  rw [← E.1.1 p hp]
  by_cases hw : zl_w L p = true
  · obtain ⟨_, ek, ed⟩ := E.1.2 p hp hw
    rw [hw, Bool.true_and, ← zq_lat hb E, ← ek, ← ed, (zq_oths E.1 hp hw (bc * bp) 0 (by omega)).1]
    by_cases hl : sl_lat bc bp L (zl_k L p) = some p
    · rw [if_pos ⟨rfl, hl⟩, decide_eq_true hl, Bool.true_and]
    · rw [if_neg (fun h => hl h.2), decide_eq_false hl, Bool.false_and]
  · rw [if_neg (fun h => hw h.1)]
    have : zl_w L p = false := by cases h : zl_w L p with
      | false => rfl
      | true => exact absurd h hw
    rw [this, Bool.false_and]
/-- the marks, once made -/
theorem zq_mns (bc bp : Nat) (L : zl_S) : ∀ n p mk q, sl_mns bc bp L n p mk q = if p ≤ q ∧ q < p + n then sl_need bc bp L q else mk q := by
  intro n
  induction n with
  | zero =>
    intro p mk q
    show mk q = _
    rw [if_neg (by omega)]
  | succ n ih =>
    intro p mk q
    show sl_mns bc bp L n (p + 1) (ub mk p (sl_need bc bp L p)) q = _
    rw [ih]
    by_cases h : q = p
    · subst h
      rw [if_neg (by omega), if_pos (by omega), ub_s]
    · by_cases h2 : p + 1 ≤ q ∧ q < p + 1 + n
      · rw [if_pos h2, if_pos (by omega)]
      · rw [if_neg h2, if_neg (by omega), ub_n h]
theorem zq_mn {bc bp : Nat} (hb : 0 < bp) {L : zl_S} {M : zm_S} (E : zq_lm bc bp L M) {q : Nat} (hq : q < bc * bp) : sl_mn bc bp L q = sm_need bc bp M q := by
  unfold sl_mn
  rw [zq_mns, if_pos (by omega), zq_need hb E hq]
theorem zq_mks {bc bp : Nat} {M : zm_S} {mk : Nat → Bool} (hm : ∀ q, q < bc * bp → mk q = sm_need bc bp M q) (b : Nat) : ∀ n i a, b * bp + i + n ≤ bc * bp → sl_mks bp mk b n i a = sm_nds bc bp M n (b * bp + i) a := by
  intro n
  induction n with
  | zero => intro i a _; rfl
  | succ n ih =>
    intro i a h
    show sl_mks bp mk b n (i + 1) (if mk (b * bp + i) = true then a + 1 else a) = sm_nds bc bp M n (b * bp + i + 1) (if sm_need bc bp M (b * bp + i) = true then a + 1 else a)
    rw [hm _ (by omega)]
    exact ih (i + 1) _ (by omega)
theorem zq_mk {bc bp : Nat} {M : zm_S} {mk : Nat → Bool} (hm : ∀ q, q < bc * bp → mk q = sm_need bc bp M q) {b : Nat} (hb : b < bc) : sl_mk bp mk b = sm_nd bc bp M b :=
  zq_mks hm b bp 0 0 (by have := zq_blk (bp := bp) hb; omega)
/-- the lowest page of the head that is not written -/
theorem zq_hgs {bp n0 : Nat} {w w' : Nat → Bool} (hw : ∀ p, p < n0 → w p = w' p) (h : Nat) : ∀ n i, h * bp + i + n ≤ n0 →
    (∃ p, sl_hgs bp w h n i = some p ∧ sm_pls w' n (h * bp + i) = p ∧ h * bp + i ≤ p ∧ p < h * bp + i + n ∧ w p = false ∧ ∀ c, sm_wrs w' n (h * bp + i) c < c + n) ∨ (sl_hgs bp w h n i = none ∧ ∀ c, sm_wrs w' n (h * bp + i) c = c + n) := by
  have le : ∀ (w : Nat → Bool) n p c, sm_wrs w n p c ≤ c + n := by
    intro w n
    induction n with
    | zero => intro p c; exact Nat.le_refl _
    | succ n ih =>
      intro p c
      show sm_wrs w n (p + 1) (if w p = true then c + 1 else c) ≤ _
      have := ih (p + 1) (if w p = true then c + 1 else c)
      split at this <;> (rename_i q; simp only [q, if_true, if_false, Bool.false_eq_true] <;> omega)
  intro n
  induction n with
  | zero => intro i _; exact Or.inr ⟨rfl, fun c => rfl⟩
  | succ n ih =>
    intro i hi
    have ew := hw (h * bp + i) (by omega)
    by_cases hc : w (h * bp + i) = true
    · have hc' : w' (h * bp + i) = true := by rw [← ew]; exact hc
      have s1 : sl_hgs bp w h (n + 1) i = sl_hgs bp w h n (i + 1) := by
        show (if w (h * bp + i) = true then sl_hgs bp w h n (i + 1) else some (h * bp + i)) = _
        rw [if_pos hc]
      have s2 : sm_pls w' (n + 1) (h * bp + i) = sm_pls w' n (h * bp + (i + 1)) := by
        show (if w' (h * bp + i) = true then sm_pls w' n (h * bp + i + 1) else h * bp + i) = _
        rw [if_pos hc']; rfl
      have s3 : ∀ c, sm_wrs w' (n + 1) (h * bp + i) c = sm_wrs w' n (h * bp + (i + 1)) (c + 1) := by
        intro c
        show sm_wrs w' n (h * bp + i + 1) (if w' (h * bp + i) = true then c + 1 else c) = _
        rw [if_pos hc']; rfl
      rcases ih (i + 1) (by omega) with ⟨p, h1, h2, h3, h4, h5, h6⟩ | ⟨h1, h2⟩
      · left
        exact ⟨p, by rw [s1, h1], by rw [s2, h2], by omega, by omega, h5, fun c => by rw [s3]; have := h6 (c + 1); omega⟩
      · right
        exact ⟨by rw [s1, h1], fun c => by rw [s3, h2]; omega⟩
    · left
      have hc' : ¬ w' (h * bp + i) = true := by rw [← ew]; exact hc
      refine ⟨h * bp + i, ?_, ?_, Nat.le_refl _, by omega, ?_, fun c => ?_⟩
      · show (if w (h * bp + i) = true then sl_hgs bp w h n (i + 1) else some (h * bp + i)) = _
        rw [if_neg hc]
      · show (if w' (h * bp + i) = true then sm_pls w' n (h * bp + i + 1) else h * bp + i) = _
        rw [if_neg hc']
      · cases q : w (h * bp + i) with
        | false => rfl
        | true => exact absurd q hc
      · show sm_wrs w' n (h * bp + i + 1) (if w' (h * bp + i) = true then c + 1 else c) < _
        rw [if_neg hc']
        have := le w' n (h * bp + i + 1) c
        omega
theorem zq_hg {bc bp : Nat} {w w' : Nat → Bool} (hw : ∀ p, p < bc * bp → w p = w' p) {h : Nat} (hh : h < bc) :
    (∃ p, sl_hg bp w (some h) = some p ∧ sm_pl bp w' h = p ∧ h * bp ≤ p ∧ p < h * bp + bp ∧ w p = false ∧ sm_wr bp w' h < bp) ∨ (sl_hg bp w (some h) = none ∧ sm_wr bp w' h = bp) := by
  have hb := zq_blk (bp := bp) hh
  rcases zq_hgs hw h bp 0 (by omega) with ⟨p, h1, h2, h3, h4, h5, h6⟩ | ⟨h1, h2⟩
  · exact Or.inl ⟨p, h1, h2, by omega, by omega, h5, by have := h6 0; simp only [Nat.zero_add, Nat.add_zero] at this; exact this⟩
  · exact Or.inr ⟨h1, by have := h2 0; simp only [Nat.zero_add, Nat.add_zero] at this; exact this⟩
theorem zq_hl {bc bp : Nat} {w w' : Nat → Bool} (hw : ∀ p, p < bc * bp → w p = w' p) {h : Option Nat} (hh : zh_ok bc h) : sm_hl bp w' h = decide (sl_hg bp w h = none) := by
  cases h with
  | none => rfl
  | some j =>
    show decide (sm_wr bp w' j = bp) = _
    apply decide_eq_decide.mpr
    rcases zq_hg hw (hh j rfl) with ⟨p, h1, _, _, _, _, h6⟩ | ⟨h1, h2⟩
    · rw [h1]
      constructor
      · intro q; omega
      · intro q; cases q
    · exact ⟨fun _ => h1, fun _ => h2⟩
theorem zq_fms {bc bp : Nat} {M : zm_S} {w mk : Nat → Bool} {o : Bool} {op : Option Nat} (hw : ∀ p, p < bc * bp → w p = mm_w M p) (hm : ∀ q, q < bc * bp → mk q = sm_need bc bp M q) (ho : ∀ b, op ≠ some b ↔ (mm_h M ≠ some b ∨ o = true)) :
    ∀ n b best least, b + n = bc → (∀ q, best = some q → q < bc ∧ least = sm_nd bc bp M q) → (sm_chs bc bp M o n b best least).1 = sl_fms bp w mk op n b best ∧ ∀ q, (sm_chs bc bp M o n b best least).1 = some q → q < bc ∧ (sm_chs bc bp M o n b best least).2 = sm_nd bc bp M q := by
  intro n
  induction n with
  | zero => intro b best least _ hb; exact ⟨rfl, hb⟩
  | succ n ih =>
    intro b best least h hb
    have hbc : b < bc := by omega
    have e : (0 < sm_wr bp (mm_w M) b ∧ (mm_h M ≠ some b ∨ o = true) ∧ (best = none ∨ sm_nd bc bp M b < least)) ↔ (op ≠ some b ∧ sl_free bp w b = false ∧ sl_fewer bp mk b best = true) := by
      rw [zq_free hw hbc, ho b, decide_eq_false_iff_not]
      have e2 : (best = none ∨ sm_nd bc bp M b < least) ↔ sl_fewer bp mk b best = true := by
        cases best with
        | none => simp [sl_fewer]
        | some q =>
          obtain ⟨q1, q2⟩ := hb q rfl
          show _ ↔ decide (sl_mk bp mk b < sl_mk bp mk q) = true
          rw [zq_mk hm hbc, zq_mk hm q1, decide_eq_true_eq, q2]
          simp
      rw [e2]
      constructor
      · rintro ⟨h1, h2, h3⟩; exact ⟨h2, by omega, h3⟩
      · rintro ⟨h1, h2, h3⟩; exact ⟨by omega, h1, h3⟩
    show (if 0 < sm_wr bp (mm_w M) b ∧ (mm_h M ≠ some b ∨ o = true) ∧ (best = none ∨ sm_nd bc bp M b < least) then sm_chs bc bp M o n (b + 1) (some b) (sm_nd bc bp M b) else sm_chs bc bp M o n (b + 1) best least).1 = sl_fms bp w mk op n (b + 1) (if op ≠ some b ∧ sl_free bp w b = false ∧ sl_fewer bp mk b best = true then some b else best) ∧ ∀ q, (if 0 < sm_wr bp (mm_w M) b ∧ (mm_h M ≠ some b ∨ o = true) ∧ (best = none ∨ sm_nd bc bp M b < least) then sm_chs bc bp M o n (b + 1) (some b) (sm_nd bc bp M b) else sm_chs bc bp M o n (b + 1) best least).1 = some q → q < bc ∧ (if 0 < sm_wr bp (mm_w M) b ∧ (mm_h M ≠ some b ∨ o = true) ∧ (best = none ∨ sm_nd bc bp M b < least) then sm_chs bc bp M o n (b + 1) (some b) (sm_nd bc bp M b) else sm_chs bc bp M o n (b + 1) best least).2 = sm_nd bc bp M q
    by_cases hc : 0 < sm_wr bp (mm_w M) b ∧ (mm_h M ≠ some b ∨ o = true) ∧ (best = none ∨ sm_nd bc bp M b < least)
    · simp only [if_pos hc, if_pos (e.mp hc)]
      exact ih (b + 1) (some b) _ (by omega) (fun q hq => by have := Option.some.inj hq; subst this; exact ⟨hbc, rfl⟩)
    · simp only [if_neg hc, if_neg (fun z => hc (e.mpr z))]
      exact ih (b + 1) best least (by omega) hb
/-- the choice of a block: the class's, but none where there is no room to open -/
theorem zq_choose {bc bp : Nat} (hbp : 0 < bp) {L : zl_S} {M : zm_S} (E : zq_lm bc bp L M) (hh : zh_ok bc (zl_h L)) :
    sm_choose bc bp M = (if sl_hg bp (zl_w L) (zl_h L) = none ∧ sl_fr bc bp L = 0 then none else sl_choose bc bp L) ∧ ∀ b, sl_choose bc bp L = some b → b < bc ∧ sl_mk bp (sl_mn bc bp L) b < bp ∧ (∀ j, zl_h L = some j → sl_hg bp (zl_w L) (zl_h L) ≠ none → sl_mk bp (sl_mn bc bp L) b ≤ sl_gap bp (zl_w L) j ∧ j ≠ b) := by
  have hw := E.1.1
  have hm : ∀ q, q < bc * bp → sl_mn bc bp L q = sm_need bc bp M q := fun q hq => zq_mn hbp E hq
  have hl : sm_hl bp (mm_w M) (mm_h M) = decide (sl_hg bp (zl_w L) (zl_h L) = none) := by rw [← E.2.1]; exact zq_hl hw hh
  have ho : ∀ b, sl_open bp (zl_w L) (zl_h L) ≠ some b ↔ (mm_h M ≠ some b ∨ sm_hl bp (mm_w M) (mm_h M) = true) := by
    intro b
    rw [hl, ← E.2.1, decide_eq_true_eq]
    unfold sl_open
    by_cases hc : sl_hg bp (zl_w L) (zl_h L) = none
    · rw [if_pos hc]
      constructor
      · intro _; exact Or.inr hc
      · intro _ q; cases q
    · rw [if_neg hc]
      exact ⟨fun q => Or.inl q, fun q => q.elim id (fun z => absurd z hc)⟩
  have hf := zq_fms (bc := bc) (bp := bp) (M := M) (w := zl_w L) (mk := sl_mn bc bp L) hw hm ho bc 0 none 0 (by omega) (fun q h => by cases h)
  have efr : sm_fr bc bp (mm_w M) = sl_fr bc bp L := (zq_frs hw bc 0 0 (by omega)).symm
  unfold sm_choose sl_choose sl_fm
  rw [← hf.1]
  rcases hr : sm_chs bc bp M (sm_hl bp (mm_w M) (mm_h M)) bc 0 none 0 with ⟨r1, r2⟩
  have hf2 := hf.2
  rw [hr] at hf2
  cases r1 with
  | none =>
    refine ⟨?_, fun b h => by cases h⟩
    show none = if _ then none else none
    split <;> rfl
  | some b =>
    obtain ⟨hb, hr2⟩ := hf2 b rfl
    have ek : sl_mk bp (sl_mn bc bp L) b = r2 := (zq_mk hm hb).trans hr2.symm
    have hop : sl_fms bp (zl_w L) (sl_mn bc bp L) (sl_open bp (zl_w L) (zl_h L)) bc 0 none = some b := by rw [← hf.1, hr]
    have hne : sl_open bp (zl_w L) (zl_h L) ≠ some b := by
      have gen : ∀ n c best, (∀ q, best = some q → sl_open bp (zl_w L) (zl_h L) ≠ some q) → ∀ q, sl_fms bp (zl_w L) (sl_mn bc bp L) (sl_open bp (zl_w L) (zl_h L)) n c best = some q → sl_open bp (zl_w L) (zl_h L) ≠ some q := by
        intro n
        induction n with
        | zero => intro c best h q hq; exact h q hq
        | succ n ih =>
          intro c best h q hq
          refine ih (c + 1) _ (fun r hr => ?_) q hq
          by_cases hc : sl_open bp (zl_w L) (zl_h L) ≠ some c ∧ sl_free bp (zl_w L) c = false ∧ sl_fewer bp (sl_mn bc bp L) c best = true
          · rw [if_pos hc] at hr
            have := Option.some.inj hr
            subst this
            exact hc.1
          · rw [if_neg hc] at hr
            exact h r hr
      exact gen bc 0 none (fun _ h => by cases h) b hop
    have hle : sl_mk bp (sl_mn bc bp L) b ≤ bp := by
      have gen : ∀ n i a, sl_mks bp (sl_mn bc bp L) b n i a ≤ a + n := by
        intro n
        induction n with
        | zero => intro i a; exact Nat.le_refl _
        | succ n ih =>
          intro i a
          show sl_mks bp (sl_mn bc bp L) b n (i + 1) (if sl_mn bc bp L (b * bp + i) = true then a + 1 else a) ≤ _
          have := ih (i + 1) (if sl_mn bc bp L (b * bp + i) = true then a + 1 else a)
          split at this <;> (rename_i q; simp only [q, if_true, if_false, Bool.false_eq_true] <;> omega)
      have := gen bp 0 0
      rw [Nat.zero_add] at this
      exact this
    rw [hl]
    have efit : sl_fit bp (zl_w L) (sl_mn bc bp L) (zl_h L) (some b) = (if r2 = bp then none else match sl_hg bp (zl_w L) (zl_h L), zl_h L with
      | none, _ => some b
      | some _, none => some b
      | some _, some hd => if r2 ≤ sl_gap bp (zl_w L) hd then some b else none) := by
      show (if sl_mk bp (sl_mn bc bp L) b = bp then none else _) = _
      rw [ek]
      rfl
    show sm_ch2 bc bp M (decide (sl_hg bp (zl_w L) (zl_h L) = none)) (some b, r2) = (if sl_hg bp (zl_w L) (zl_h L) = none ∧ sl_fr bc bp L = 0 then none else sl_fit bp (zl_w L) (sl_mn bc bp L) (zl_h L) (some b)) ∧ ∀ c, sl_fit bp (zl_w L) (sl_mn bc bp L) (zl_h L) (some b) = some c → c < bc ∧ sl_mk bp (sl_mn bc bp L) c < bp ∧ (∀ j, zl_h L = some j → sl_hg bp (zl_w L) (zl_h L) ≠ none → sl_mk bp (sl_mn bc bp L) c ≤ sl_gap bp (zl_w L) j ∧ j ≠ c)
    by_cases hn : sl_hg bp (zl_w L) (zl_h L) = none
    · have e1 : sm_ch2 bc bp M true (some b, r2) = if r2 = bp ∨ sl_fr bc bp L = 0 then none else some b := by simp [sm_ch2, efr]
      have e2 : sl_fit bp (zl_w L) (sl_mn bc bp L) (zl_h L) (some b) = if r2 = bp then none else some b := by rw [efit, hn]
      rw [decide_eq_true hn, e1, e2]
      refine ⟨?_, fun c hc => ?_⟩
      · by_cases h1 : r2 = bp
        · simp [h1]
        · by_cases h2 : sl_fr bc bp L = 0
          · simp [h1, h2, hn]
          · simp [h1, h2]
      · by_cases h1 : r2 = bp
        · rw [if_pos h1] at hc; cases hc
        · rw [if_neg h1] at hc
          have := Option.some.inj hc
          subst this
          exact ⟨hb, by omega, fun j _ q => absurd hn q⟩
    · rcases hd : zl_h L with _ | j
      · rw [hd] at hn; exact absurd rfl hn
      · have hj : j < bc := hh j hd
        have eg := zq_gap hw hj
        have e1 : sm_ch2 bc bp M false (some b, r2) = if r2 = bp then none else if bp - sm_wr bp (mm_w M) j < r2 then none else some b := by
          simp [sm_ch2, ← E.2.1, hd]
        have e2 : sl_fit bp (zl_w L) (sl_mn bc bp L) (zl_h L) (some b) = if r2 = bp then none else if r2 ≤ sl_gap bp (zl_w L) j then some b else none := by
          rw [efit]
          rcases hg : sl_hg bp (zl_w L) (zl_h L) with _ | g
          · exact absurd hg hn
          · rw [hd]
        rw [hd] at e2 hn
        rw [decide_eq_false hn, e1, e2, if_neg (show ¬ (sl_hg bp (zl_w L) (some j) = none ∧ sl_fr bc bp L = 0) from fun q => hn q.1)]
        refine ⟨?_, fun c hc => ?_⟩
        · by_cases h1 : r2 = bp
          · rw [if_pos h1, if_pos h1]
          · rw [if_neg h1, if_neg h1]
            by_cases h3 : r2 ≤ sl_gap bp (zl_w L) j
            · rw [if_pos h3, if_neg (by omega)]
            · rw [if_neg h3, if_pos (by omega)]
        · by_cases h1 : r2 = bp
          · rw [if_pos h1] at hc; cases hc
          · rw [if_neg h1] at hc
            by_cases h3 : r2 ≤ sl_gap bp (zl_w L) j
            · rw [if_pos h3] at hc
              have := Option.some.inj hc
              subst this
              refine ⟨hb, by omega, fun i hi _ => ?_⟩
              have := Option.some.inj hi
              subst this
              refine ⟨by rw [ek]; exact h3, fun q => ?_⟩
              subst q
              apply hne
              unfold sl_open
              rw [hd, if_neg hn]
            · rw [if_neg h3] at hc; cases hc
