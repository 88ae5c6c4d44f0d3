theorem sm_pls_lt (w : Nat → Bool) : ∀ n i, (∃ q, i ≤ q ∧ q < i + n ∧ w q = false) → sm_pls w n i < i + n ∧ i ≤ sm_pls w n i ∧ w (sm_pls w n i) = false := by
  intro n
  induction n with
  | zero => intro i h; obtain ⟨q, h1, h2, _⟩ := h; omega
  | succ n ih =>
    intro i h
    obtain ⟨q, h1, h2, h3⟩ := h
    show (if w i = true then sm_pls w n (i + 1) else i) < _ ∧ i ≤ (if w i = true then sm_pls w n (i + 1) else i) ∧ w (if w i = true then sm_pls w n (i + 1) else i) = false
    by_cases hc : w i = true
    · rw [if_pos hc]
      have hq : i ≠ q := fun z => by rw [z, h3] at hc; cases hc
      obtain ⟨a, b, c⟩ := ih (i + 1) ⟨q, by omega, by omega, h3⟩
      exact ⟨by omega, by omega, c⟩
    · rw [if_neg hc]
      exact ⟨by omega, Nat.le_refl _, by cases z : w i with
        | false => rfl
        | true => exact absurd z hc⟩
theorem sm_pl_lt {bc bp : Nat} {M : zm_S} (h : ∃ hd, mm_h M = some hd ∧ hd < bc ∧ ∃ q, hd * bp ≤ q ∧ q < hd * bp + bp ∧ mm_w M q = false) : sm_plO bp (mm_w M) (mm_h M) < bc * bp := by
  obtain ⟨hd, e, hlt, hq⟩ := h
  rw [e]
  have h1 := sm_pls_lt (mm_w M) bp (hd * bp) hq
  have h2 := zq_blk (bp := bp) hlt
  show sm_pls (mm_w M) bp (hd * bp) < bc * bp
  omega
