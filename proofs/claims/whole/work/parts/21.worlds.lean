theorem i_dec (x : Int32) : x + Int32.ofInt (-1) = x - 1 := (Int32.sub_eq_add_neg x 1).symm
/-- the cells of the log -/
def zl_W (cI cZ : ClassId) (x : Nat → Nat) (bc bp : Nat) (L : zl_S) : va_W := [(x 7, .inr (3, [.int (nI bc), .int (nI bp), .ref (x 8), .ref (x 9), .ref (x 10), .ref (x 11), .int (oN (zl_h L)), .int (zl_x L), .int (nI (bc * bp)), .ref (x 12)])), (x 8, .inl (cI, bc * bp, .inl (zl_s L))), (x 9, .inl (cI, bc * bp, .inl (zl_k L))), (x 10, .inl (cI, bc * bp, .inl (zl_d L))), (x 11, .inl (cZ, bc * bp, .inl (bF (zl_m L)))), (x 12, .inl (cZ, bc * bp, .inl (bF (zl_w L))))]
theorem zq_hgsLt (bp : Nat) (w : Nat → Bool) (h : Nat) : ∀ n i g, sl_hgs bp w h n i = some g → h * bp + i ≤ g ∧ g < h * bp + i + n ∧ w g = false := by
  intro n
  induction n with
  | zero => intro i g e; cases e
  | succ n ih =>
    intro i g e
    have e : (if w (h * bp + i) = true then sl_hgs bp w h n (i + 1) else some (h * bp + i)) = some g := e
    by_cases hc : w (h * bp + i) = true
    · rw [if_pos hc] at e
      obtain ⟨a, b, c⟩ := ih (i + 1) g e
      exact ⟨by omega, by omega, c⟩
    · rw [if_neg hc] at e
      have := Option.some.inj e
      subst this
      exact ⟨Nat.le_refl _, by omega, by cases q : w (h * bp + i) with
        | false => rfl
        | true => exact absurd q hc⟩
theorem zq_hgLt {bc bp : Nat} {w : Nat → Bool} {h : Option Nat} {g : Nat} (hh : zh_ok bc h) (e : sl_hg bp w h = some g) : g < bc * bp := by
  cases h with
  | none => cases e
  | some j =>
    have h1 := zq_hgsLt bp w j bp 0 g e
    have h2 := zq_blk (bp := bp) (hh j rfl)
    omega
theorem zq_fmsLt (bp : Nat) (w m : Nat → Bool) (o : Option Nat) : ∀ n b best g, (∀ q, best = some q → q < b) → sl_fms bp w m o n b best = some g → g < b + n := by
  intro n
  induction n with
  | zero => intro b best g hb e; exact hb g e
  | succ n ih =>
    intro b best g hb e
    have := ih (b + 1) _ g (fun q hq => by
      by_cases hc : o ≠ some b ∧ sl_free bp w b = false ∧ sl_fewer bp m b best = true
      · rw [if_pos hc] at hq
        have := Option.some.inj hq
        omega
      · rw [if_neg hc] at hq
        have := hb q hq
        omega) e
    omega
theorem zq_fmLt {bc bp : Nat} {w m : Nat → Bool} {h : Option Nat} {g : Nat} (e : sl_fm bc bp w m h = some g) : g < bc := by
  have := zq_fmsLt bp w m (sl_open bp w h) bc 0 none g (fun q hq => by cases hq) e
  omega
theorem zq_frsLe (bp : Nat) (w : Nat → Bool) : ∀ n b a, sl_frs bp w n b a ≤ a + n := by
  intro n
  induction n with
  | zero => intro b a; exact Nat.le_refl _
  | succ n ih =>
    intro b a
    show sl_frs bp w n (b + 1) (if sl_free bp w b = true then a + 1 else a) ≤ _
    have := ih (b + 1) (if sl_free bp w b = true then a + 1 else a)
    split at this <;> (rename_i q; simp only [q, if_true, if_false, Bool.false_eq_true] <;> omega)
theorem zq_frLe (bc bp : Nat) (L : zl_S) : sl_fr bc bp L ≤ bc := by
  have := zq_frsLe bp (zl_w L) bc 0 0
  unfold sl_fr
  omega
theorem zq_lowsOk (bp : Nat) (w : Nat → Bool) : ∀ n b j, sl_lows bp w n b = some j → j < b + n := by
  intro n
  induction n with
  | zero => intro b j h; cases h
  | succ n ih =>
    intro b j h
    have h : (if sl_free bp w b = true then some b else sl_lows bp w n (b + 1)) = some j := h
    split at h
    · have := Option.some.inj h; omega
    · have := ih (b + 1) j h; omega
theorem zq_lowOk (bc bp : Nat) (w : Nat → Bool) : zh_ok bc (sl_lows bp w bc 0) := fun j h => by
  have := zq_lowsOk bp w bc 0 j h
  omega
theorem zq_gapsLe (bp : Nat) (w : Nat → Bool) (b : Nat) : ∀ n i a, sl_gaps bp w b n i a ≤ a + n := by
  intro n
  induction n with
  | zero => intro i a; exact Nat.le_refl _
  | succ n ih =>
    intro i a
    show sl_gaps bp w b n (i + 1) (if w (b * bp + i) = true then a else a + 1) ≤ _
    have := ih (i + 1) (if w (b * bp + i) = true then a else a + 1)
    split at this <;> (rename_i q; simp only [q, if_true, if_false, Bool.false_eq_true] <;> omega)
theorem zq_gapLe (bp : Nat) (w : Nat → Bool) (b : Nat) : sl_gap bp w b ≤ bp := by
  have := zq_gapsLe bp w b bp 0 0
  unfold sl_gap
  omega
theorem zq_mksLe (bp : Nat) (w : Nat → Bool) (b : Nat) : ∀ n i a, sl_mks bp w b n i a ≤ a + n := by
  intro n
  induction n with
  | zero => intro i a; exact Nat.le_refl _
  | succ n ih =>
    intro i a
    show sl_mks bp w b n (i + 1) (if w (b * bp + i) = true then a + 1 else a) ≤ _
    have := ih (i + 1) (if w (b * bp + i) = true then a + 1 else a)
    split at this <;> (rename_i q; simp only [q, if_true, if_false, Bool.false_eq_true] <;> omega)
theorem zq_mkLe (bp : Nat) (w : Nat → Bool) (b : Nat) : sl_mk bp w b ≤ bp := by
  have := zq_mksLe bp w b bp 0 0
  unfold sl_mk
  omega
