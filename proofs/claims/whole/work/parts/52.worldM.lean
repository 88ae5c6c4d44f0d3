/-- the cells of the reference -/
def zm_W (cI cZ : ClassId) (y : Nat → Nat) (bc bp : Nat) (M : zm_S) : va_W := [(y 0, .inr (4, [.int (nI bc), .int (nI bp), .int (nI (bc * bp)), .ref (y 1), .ref (y 2), .ref (y 3), .ref (y 4), .ref (y 5), .ref (y 6), .ref (y 7), .int (bI (mm_r M)), .int (bI (mm_c M)), .int (oN (mm_h M)), .int (mm_x M), .int (mm_a M), .int (mm_n M), .int (nI (mm_t M)), .ref (y 8)])), (y 1, .inl (cI, 120, .inl (mm_f M))), (y 2, .inl (cI, 178, .inl zk_R)), (y 3, .inl (cZ, 20, .inl (bF (mm_w M)))), (y 4, .inl (cI, 20, .inl (mm_s M))), (y 5, .inl (cI, 20, .inl (mm_k M))), (y 6, .inl (cI, 20, .inl (mm_d M))), (y 7, .inl (cZ, 20, .inl (bF (mm_q M)))), (y 8, .inl (cI, 6, .inl (mm_e M)))]
def sm_sf (M : zm_S) (f : Nat → Int32) : zm_S := (zmk f (mm_w M) (mm_q M) (mm_s M) (mm_k M) (mm_d M) (mm_h M) (mm_x M) (mm_r M) (mm_c M) (mm_a M) (mm_n M) (mm_t M) (mm_e M))
def sm_sw (M : zm_S) (w : Nat → Bool) : zm_S := (zmk (mm_f M) w (mm_q M) (mm_s M) (mm_k M) (mm_d M) (mm_h M) (mm_x M) (mm_r M) (mm_c M) (mm_a M) (mm_n M) (mm_t M) (mm_e M))
def sm_se (M : zm_S) (e : Nat → Int32) : zm_S := (zmk (mm_f M) (mm_w M) (mm_q M) (mm_s M) (mm_k M) (mm_d M) (mm_h M) (mm_x M) (mm_r M) (mm_c M) (mm_a M) (mm_n M) (mm_t M) e)
theorem sm_wrsLe (w : Nat → Bool) : ∀ n p a, sm_wrs w n p a ≤ a + n := by
  intro n
  induction n with
  | zero => intro p a; exact Nat.le_refl _
  | succ n ih =>
    intro p a
    show sm_wrs w n (p + 1) (if w p = true then a + 1 else a) ≤ _
    have := ih (p + 1) (if w p = true then a + 1 else a)
    split at this <;> (rename_i q; simp only [q, if_true, if_false, Bool.false_eq_true] <;> omega)
theorem sm_wrLe (bp : Nat) (w : Nat → Bool) (b : Nat) : sm_wr bp w b ≤ bp := by
  have := sm_wrsLe w bp (b * bp) 0
  unfold sm_wr
  omega
theorem sm_ndsLe (bc bp : Nat) (M : zm_S) : ∀ n p a, sm_nds bc bp M n p a ≤ a + n := by
  intro n
  induction n with
  | zero => intro p a; exact Nat.le_refl _
  | succ n ih =>
    intro p a
    show sm_nds bc bp M n (p + 1) (if sm_need bc bp M p = true then a + 1 else a) ≤ _
    have := ih (p + 1) (if sm_need bc bp M p = true then a + 1 else a)
    split at this <;> (rename_i q; simp only [q, if_true, if_false, Bool.false_eq_true] <;> omega)
theorem sm_ndLe (bc bp : Nat) (M : zm_S) (b : Nat) : sm_nd bc bp M b ≤ bp := by
  have := sm_ndsLe bc bp M bp (b * bp) 0
  unfold sm_nd
  omega
theorem sm_frsLe (bp : Nat) (w : Nat → Bool) : ∀ n b a, sm_frs bp w n b a ≤ a + n := by
  intro n
  induction n with
  | zero => intro b a; exact Nat.le_refl _
  | succ n ih =>
    intro b a
    show sm_frs bp w n (b + 1) (if sm_wr bp w b = 0 then a + 1 else a) ≤ _
    have := ih (b + 1) (if sm_wr bp w b = 0 then a + 1 else a)
    split at this <;> (rename_i q; simp only [q, if_true, if_false] <;> omega)
theorem sm_frLe (bc bp : Nat) (w : Nat → Bool) : sm_fr bc bp w ≤ bc := by
  have := sm_frsLe bp w bc 0 0
  unfold sm_fr
  omega
theorem sm_latS {bp : Nat} {h : Option Nat} {w : Nat → Bool} {s k : Nat → Int32} {key : Int32} : ∀ n p best, (∀ q, best = some q → q < p) → ∀ q, sm_lats bp h w s k key n p best = some q → q < p + n := by
  intro n
  induction n with
  | zero => intro p best hb q hq; exact hb q hq
  | succ n ih =>
    intro p best hb q hq
    have := ih (p + 1) (if w p = true ∧ k p = key ∧ sm_befO bp h s p best = true then some p else best) (fun r hr => by
      by_cases hc : w p = true ∧ k p = key ∧ sm_befO bp h s p best = true
      · rw [if_pos hc] at hr
        have := Option.some.inj hr
        omega
      · rw [if_neg hc] at hr
        have := hb r hr
        omega) q hq
    omega
theorem sm_latLt {bc bp : Nat} {M : zm_S} {key : Int32} {q : Nat} (h : sm_lat bc bp M key = some q) : q < bc * bp := by
  have := sm_latS (bc * bp) 0 none (fun _ h => by cases h) q h
  omega
theorem sm_lowsLt (bp : Nat) (w : Nat → Bool) : ∀ n best m, (∀ j, best = some j → j < m) → n ≤ m → ∀ j, sm_lows bp w n best = some j → j < m := by
  intro n
  induction n with
  | zero => intro best m hb _ j e; exact hb j e
  | succ n ih =>
    intro best m hb hn j e
    refine ih _ m (fun q hq => ?_) (by omega) j e
    by_cases hc : sm_wr bp w n = 0
    · rw [if_pos hc] at hq
      have := Option.some.inj hq
      omega
    · rw [if_neg hc] at hq
      exact hb q hq
theorem sm_lowOk (bc bp : Nat) (w : Nat → Bool) : zh_ok bc (sm_low bc bp w) := fun j h => sm_lowsLt bp w bc none bc (fun _ q => by cases q) (Nat.le_refl _) j h
theorem k_15 {k : Int32} : k < 16 ↔ k ≤ 15 := by
  rw [Int32.lt_iff_toInt_lt, Int32.le_iff_toInt_le]
  have e1 : (16 : Int32).toInt = 16 := by decide
  have e2 : (15 : Int32).toInt = 15 := by decide
  rw [e1, e2]
  omega
def sm_arm (M : zm_S) (n : Int32) : Bool × zm_S := if n < 0 then (false, M) else (true, (zmk (mm_f M) (mm_w M) (mm_q M) (mm_s M) (mm_k M) (mm_d M) (mm_h M) (mm_x M) (mm_r M) (mm_c M) n (mm_n M) (mm_t M) (mm_e M)))
theorem sm_actE (M : zm_S) : (sm_act M).2 = (zmk (mm_f M) (mm_w M) (mm_q M) (mm_s M) (mm_k M) (mm_d M) (mm_h M) (mm_x M) (mm_r (sm_act M).2) (mm_c (sm_act M).2) (mm_a (sm_act M).2) (mm_n (sm_act M).2) (mm_t M) (mm_e M)) := by
  unfold sm_act
  split <;> rfl
def sm_hks (bc bp : Nat) (M : zm_S) : Nat → Nat → Nat → Nat
  | 0, _, a => a
  | n + 1, k, a => sm_hks bc bp M n (k + 1) (if sm_held bc bp M (nI k) = true then a + 1 else a)
