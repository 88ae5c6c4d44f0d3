def sm_cnd (n : Nat) (M : zm_S) (p : Int32) : Int32 × zm_S := match sidx n p with
  | some a => (nI (sm_rd (mm_f M) (mm_e M) a).1, sm_read M a)
  | none => (-3, M)
def sm_word (n : Nat) (M : zm_S) (p k : Int32) : Int32 := match sidx n p, sidx 6 k with
  | some a, some b => mm_f M (6 * a + b)
  | _, _ => 0
def sm_rot (n : Nat) (M : zm_S) (p i : Int32) : Bool × zm_S := match sidx n p, sidx 178 i with
  | some a, some b => (true, sm_sf M (upd (mm_f M) (6 * a + b / 32) (mm_f M (6 * a + b / 32) ^^^ ((1 : Int32) <<< (nI (b % 32) &&& 31)))))
  | _, _ => (false, M)
def sm_needed (bc bp : Nat) (M : zm_S) (b : Int32) : Int32 := match sidx bc b with
  | none => -3
  | some a => if mm_r M = true then nI (sm_nd bc bp M a) else -2
theorem sm_mend_t (e : Nat → Int32) (r : Nat) : True := trivial
theorem sm_rdM_le (f e : Nat → Int32) (p : Nat) : (sm_rd f e p).1 ≤ 3 := by
  unfold sm_rd sm_rd1
  split
  · exact (by decide : (0 : Nat) ≤ 3)
  · unfold sm_cond
    dsimp only
    split
    · split
      · exact (by decide : (1 : Nat) ≤ 3)
      · exact (by decide : (2 : Nat) ≤ 3)
    · exact (by decide : (3 : Nat) ≤ 3)
theorem sm_held_some {bc bp : Nat} {M : zm_S} {k : Int32} (h : sm_held bc bp M k = true) : ∃ q, sm_lat bc bp M k = some q := by
  unfold sm_held at h
  rcases e : sm_lat bc bp M k with _ | q
  · rw [e] at h; cases h
  · exact ⟨q, rfl⟩
theorem lt_178 {i : Int32} (h : i ≤ 177) : i < nI 178 := by
  rw [Int32.lt_iff_toInt_lt, nI_toInt (by decide)]
  rw [Int32.le_iff_toInt_le] at h
  have e : (177 : Int32).toInt = 177 := by decide
  rw [e] at h
  omega
theorem ge_178 {i : Int32} (h : ¬ i ≤ 177) : ¬ i < nI 178 := by
  rw [Int32.lt_iff_toInt_lt, nI_toInt (by decide)]
  rw [Int32.le_iff_toInt_le] at h
  have e : (177 : Int32).toInt = 177 := by decide
  rw [e] at h
  omega
