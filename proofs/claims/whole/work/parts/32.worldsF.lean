/-! the cells of the code, of the flash -/
def zk_R : Nat → Int32 := fun i => nI (kt i)
def kbo (j : Nat) : Option Nat := if kb j = 255 then none else some (kb j)
def zk_B : Nat → Int32 := fun j => if j < 512 then oN (kbo j) else 0
def zk_C (cI : ClassId) (x : Nat → Nat) : va_W := [(x 3, .inr (2, [.ref (x 4), .ref (x 5)])), (x 4, .inl (cI, 178, .inl zk_R)), (x 5, .inl (cI, 512, .inl zk_B))]
def zk_W (cI : ClassId) (x : Nat → Nat) (u : Nat → Int32) : va_W := [(x 3, .inr (2, [.ref (x 4), .ref (x 5)])), (x 4, .inl (cI, 178, .inl zk_R)), (x 5, .inl (cI, 512, .inl zk_B)), (x 2, .inl (cI, 6, .inl u))]
def za_W (cI : ClassId) (a n : Nat) (f : Nat → Int32) : va_W := [(a, .inl (cI, n, .inl f))]
def zf_W (cI : ClassId) (x : Nat → Nat) (bc bp : Nat) (F : zf_S) : va_W := [(x 1, .inr (1, [.int (nI (bc * bp)), .ref (x 6), .ref (x 2), .ref (x 3)])), (x 6, .inl (cI, bc * bp * 6, .inl (zf_c F))), (x 2, .inl (cI, 6, .inl (zf_e F))), (x 3, .inr (2, [.ref (x 4), .ref (x 5)])), (x 4, .inl (cI, 178, .inl zk_R)), (x 5, .inl (cI, 512, .inl zk_B))]
theorem bt_nI {r s : Nat} (hs : s < 32) : bt (nI r) s = r.testBit s := by
  show (BitVec.ofNat 32 r).getLsbD s = _
  rw [BitVec.getLsbD_ofNat]
  simp [hs]
theorem kf_bit (r : Nat) {s : Nat} (hs : s < 32) : (((nI r).toUInt32 >>> ((nI s).toUInt32 &&& Int32.toUInt32 31)).toInt32 &&& 1) = bI (r.testBit s) := by rw [pb_u _ hs, bt_nI hs]
theorem kf_shl {n : Nat} (h : n < 9) : (nI 529) <<< (nI n &&& 31) = nI (529 <<< n) := by
  have : ∀ n, n < 9 → (nI 529) <<< (nI n &&& 31) = nI (529 <<< n) := by decide +kernel
  exact this n h
theorem kx_shl {r : Nat} (h : r < 262144) : (nI r) <<< (nI 1 &&& 31) = nI (2 * r) := by
  rw [pk_shlN (nI 1 &&& 31) 1 (by decide) (by omega)]
  congr 1
  omega
theorem kx_bit {r : Nat} (h : r < 262144) : (2 * r).testBit 18 = decide (262144 ≤ 2 * r) := by
  rw [Nat.testBit_eq_decide_div_mod_eq]
  apply decide_eq_decide.mpr
  omega
theorem kx_and (r : Nat) : nI r &&& nI 511 = nI (r % 512) := by
  rw [nx_and, show (511 : Nat) = 2 ^ 9 - 1 from rfl, Nat.and_two_pow_sub_one_eq_mod]
theorem prem_lt (u : Nat → Int32) : ∀ n i a, a < 262144 → prem u n i a < 262144 := by
  intro n
  induction n with
  | zero => intro i a h; exact h
  | succ n ih =>
    intro i a h
    refine ih (i + 1) _ ?_
    split
    · by_cases hi : i < 178
      · exact Nat.xor_lt_two_pow (n := 18) h (kt_lt1 hi).1
      · rw [kt_out (by omega), Nat.xor_zero]; exact h
    · exact h
theorem kx_lt {a b : Nat} (ha : a < 262144) (hb : b < 262144) : a ^^^ b < 262144 := Nat.xor_lt_two_pow (n := 18) ha hb
theorem kbo_some {r g : Nat} (h : kbo (kf r) = some g) : g = kb (kf r) ∧ g < 178 := by
  unfold kbo at h
  split at h
  · cases h
  · have := Option.some.inj h
    subst this
    exact ⟨rfl, (kb_small1 (kf_lt r)).elim id (fun z => absurd z (by assumption))⟩
theorem kbo_none {r : Nat} (h : kbo (kf r) = none) : kw r = none := by
  unfold kbo at h
  split at h
  · unfold kw
    rw [if_neg (by omega)]
  · cases h
theorem pz_le (u : Nat → Int32) : ∀ n k z, pzs u n k z ≤ z := by
  intro n
  induction n with
  | zero => intro k z; exact Nat.le_refl _
  | succ n ih =>
    intro k z
    have := ih (k + 1) (z - pc (u k))
    show pzs u n (k + 1) (z - pc (u k)) ≤ z
    omega
theorem pc_le (x : Int32) : pc x ≤ 32 := by rw [zw_pc]; exact zw_cnt_le _ _ _
theorem pc_le18 {x : Int32} (h : x.toBitVec.toNat < 2 ^ 18) : pc x ≤ 18 := by rw [zw_pc18 h]; exact zw_cnt_le _ _ _
def bc_b (N : Nat) : Nat := (bc_p2 8 (bc_p1 8 N) + bc_p2 8 (bc_p1 8 N) / 2 ^ 4) &&& 252645135
def bc_d (N : Nat) : Nat := bc_b N + bc_b N / 2 ^ 8
theorem bc_l1 {N : Nat} (h : N < 2 ^ 32) : bc_p1 8 N < 2 ^ 32 := Nat.lt_of_le_of_lt (Nat.sub_le _ _) h
theorem bc_l2 (N : Nat) : bc_p2 8 (bc_p1 8 N) < 2 ^ 32 := by
  have h1 : bc_p1 8 N &&& bc_m3 8 ≤ bc_m3 8 := Nat.and_le_right
  have h2 : bc_p1 8 N / 4 &&& bc_m3 8 ≤ bc_m3 8 := Nat.and_le_right
  have h3 : bc_m3 8 = 858993459 := by decide
  unfold bc_p2
  omega
theorem bc_l3 (N : Nat) : bc_b N < 2 ^ 32 := Nat.lt_of_le_of_lt Nat.and_le_right (by decide)
theorem bc_l4 (N : Nat) : bc_d N < 2 ^ 32 := by
  have h1 : bc_b N ≤ 252645135 := Nat.and_le_right
  unfold bc_d
  omega
theorem bc_fin {N : Nat} (h : N < 2 ^ 32) : (bc_d N + bc_d N / 2 ^ 16) &&& 63 = pc (nI N) := by
  have e1 : pc (nI N) = bc_ps 8 N := by unfold pc; rw [pk_tn h]
  rw [e1, ← bc_all N, show (63 : Nat) = 2 ^ 6 - 1 from rfl, Nat.and_two_pow_sub_one_eq_mod]
  rfl
