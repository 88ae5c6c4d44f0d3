/-- the cells of the store -/
def zs_W (cI cZ : ClassId) (x : Nat → Nat) (bc bp : Nat) (S : zs_S) : va_W := [(x 0, .inr (0, [.ref (x 1), .ref (x 7), .int (bI (ss_r S)), .int (bI (ss_f S)), .int (bI (ss_a S)), .int (ss_n S), .int (ss_d S)])), (x 1, .inr (1, [.int (nI (bc * bp)), .ref (x 6), .ref (x 2), .ref (x 3)])), (x 6, .inl (cI, bc * bp * 6, .inl (zf_c (ss_F S)))), (x 2, .inl (cI, 6, .inl (zf_e (ss_F S)))), (x 3, .inr (2, [.ref (x 4), .ref (x 5)])), (x 4, .inl (cI, 178, .inl zk_R)), (x 5, .inl (cI, 512, .inl zk_B)), (x 7, .inr (3, [.int (nI bc), .int (nI bp), .ref (x 8), .ref (x 9), .ref (x 10), .ref (x 11), .int (oN (zl_h (ss_L S))), .int (zl_x (ss_L S)), .int (nI (bc * bp)), .ref (x 12)])), (x 8, .inl (cI, bc * bp, .inl (zl_s (ss_L S)))), (x 9, .inl (cI, bc * bp, .inl (zl_k (ss_L S)))), (x 10, .inl (cI, bc * bp, .inl (zl_d (ss_L S)))), (x 11, .inl (cZ, bc * bp, .inl (bF (zl_m (ss_L S))))), (x 12, .inl (cZ, bc * bp, .inl (bF (zl_w (ss_L S)))))]
def slow (n : Nat) (f : Nat → Int32) : Prop := ∀ p, p < n → (f (p * 6 + 5)).toBitVec.toNat < 2 ^ 18
theorem ss_mayE (S : zs_S) : (ss_may S).2 = (ss_F S, ss_L S, ss_r (ss_may S).2, ss_f (ss_may S).2, ss_a S, ss_n (ss_may S).2, ss_d (ss_may S).2) := by
  unfold ss_may
  split <;> rfl
/-- an int that is a number below n -/
def sidx (n : Nat) (p : Int32) : Option Nat := if spg n p = true then some p.toNatClampNeg else none
theorem spg_true {n : Nat} {p : Int32} (hn : n < 2 ^ 31) (h : spg n p = true) : ∃ j, j < n ∧ p = nI j := by
  unfold spg at h
  simp only [Bool.and_eq_true, decide_eq_true_eq] at h
  rcases pk_ix p hn with q | q | q
  · exact absurd q (Int32.not_lt.mpr h.1)
  · exact absurd q (Int32.not_le.mpr h.2)
  · exact q
theorem spg_nI {n j : Nat} (hn : n < 2 ^ 31) (h : j < n) : spg n (nI j) = true := by
  unfold spg
  simp only [Bool.and_eq_true, decide_eq_true_eq]
  exact ⟨nI_pos' (by omega), (nI_ltI (by omega) hn).mpr h⟩
theorem sidx_nI {n j : Nat} (hn : n < 2 ^ 31) (h : j < n) : sidx n (nI j) = some j := by
  unfold sidx
  rw [if_pos (spg_nI hn h), nI_clamp (by omega)]
theorem sidx_no {n : Nat} {p : Int32} (h : spg n p = false) : sidx n p = none := by
  unfold sidx
  rw [if_neg (by rw [h]; decide)]
theorem spg_ge {n : Nat} {p : Int32} (h : ¬ p < nI n) : spg n p = false := by
  unfold spg
  rw [decide_eq_false h, Bool.and_false]
theorem spg_lt {n : Nat} {p : Int32} (h : p < 0) : spg n p = false := by
  unfold spg
  rw [decide_eq_false (Int32.not_le.mpr h), Bool.false_and]
theorem spg_in {n : Nat} {p : Int32} (h1 : ¬ p < 0) (h2 : p < nI n) : spg n p = true := by
  unfold spg
  rw [decide_eq_true (Int32.not_lt.mp h1), decide_eq_true h2]
  rfl
def ss_init (bc bp : Nat) (S : zs_S) : zs_S := ((sf_eps (sf_er (zf_e (ss_F S))) (bc * bp) 0 (zf_c (ss_F S)), sf_er (zf_e (ss_F S))), sl_all bc bp (ss_L S), true, false, false, 0, ss_d S)
def ss_rot (n : Nat) (S : zs_S) (p i : Int32) : Bool × zs_S := match sidx n p, sidx 178 i with
  | some a, some b => (true, ss_setF S (sf_turn (zf_c (ss_F S)) a b, zf_e (ss_F S)))
  | _, _ => (false, S)
def ss_cond (n : Nat) (S : zs_S) (p : Int32) : Int32 × zs_S := match sidx n p with
  | some a => (nI (ss_rd S a).1, (ss_rd S a).2)
  | none => (-3, S)
def ss_word (n : Nat) (S : zs_S) (p k : Int32) : Int32 := match sidx n p, sidx 6 k with
  | some a, some b => zf_c (ss_F S) (a * 6 + b)
  | _, _ => 0
def ss_need (bc bp : Nat) (S : zs_S) (b : Int32) : Int32 × zs_S := match sidx bc b with
  | none => (-3, S)
  | some a => if ss_r S = true then (nI (sl_mk bp (sl_mn bc bp (ss_L S)) a), ss_setL S (sl_setM (ss_L S) (sl_mn bc bp (ss_L S)))) else (-2, S)
def ss_arm (S : zs_S) (n : Int32) : Bool × zs_S := if n < 0 then (false, S) else (true, (ss_F S, ss_L S, ss_r S, ss_f S, true, n, ss_d S))
