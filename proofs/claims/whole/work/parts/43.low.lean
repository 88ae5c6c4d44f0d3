theorem sl_held_some {bc bp : Nat} {L : zl_S} {k : Int32} (h : sl_held bc bp L k = true) : ∃ q, sl_lat bc bp L k = some q := by
  unfold sl_held at h
  rcases e : sl_lat bc bp L k with _ | q
  · rw [e] at h; cases h
  · exact ⟨q, rfl⟩
def ss_get1 (S : zs_S) : Option Nat → Int32 × zs_S
  | none => (0, S)
  | some q => ((if (ss_rd S q).1 = 1 ∨ (ss_rd S q).1 = 2 then zf_e (ss_F (ss_rd S q).2) 2 else 0), (ss_rd S q).2)
def ss_get (bc bp : Nat) (S : zs_S) (k : Int32) : Int32 × zs_S := match ss_r S, sl_held bc bp (ss_L S) k with
  | true, true => ss_get1 S (sl_lat bc bp (ss_L S) k)
  | _, _ => (0, S)
def sc_f (S : zs_S) (p : Nat) : Bool × (Nat → Int32) := sf_fr (sf_rd (zf_c (ss_F S)) (zf_e (ss_F S)) p)
def sc_s (S : zs_S) (p : Nat) : zs_S := ss_setF S (zf_c (ss_F S), (sc_f S p).2)
def sc_w (S : zs_S) (p : Nat) : zs_S := ss_setF S (sf_put (zf_c (ss_F S)) (zf_e (ss_F S)) p, zf_e (ss_F S))
def ss_scs : Nat → Nat → Nat → zs_S → Int32 × zs_S
  | 0, _, a, S => (nI a, S)
  | n + 1, p, a, S => if (sc_f S p).1 = true then (if (ss_may (sc_s S p)).1 = true then ss_scs n (p + 1) (a + 1) (sc_w (ss_may (sc_s S p)).2 p) else (-2, (ss_may (sc_s S p)).2)) else ss_scs n (p + 1) a (sc_s S p)
def ss_scrub (bc bp : Nat) (S : zs_S) : Int32 × zs_S := if ss_r S = true then ss_scs (bc * bp) 0 0 S else (-2, S)
/-- the highest bits of the last word stay 0 -/
theorem zw_low (x : Int32) : x.toBitVec.toNat < 2 ^ 18 ↔ ∀ i, 18 ≤ i → i < 32 → bt x i = false := by
  constructor
  · intro h i h1 h2
    rw [zw_bt]
    exact Nat.testBit_lt_two_pow (Nat.lt_of_lt_of_le h (Nat.pow_le_pow_right (by omega) h1))
  · intro h
    apply Nat.lt_pow_two_of_testBit
    intro i hi
    rcases Nat.lt_or_ge i 32 with q | q
    · rw [← zw_bt]; exact h i hi q
    · exact Nat.testBit_lt_two_pow (Nat.lt_of_lt_of_le x.toBitVec.isLt (Nat.pow_le_pow_right (by omega) q))
theorem ptn_low {u : Nat → Int32} {i : Nat} (hi : i < 178) (h : (u 5).toBitVec.toNat < 2 ^ 18) : (ptn u i 5).toBitVec.toNat < 2 ^ 18 := by
  unfold ptn
  by_cases h5 : 5 = i / 32
  · rw [h5, pk_us, ← h5]
    rw [zw_low] at h ⊢
    intro j h1 h2
    rw [b_xor, h j h1 h2, b_shl (i % 32) (by omega) 1 h2]
    have : ¬ bt 1 (j - i % 32) = true ∨ ¬ i % 32 ≤ j := by
      left
      rw [pb_1 _ (by omega), decide_eq_true_eq]
      omega
    rcases this with q | q
    · cases hq : bt 1 (j - i % 32) with
      | false => simp
      | true => exact absurd hq q
    · omega
  · rw [pk_un h5]; exact h
theorem rd_low {c e : Nat → Int32} {p : Nat} (h : (c (p * 6 + 5)).toBitVec.toNat < 2 ^ 18) : ((sf_rd c e p).2 5).toBitVec.toNat < 2 ^ 18 := by
  have hu : (sf_raw c e p 5).toBitVec.toNat < 2 ^ 18 := by rw [zw_raw _ _ _ 5 (by omega)]; exact h
  have hm : ∀ r, ((pmend (sf_raw c e p) r).2 5).toBitVec.toNat < 2 ^ 18 := by
    intro r
    unfold pmend
    split
    · exact hu
    · rcases hk : kw r with _ | i
      · show ((pmend2 (sf_raw c e p) (kp2 r 178 0)).2 5).toBitVec.toNat < 2 ^ 18
        rcases hk2 : kp2 r 178 0 with _ | ⟨a, b⟩
        · exact hu
        · obtain ⟨q1, q2, _⟩ := kp2_some 178 0 a b (by omega) hk2
          exact ptn_low q2 (ptn_low q1 hu)
      · exact ptn_low (kw_some.mp hk).1 hu
  unfold sf_rd sf_rd1
  split
  · exact hu
  · unfold sf_rd2 psafe
    split
    · show (sf_raw c (pmend (sf_raw c e p) (prem (sf_raw c e p) 178 0 0)).2 p 5).toBitVec.toNat < 2 ^ 18
      rw [zw_raw _ _ _ 5 (by omega)]; exact h
    · exact hm _
theorem put_low {n : Nat} {c e : Nat → Int32} {p : Nat} (h : slow n c) (he : (e 5).toBitVec.toNat < 2 ^ 18) : slow n (sf_put c e p) := by
  intro q hq
  unfold sf_put
  by_cases h1 : q = p
  · subst h1
    rw [pk_cpy_in (by omega) (by omega)]
    rw [show 0 + (q * 6 + 5 - q * 6) = 5 by omega]
    exact he
  · rw [pk_cpy_out (by omega)]
    exact h q hq
theorem fr_low {c e : Nat → Int32} {p : Nat} (h : (c (p * 6 + 5)).toBitVec.toNat < 2 ^ 18) : ((sf_fr (sf_rd c e p)).2 5).toBitVec.toNat < 2 ^ 18 := by
  unfold sf_fr
  split
  · show (sf_er (sf_rd c e p).2 5).toBitVec.toNat < 2 ^ 18
    unfold sf_er
    rw [pk_us]
    decide
  · exact rd_low h
theorem sc_low {n p : Nat} {T : zs_S} (h : slow n (zf_c (ss_F T))) (hp : p < n) (_ : (sf_fr (sf_rd (zf_c (ss_F T)) (zf_e (ss_F T)) p)).1 = true) : slow n (sf_put (zf_c (ss_F T)) (sf_fr (sf_rd (zf_c (ss_F T)) (zf_e (ss_F T)) p)).2 p) := put_low h (fr_low (h p hp))
