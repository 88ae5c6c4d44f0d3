/-! a page is read alike -/
def zw_eq (u v : Nat → Int32) : Prop := ∀ k, k < 6 → u k = v k
theorem zw_bit {u v : Nat → Int32} (h : zw_eq u v) {i : Nat} (hi : i < 178) : pbit u i = pbit v i := by
  unfold pbit
  rw [h (i / 32) (by omega)]
theorem zw_ptn {u v : Nat → Int32} (h : zw_eq u v) {i : Nat} (hi : i < 178) : zw_eq (ptn u i) (ptn v i) := by
  intro k hk
  unfold ptn upd
  rw [h (i / 32) (by omega), h k hk]
theorem zw_ptn2 (u : Nat → Int32) (i j : Nat) : ptn (ptn u i) j = ptn (ptn u j) i := by
  funext k
  unfold ptn upd
  by_cases h : i / 32 = j / 32
  · by_cases h2 : k = i / 32
    · simp only [h2, h, if_true]
      rw [Int32.xor_assoc, Int32.xor_assoc, Int32.xor_comm ((1 : Int32) <<< (nI (i % 32) &&& 31))]
    · have h3 : ¬ k = j / 32 := by rw [← h]; exact h2
      simp only [h2, h3, if_false]
  · by_cases h2 : k = i / 32
    · have h3 : ¬ k = j / 32 := by rw [h2]; exact h
      have h4 : ¬ i / 32 = j / 32 := h
      simp only [h2, if_true, h4, if_false]
    · by_cases h3 : k = j / 32
      · have h4 : ¬ j / 32 = i / 32 := fun q => h q.symm
        simp only [h3, if_true, h4, if_false]
      · simp only [h2, h3, if_false]
theorem zw_prem {u v : Nat → Int32} (h : zw_eq u v) : ∀ n i a, i + n ≤ 178 → prem u n i a = prem v n i a := by
  intro n
  induction n with
  | zero => intro i a _; rfl
  | succ n ih =>
    intro i a hi
    show prem u n (i + 1) (if pbit u i = true then a ^^^ kt i else a) = prem v n (i + 1) (if pbit v i = true then a ^^^ kt i else a)
    rw [zw_bit h (by omega)]
    exact ih (i + 1) _ (by omega)
theorem zw_pzs {u v : Nat → Int32} (h : zw_eq u v) : ∀ n k z, k + n ≤ 6 → pzs u n k z = pzs v n k z := by
  intro n
  induction n with
  | zero => intro k z _; rfl
  | succ n ih =>
    intro k z hk
    show pzs u n (k + 1) (z - pc (u k)) = pzs v n (k + 1) (z - pc (v k))
    rw [h k (by omega)]
    exact ih (k + 1) _ (by omega)
theorem zw_prec {u v : Nat → Int32} (h : zw_eq u v) : prec u = sm_rec v := by
  unfold prec sm_rec pkey
  rw [h 0 (by omega), h 1 (by omega), h 2 (by omega), h 3 (by omega), h 4 (by omega)]
  have e : decide (v 1 < 16) = decide (v 1 ≤ 15) := by
    apply decide_eq_decide.mpr
    rw [Int32.lt_iff_toInt_lt, Int32.le_iff_toInt_le]
    have e1 : (16 : Int32).toInt = 16 := by decide
    have e2 : (15 : Int32).toInt = 15 := by decide
    rw [e1, e2]
    omega
  rw [e, Bool.and_assoc]
theorem zw_raw (f e : Nat → Int32) (p k : Nat) (hk : k < 6) : sf_raw f e p k = f (p * 6 + k) := by
  unfold sf_raw
  rw [pk_cpy_in (by omega) (by omega)]
  congr 1
theorem zw_cps (f : Nat → Int32) (p : Nat) : ∀ n k e j, sm_cps f p n k e j = if k ≤ j ∧ j < k + n then f (6 * p + j) else e j := by
  intro n
  induction n with
  | zero => intro k e j; rw [if_neg (by omega)]; rfl
  | succ n ih =>
    intro k e j
    show sm_cps f p n (k + 1) (upd e k (f (6 * p + k))) j = _
    rw [ih]
    by_cases h : j = k
    · subst h
      rw [if_neg (by omega), if_pos (by omega), pk_us]
    · by_cases h2 : k + 1 ≤ j ∧ j < k + 1 + n
      · rw [if_pos h2, if_pos (by omega)]
      · rw [if_neg h2, if_neg (by omega), pk_un h]
theorem zw_rs {f' u : Nat → Int32} {p : Nat} (h : ∀ k, k < 6 → u k = f' (6 * p + k)) : ∀ n i a, i + n ≤ 178 → sm_rs f' p n i a = prem u n i a := by
  intro n
  induction n with
  | zero => intro i a _; rfl
  | succ n ih =>
    intro i a hi
    show sm_rs f' p n (i + 1) (if sm_bit f' p i = true then a ^^^ kt i else a) = prem u n (i + 1) (if pbit u i = true then a ^^^ kt i else a)
    have e : sm_bit f' p i = pbit u i := by
      unfold sm_bit pbit
      rw [h (i / 32) (by omega)]
    rw [e]
    exact ih (i + 1) _ (by omega)
/-- the bits of a number, counted -/
def zw_cnt (x : Nat) : Nat → Nat → Nat
  | 0, _ => 0
  | n + 1, s => (if x.testBit s = true then 1 else 0) + zw_cnt x n (s + 1)
theorem zw_cnt_shift (x m : Nat) : ∀ n s, zw_cnt x n (s + m) = zw_cnt (x / 2 ^ m) n s := by
  intro n
  induction n with
  | zero => intro s; rfl
  | succ n ih =>
    intro s
    show (if x.testBit (s + m) = true then 1 else 0) + zw_cnt x n (s + m + 1) = (if (x / 2 ^ m).testBit s = true then 1 else 0) + zw_cnt (x / 2 ^ m) n (s + 1)
    rw [Nat.testBit_div_two_pow, show s + m + 1 = s + 1 + m by omega, ih]
theorem zw_cnt4 (x : Nat) : zw_cnt x 4 0 = bc_pop4 (x % 16) := by
  have b0 : x.testBit 0 = decide (x % 2 = 1) := by rw [Nat.testBit_eq_decide_div_mod_eq]; simp
  have b1 : x.testBit 1 = decide (x / 2 % 2 = 1) := by rw [Nat.testBit_eq_decide_div_mod_eq]
  have b2 : x.testBit 2 = decide (x / 4 % 2 = 1) := by rw [Nat.testBit_eq_decide_div_mod_eq]
  have b3 : x.testBit 3 = decide (x / 8 % 2 = 1) := by rw [Nat.testBit_eq_decide_div_mod_eq]
  show (if x.testBit 0 = true then 1 else 0) + ((if x.testBit 1 = true then 1 else 0) + ((if x.testBit 2 = true then 1 else 0) + ((if x.testBit 3 = true then 1 else 0) + 0))) = _
  rw [b0, b1, b2, b3]
  unfold bc_pop4
  simp only [decide_eq_true_eq]
  have c0 : x % 16 % 2 = x % 2 := by omega
  have c1 : x % 16 / 2 % 2 = x / 2 % 2 := by omega
  have c2 : x % 16 / 4 % 2 = x / 4 % 2 := by omega
  have c3 : x % 16 / 8 % 2 = x / 8 % 2 := by omega
  rw [c0, c1, c2, c3]
  split <;> split <;> split <;> split <;> omega
theorem zw_cnt_app (x m : Nat) : ∀ n s, zw_cnt x (n + m) s = zw_cnt x n s + zw_cnt x m (s + n) := by
  intro n
  induction n with
  | zero => intro s; rw [Nat.zero_add]; show _ = 0 + _; rw [Nat.zero_add]; rfl
  | succ n ih =>
    intro s
    rw [show n + 1 + m = n + m + 1 by omega]
    show _ + zw_cnt x (n + m) (s + 1) = _ + zw_cnt x n (s + 1) + _
    rw [ih, show s + 1 + n = s + (n + 1) by omega, Nat.add_assoc]
theorem zw_ps : ∀ k x, bc_ps k x = zw_cnt x (4 * k) 0 := by
  intro k
  induction k with
  | zero => intro x; rfl
  | succ k ih =>
    intro x
    show bc_ps k (x / 16) + bc_pop4 (x % 16) = _
    rw [show 4 * (k + 1) = 4 + 4 * k by omega, zw_cnt_app, zw_cnt4, ih, show 0 + 4 = 0 + 4 from rfl, zw_cnt_shift x 4 (4 * k) 0, Nat.add_comm]
theorem zw_cnt_le (x : Nat) : ∀ n s, zw_cnt x n s ≤ n := by
  intro n
  induction n with
  | zero => intro s; exact Nat.le_refl _
  | succ n ih =>
    intro s
    show (if x.testBit s = true then 1 else 0) + zw_cnt x n (s + 1) ≤ n + 1
    have := ih (s + 1)
    split <;> omega
theorem zw_cnt_hi {x m : Nat} (h : x < 2 ^ m) : ∀ n s, m ≤ s → zw_cnt x n s = 0 := by
  intro n
  induction n with
  | zero => intro s _; rfl
  | succ n ih =>
    intro s hs
    show (if x.testBit s = true then 1 else 0) + zw_cnt x n (s + 1) = 0
    rw [ih (s + 1) (by omega), Nat.testBit_lt_two_pow (Nat.lt_of_lt_of_le h (Nat.pow_le_pow_right (by omega) hs))]
    rfl
theorem zw_bt (x : Int32) (s : Nat) : bt x s = x.toBitVec.toNat.testBit s := by
  unfold bt
  rw [BitVec.testBit_toNat]
/-- zeros of a run of bits within one word -/
theorem zw_zs1 {f' u : Nat → Int32} {p : Nat} (h : ∀ k, k < 6 → u k = f' (6 * p + k)) (k : Nat) (hk : k < 6) : ∀ n s z, s + n ≤ 32 → ∀ m, sm_zs f' p (n + m) (32 * k + s) z = sm_zs f' p m (32 * k + s + n) (z + (n - zw_cnt (u k).toBitVec.toNat n s)) := by
  intro n
  induction n with
  | zero => intro s z _ m; simp [zw_cnt]
  | succ n ih =>
    intro s z hs m
    rw [show n + 1 + m = (n + m) + 1 by omega]
    show sm_zs f' p (n + m) (32 * k + s + 1) (if sm_bit f' p (32 * k + s) = true then z else z + 1) = _
    have e : sm_bit f' p (32 * k + s) = (u k).toBitVec.toNat.testBit s := by
      unfold sm_bit
      rw [show (32 * k + s) / 32 = k by omega, show (32 * k + s) % 32 = s by omega, ← h k hk, zw_bt]
    rw [show 32 * k + s + 1 = 32 * k + (s + 1) by omega, ih (s + 1) _ (by omega) m, e, show 32 * k + (s + 1) + n = 32 * k + s + (n + 1) by omega]
    congr 1
    show _ = z + (n + 1 - ((if (u k).toBitVec.toNat.testBit s = true then 1 else 0) + zw_cnt (u k).toBitVec.toNat n (s + 1)))
    have := zw_cnt_le (u k).toBitVec.toNat n (s + 1)
    split <;> omega
theorem zw_pc (x : Int32) : pc x = zw_cnt x.toBitVec.toNat 32 0 := zw_ps 8 x.toBitVec.toNat
theorem zw_pc18 {x : Int32} (h : x.toBitVec.toNat < 2 ^ 18) : pc x = zw_cnt x.toBitVec.toNat 18 0 := by
  have e := zw_cnt_app x.toBitVec.toNat 14 18 0
  rw [zw_pc]
  refine e.trans ?_
  rw [zw_cnt_hi h 14 (0 + 18) (by omega), Nat.add_zero]
theorem zw_zeros {f' u : Nat → Int32} {p : Nat} (h : ∀ k, k < 6 → u k = f' (6 * p + k)) (h5 : (u 5).toBitVec.toNat < 2 ^ 18) : sm_zs f' p 178 0 0 = pz u := by
  have c0 := zw_cnt_le (u 0).toBitVec.toNat 32 0
  have c1 := zw_cnt_le (u 1).toBitVec.toNat 32 0
  have c2 := zw_cnt_le (u 2).toBitVec.toNat 32 0
  have c3 := zw_cnt_le (u 3).toBitVec.toNat 32 0
  have c4 := zw_cnt_le (u 4).toBitVec.toNat 32 0
  have c5 := zw_cnt_le (u 5).toBitVec.toNat 18 0
  have s0 := zw_zs1 h 0 (by omega) 32 0 0 (by omega) 146
  have s1 := zw_zs1 h 1 (by omega) 32 0 (0 + (32 - zw_cnt (u 0).toBitVec.toNat 32 0)) (by omega) 114
  have s2 := zw_zs1 h 2 (by omega) 32 0 (0 + (32 - zw_cnt (u 0).toBitVec.toNat 32 0) + (32 - zw_cnt (u 1).toBitVec.toNat 32 0)) (by omega) 82
  have s3 := zw_zs1 h 3 (by omega) 32 0 (0 + (32 - zw_cnt (u 0).toBitVec.toNat 32 0) + (32 - zw_cnt (u 1).toBitVec.toNat 32 0) + (32 - zw_cnt (u 2).toBitVec.toNat 32 0)) (by omega) 50
  have s4 := zw_zs1 h 4 (by omega) 32 0 (0 + (32 - zw_cnt (u 0).toBitVec.toNat 32 0) + (32 - zw_cnt (u 1).toBitVec.toNat 32 0) + (32 - zw_cnt (u 2).toBitVec.toNat 32 0) + (32 - zw_cnt (u 3).toBitVec.toNat 32 0)) (by omega) 18
  have s5 := zw_zs1 h 5 (by omega) 18 0 (0 + (32 - zw_cnt (u 0).toBitVec.toNat 32 0) + (32 - zw_cnt (u 1).toBitVec.toNat 32 0) + (32 - zw_cnt (u 2).toBitVec.toNat 32 0) + (32 - zw_cnt (u 3).toBitVec.toNat 32 0) + (32 - zw_cnt (u 4).toBitVec.toNat 32 0)) (by omega) 0
  have g0 : sm_zs f' p 178 0 0 = sm_zs f' p 146 32 (0 + (32 - zw_cnt (u 0).toBitVec.toNat 32 0)) := s0
  rw [g0]
  refine s1.trans (s2.trans (s3.trans (s4.trans (s5.trans ?_))))
  show _ = (178 - pc (u 0) - pc (u 1) - pc (u 2) - pc (u 3) - pc (u 4) - pc (u 5))
  rw [zw_pc, zw_pc, zw_pc, zw_pc, zw_pc, zw_pc18 h5]
  show 0 + (32 - zw_cnt (u 0).toBitVec.toNat 32 0) + (32 - zw_cnt (u 1).toBitVec.toNat 32 0) + (32 - zw_cnt (u 2).toBitVec.toNat 32 0) + (32 - zw_cnt (u 3).toBitVec.toNat 32 0) + (32 - zw_cnt (u 4).toBitVec.toNat 32 0) + (18 - zw_cnt (u 5).toBitVec.toNat 18 0) = _
  omega
/-- reading: the same condition; the same words, or the raw ones where the page is bad -/
theorem zw_rd {f f' e e' : Nat → Int32} {p : Nat} (h : ∀ k, k < 6 → f (p * 6 + k) = f' (6 * p + k)) (h5 : (f (p * 6 + 5)).toBitVec.toNat < 2 ^ 18) :
    (sf_rd f e p).1 = (sm_rd f' e' p).1 ∧ ((sf_rd f e p).1 ≠ 3 → zw_eq (sf_rd f e p).2 (sm_rd f' e' p).2) ∧ ((sf_rd f e p).1 = 3 → ∀ k, k < 6 → (sf_rd f e p).2 k = f (p * 6 + k)) := by
  have hu : ∀ k, k < 6 → sf_raw f e p k = f' (6 * p + k) := fun k hk => by rw [zw_raw f e p k hk, h k hk]
  have h5u : (sf_raw f e p 5).toBitVec.toNat < 2 ^ 18 := by rw [zw_raw f e p 5 (by omega)]; exact h5
  have hv : zw_eq (sf_raw f e p) (sm_cps f' p 6 0 e') := fun k hk => by rw [zw_cps, if_pos (by omega)]; exact hu k hk
  have hz := zw_zeros hu h5u
  have hr := zw_rs hu 178 0 0 (by omega)
  unfold sf_rd sm_rd sf_rd1 sm_rd1
  rw [hz, hr]
  by_cases hb : pz (sf_raw f e p) ≤ 2
  · rw [if_pos hb, if_pos hb]
    exact ⟨rfl, fun _ => hv, fun q => absurd (show (0 : Nat) = 3 from q) (by decide)⟩
  · rw [if_neg hb, if_neg hb]
    generalize hrr : prem (sf_raw f e p) 178 0 0 = r
    -- what both have mended
    have key : ((pmend (sf_raw f e p) r).1 = 3 ∧ (sm_good (sm_cps f' p 6 0 e') r).1 = false ∧ (pmend (sf_raw f e p) r).2 = sf_raw f e p) ∨ ((pmend (sf_raw f e p) r).1 = (if r = 0 then 1 else 2) ∧ (sm_good (sm_cps f' p 6 0 e') r).1 = true ∧ zw_eq (pmend (sf_raw f e p) r).2 (sm_good (sm_cps f' p 6 0 e') r).2) := by
      unfold pmend sm_good
      by_cases h0 : r = 0
      · right
        rw [if_pos h0, if_pos h0, if_pos h0]
        exact ⟨rfl, rfl, hv⟩
      · rw [if_neg h0, if_neg h0, if_neg h0]
        unfold sm_mend
        rw [km1_spec r 178 0 (by omega) (fun j hj => by omega)]
        rcases hk : kw r with _ | i
        · show ((pmend2 (sf_raw f e p) (kp2 r 178 0)).1 = 3 ∧ (sm_mend2 (sm_cps f' p 6 0 e') (km2 r 178 0)).1 = false ∧ (pmend2 (sf_raw f e p) (kp2 r 178 0)).2 = sf_raw f e p) ∨ ((pmend2 (sf_raw f e p) (kp2 r 178 0)).1 = 2 ∧ (sm_mend2 (sm_cps f' p 6 0 e') (km2 r 178 0)).1 = true ∧ zw_eq (pmend2 (sf_raw f e p) (kp2 r 178 0)).2 (sm_mend2 (sm_cps f' p 6 0 e') (km2 r 178 0)).2)
          rcases kp2_km2 h0 with ⟨q1, q2⟩ | ⟨a, b, q1, q2, q3, q4⟩
          · left
            rw [q1, q2]
            exact ⟨rfl, rfl, rfl⟩
          · right
            rw [q3]
            rcases q4 with q4 | q4
            · rw [q4]
              refine ⟨rfl, rfl, ?_⟩
              show zw_eq (ptn (ptn (sf_raw f e p) b) a) (ptn (ptn (sm_cps f' p 6 0 e') a) b)
              rw [zw_ptn2]
              exact zw_ptn (zw_ptn hv q2) (by omega)
            · rw [q4]
              refine ⟨rfl, rfl, ?_⟩
              exact zw_ptn (zw_ptn hv q2) (by omega)
        · right
          exact ⟨rfl, rfl, zw_ptn hv (kw_some.mp hk).1⟩
    unfold sf_rd2 psafe sm_cond
    rcases key with ⟨k1, k2, k3⟩ | ⟨k1, k2, k3⟩
    · have n1 : ¬ (((pmend (sf_raw f e p) r).1 = 1 ∨ (pmend (sf_raw f e p) r).1 = 2) ∧ prec (pmend (sf_raw f e p) r).2 = false) := by rw [k1]; omega
      have n2 : ¬ ((sm_good (sm_cps f' p 6 0 e') r).1 = true ∧ sm_rec (sm_good (sm_cps f' p 6 0 e') r).2 = true) := by rw [k2]; exact fun q => absurd q.1 (by decide)
      rw [if_neg n1, if_neg n2, k1]
      exact ⟨rfl, fun q => absurd rfl q, fun _ k hk => by rw [k3]; exact zw_raw f e p k hk⟩
    · have hp := zw_prec k3
      by_cases hc : sm_rec (sm_good (sm_cps f' p 6 0 e') r).2 = true
      · rw [hc] at hp
        rw [if_neg (fun q => by rw [hp] at q; exact absurd q.2 (by decide)), if_pos ⟨k2, hc⟩, k1]
        refine ⟨rfl, fun _ => k3, fun q => ?_⟩
        exfalso
        split at q <;> omega
      · have hc' : sm_rec (sm_good (sm_cps f' p 6 0 e') r).2 = false := by
          cases q : sm_rec (sm_good (sm_cps f' p 6 0 e') r).2 with
          | false => rfl
          | true => exact absurd q hc
        rw [hc'] at hp
        have c1 : (pmend (sf_raw f e p) r).1 = 1 ∨ (pmend (sf_raw f e p) r).1 = 2 := by rw [k1]; split <;> omega
        rw [if_pos ⟨c1, hp⟩, if_neg (fun q => hc q.2)]
        exact ⟨rfl, fun q => absurd rfl q, fun _ k hk => zw_raw f _ p k hk⟩
