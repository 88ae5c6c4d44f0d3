/-! how many bits of an int are one: as Integer.bitCount counts them -/
theorem bc_land16 (a b c d : Nat) (hb : b < 16) (hd : d < 16) : (16 * a + b) &&& (16 * c + d) = 16 * (a &&& c) + (b &&& d) := by
  have h1 : ((16 * a + b) &&& (16 * c + d)) / 2 ^ 4 = a &&& c := by
    rw [Nat.and_div_two_pow, show (16 * a + b) / 2 ^ 4 = a by omega, show (16 * c + d) / 2 ^ 4 = c by omega]
  have h2 : ((16 * a + b) &&& (16 * c + d)) % 2 ^ 4 = b &&& d := by
    rw [Nat.and_mod_two_pow, show (16 * a + b) % 2 ^ 4 = b by omega, show (16 * c + d) % 2 ^ 4 = d by omega]
  have h3 := Nat.div_add_mod ((16 * a + b) &&& (16 * c + d)) (2 ^ 4)
  rw [h1, h2] at h3
  omega
theorem bc_land256 (a b c d : Nat) (hb : b < 256) (hd : d < 256) : (256 * a + b) &&& (256 * c + d) = 256 * (a &&& c) + (b &&& d) := by
  have h1 : ((256 * a + b) &&& (256 * c + d)) / 2 ^ 8 = a &&& c := by
    rw [Nat.and_div_two_pow, show (256 * a + b) / 2 ^ 8 = a by omega, show (256 * c + d) / 2 ^ 8 = c by omega]
  have h2 : ((256 * a + b) &&& (256 * c + d)) % 2 ^ 8 = b &&& d := by
    rw [Nat.and_mod_two_pow, show (256 * a + b) % 2 ^ 8 = b by omega, show (256 * c + d) % 2 ^ 8 = d by omega]
  have h3 := Nat.div_add_mod ((256 * a + b) &&& (256 * c + d)) (2 ^ 8)
  rw [h1, h2] at h3
  omega
def bc_m5 : Nat → Nat
  | 0 => 0
  | k + 1 => 16 * bc_m5 k + 5
def bc_m3 : Nat → Nat
  | 0 => 0
  | k + 1 => 16 * bc_m3 k + 3
def bc_p1 (k n : Nat) : Nat := n - ((n / 2) &&& bc_m5 k)
def bc_p2 (k a : Nat) : Nat := (a &&& bc_m3 k) + ((a / 4) &&& bc_m3 k)
def bc_pop4 (d : Nat) : Nat := d % 2 + d / 2 % 2 + d / 4 % 2 + d / 8 % 2
def bc_ns : Nat → Nat → Nat
  | 0, _ => 0
  | k + 1, n => 16 * bc_ns k (n / 16) + bc_pop4 (n % 16)
def bc_ps : Nat → Nat → Nat
  | 0, _ => 0
  | k + 1, n => bc_ps k (n / 16) + bc_pop4 (n % 16)
theorem bc_c5 : ∀ x, x < 2 → ∀ y, y < 8 → (8 * x + y) &&& 5 = y &&& 5 := by decide
theorem bc_c3 : ∀ x, x < 4 → ∀ y, y < 4 → (4 * x + y) &&& 3 = y &&& 3 := by decide
theorem bc_nib : ∀ d, d < 16 → d - (d / 2 &&& 5) < 16 ∧ ((d - (d / 2 &&& 5)) &&& 3) + ((d - (d / 2 &&& 5)) / 4 &&& 3) = bc_pop4 d := by decide
theorem bc_p1s (k m d : Nat) (hd : d < 16) : bc_p1 (k + 1) (16 * m + d) = 16 * bc_p1 k m + (d - (d / 2 &&& 5)) := by
  have e1 : (16 * m + d) / 2 = 16 * (m / 2) + (8 * (m % 2) + d / 2) := by omega
  have h1 : ((16 * m + d) / 2) &&& bc_m5 (k + 1) = 16 * ((m / 2) &&& bc_m5 k) + (d / 2 &&& 5) := by
    show ((16 * m + d) / 2) &&& (16 * bc_m5 k + 5) = _
    rw [e1, bc_land16 _ _ _ _ (by omega) (by omega), bc_c5 (m % 2) (by omega) (d / 2) (by omega)]
  have h2 : (m / 2) &&& bc_m5 k ≤ m := Nat.le_trans Nat.and_le_left (by omega)
  have h3 : d / 2 &&& 5 ≤ d := Nat.le_trans Nat.and_le_left (by omega)
  unfold bc_p1
  rw [h1]
  omega
theorem bc_p2s (k a e : Nat) (he : e < 16) : bc_p2 (k + 1) (16 * a + e) = 16 * bc_p2 k a + ((e &&& 3) + (e / 4 &&& 3)) := by
  have e1 : (16 * a + e) / 4 = 16 * (a / 4) + (4 * (a % 4) + e / 4) := by omega
  have h1 : ((16 * a + e) / 4) &&& bc_m3 (k + 1) = 16 * ((a / 4) &&& bc_m3 k) + (e / 4 &&& 3) := by
    show ((16 * a + e) / 4) &&& (16 * bc_m3 k + 3) = _
    rw [e1, bc_land16 _ _ _ _ (by omega) (by omega), bc_c3 (a % 4) (by omega) (e / 4) (by omega)]
  have h2 : (16 * a + e) &&& bc_m3 (k + 1) = 16 * (a &&& bc_m3 k) + (e &&& 3) := by
    show (16 * a + e) &&& (16 * bc_m3 k + 3) = _
    rw [bc_land16 _ _ _ _ he (by omega)]
  unfold bc_p2
  rw [h1, h2]
  omega
theorem bc_p12 : ∀ k n, bc_p2 k (bc_p1 k n) = bc_ns k n := by
  intro k
  induction k with
  | zero => intro n; simp [bc_p2, bc_ns, bc_m3]
  | succ k ih =>
    intro n
    have e : n = 16 * (n / 16) + n % 16 := by omega
    have hd : n % 16 < 16 := by omega
    obtain ⟨h1, h2⟩ := bc_nib (n % 16) hd
    show bc_p2 (k + 1) (bc_p1 (k + 1) n) = 16 * bc_ns k (n / 16) + bc_pop4 (n % 16)
    rw [show bc_p1 (k + 1) n = bc_p1 (k + 1) (16 * (n / 16) + n % 16) by rw [← e], bc_p1s k _ _ hd, bc_p2s k _ _ h1, ih, h2]
theorem bc_pop4_le (d : Nat) : bc_pop4 d ≤ 4 := by unfold bc_pop4; omega
/-- the last three steps, by four bytes of two halves each -/
theorem bc_low (q0 q1 q2 q3 : Nat) (h0 : q0 ≤ 8) (h1 : q1 ≤ 8) (h2 : q2 ≤ 8) (h3 : q3 ≤ 8) :
    (let a := q0 + 256 * (q1 + 256 * (q2 + 256 * q3)); let b := a + a / 256; (b + b / 65536) % 64) = q0 + q1 + q2 + q3 := by
  show ((q0 + 256 * (q1 + 256 * (q2 + 256 * q3)) + (q0 + 256 * (q1 + 256 * (q2 + 256 * q3))) / 256) + (q0 + 256 * (q1 + 256 * (q2 + 256 * q3)) + (q0 + 256 * (q1 + 256 * (q2 + 256 * q3))) / 256) / 65536) % 64 = q0 + q1 + q2 + q3
  have e1 : (q0 + 256 * (q1 + 256 * (q2 + 256 * q3))) / 256 = q1 + 256 * (q2 + 256 * q3) := by omega
  rw [e1]
  have e2 : (q0 + 256 * (q1 + 256 * (q2 + 256 * q3)) + (q1 + 256 * (q2 + 256 * q3))) / 65536 = q2 + q3 + 256 * q3 := by omega
  rw [e2]
  omega
theorem bc_byte (x y : Nat) (hx : x < 16) : (x + 16 * y) &&& 15 = x := by
  have h := Nat.and_two_pow_sub_one_eq_mod (x + 16 * y) 4
  have e : 2 ^ 4 - 1 = 15 := by decide
  rw [e] at h
  rw [h]
  omega
theorem bc_mid (p0 p1 p2 p3 p4 p5 p6 p7 : Nat) (h0 : p0 ≤ 4) (h1 : p1 ≤ 4) (h2 : p2 ≤ 4) (h3 : p3 ≤ 4) (h4 : p4 ≤ 4) (h5 : p5 ≤ 4) (h6 : p6 ≤ 4) (h7 : p7 ≤ 4) :
    ((16 * (16 * (16 * (16 * (16 * (16 * (16 * (16 * 0 + p7) + p6) + p5) + p4) + p3) + p2) + p1) + p0) + (16 * (16 * (16 * (16 * (16 * (16 * (16 * (16 * 0 + p7) + p6) + p5) + p4) + p3) + p2) + p1) + p0) / 16) &&& 252645135 = (p0 + p1) + 256 * ((p2 + p3) + 256 * ((p4 + p5) + 256 * (p6 + p7))) := by
  have e : (16 * (16 * (16 * (16 * (16 * (16 * (16 * (16 * 0 + p7) + p6) + p5) + p4) + p3) + p2) + p1) + p0) + (16 * (16 * (16 * (16 * (16 * (16 * (16 * (16 * 0 + p7) + p6) + p5) + p4) + p3) + p2) + p1) + p0) / 16 =
      256 * (256 * (256 * ((p6 + p7) + 16 * p7) + ((p4 + p5) + 16 * (p5 + p6))) + ((p2 + p3) + 16 * (p3 + p4))) + ((p0 + p1) + 16 * (p1 + p2)) := by omega
  rw [e, show 252645135 = 256 * (256 * (256 * 15 + 15) + 15) + 15 by decide, bc_land256 _ _ _ _ (by omega) (by omega), bc_land256 _ _ _ _ (by omega) (by omega), bc_land256 _ _ _ _ (by omega) (by omega),
    bc_byte _ _ (by omega), bc_byte _ _ (by omega), bc_byte _ _ (by omega), bc_byte _ _ (by omega)]
  omega
theorem bc_all (n : Nat) : (let a := bc_p2 8 (bc_p1 8 n); let b := (a + a / 16) &&& 252645135; let d := b + b / 256; (d + d / 65536) % 64) = bc_ps 8 n := by
  show ((((bc_p2 8 (bc_p1 8 n) + bc_p2 8 (bc_p1 8 n) / 16) &&& 252645135) + ((bc_p2 8 (bc_p1 8 n) + bc_p2 8 (bc_p1 8 n) / 16) &&& 252645135) / 256) + (((bc_p2 8 (bc_p1 8 n) + bc_p2 8 (bc_p1 8 n) / 16) &&& 252645135) + ((bc_p2 8 (bc_p1 8 n) + bc_p2 8 (bc_p1 8 n) / 16) &&& 252645135) / 256) / 65536) % 64 = bc_ps 8 n
  rw [bc_p12]
  simp only [bc_ns, bc_ps]
  have k0 := bc_pop4_le (n % 16)
  have k1 := bc_pop4_le (n / 16 % 16)
  have k2 := bc_pop4_le (n / 16 / 16 % 16)
  have k3 := bc_pop4_le (n / 16 / 16 / 16 % 16)
  have k4 := bc_pop4_le (n / 16 / 16 / 16 / 16 % 16)
  have k5 := bc_pop4_le (n / 16 / 16 / 16 / 16 / 16 % 16)
  have k6 := bc_pop4_le (n / 16 / 16 / 16 / 16 / 16 / 16 % 16)
  have k7 := bc_pop4_le (n / 16 / 16 / 16 / 16 / 16 / 16 / 16 % 16)
  generalize bc_pop4 (n % 16) = p0 at *
  generalize bc_pop4 (n / 16 % 16) = p1 at *
  generalize bc_pop4 (n / 16 / 16 % 16) = p2 at *
  generalize bc_pop4 (n / 16 / 16 / 16 % 16) = p3 at *
  generalize bc_pop4 (n / 16 / 16 / 16 / 16 % 16) = p4 at *
  generalize bc_pop4 (n / 16 / 16 / 16 / 16 / 16 % 16) = p5 at *
  generalize bc_pop4 (n / 16 / 16 / 16 / 16 / 16 / 16 % 16) = p6 at *
  generalize bc_pop4 (n / 16 / 16 / 16 / 16 / 16 / 16 / 16 % 16) = p7 at *
  rw [bc_mid p0 p1 p2 p3 p4 p5 p6 p7 k0 k1 k2 k3 k4 k5 k6 k7]
  have h := bc_low (p0 + p1) (p2 + p3) (p4 + p5) (p6 + p7) (by omega) (by omega) (by omega) (by omega)
  dsimp only at h
  rw [h]
  omega
def bt (x : Int32) (i : Nat) : Bool := x.toBitVec.getLsbD i
theorem b_ext {x y : Int32} (h : ∀ i, i < 32 → bt x i = bt y i) : x = y := Int32.toBitVec_inj.mp (BitVec.eq_of_getLsbD_eq (fun i hi => h i hi))
theorem b_or (x y : Int32) (i : Nat) : bt (x ||| y) i = (bt x i || bt y i) := by unfold bt; rw [Int32.toBitVec_or, BitVec.getLsbD_or]
theorem b_and (x y : Int32) (i : Nat) : bt (x &&& y) i = (bt x i && bt y i) := by unfold bt; rw [Int32.toBitVec_and, BitVec.getLsbD_and]
theorem b_xor (x y : Int32) (i : Nat) : bt (x ^^^ y) i = (bt x i ^^ bt y i) := by unfold bt; rw [Int32.toBitVec_xor, BitVec.getLsbD_xor]
theorem b_big {x : Int32} {i : Nat} (h : 32 ≤ i) : bt x i = false := BitVec.getLsbD_of_ge _ _ h
theorem b_255 (i : Nat) : bt 255 i = decide (i < 8) := by
  rcases Nat.lt_or_ge i 32 with h | h
  · exact (by decide +kernel : ∀ i, i < 32 → bt 255 i = decide (i < 8)) i h
  · rw [b_big h, decide_eq_false (by omega)]
theorem b_65535 (i : Nat) : bt 65535 i = decide (i < 16) := by
  rcases Nat.lt_or_ge i 32 with h | h
  · exact (by decide +kernel : ∀ i, i < 32 → bt 65535 i = decide (i < 16)) i h
  · rw [b_big h, decide_eq_false (by omega)]
theorem b_m1 : ∀ i, i < 32 → bt (-1) i = true := by decide +kernel
theorem b_0 (i : Nat) : bt 0 i = false := BitVec.getLsbD_zero
theorem s_l : ∀ n, n < 32 → ((nI n &&& 31).toBitVec.smod 32).toNat = n := by decide +kernel
theorem s_u : ∀ n, n < 32 → (((nI n).toUInt32 &&& Int32.toUInt32 31).toBitVec % 32).toNat = n := by decide +kernel
theorem b_shl (n : Nat) (hn : n < 32) (x : Int32) {i : Nat} (hi : i < 32) : bt (x <<< (nI n &&& 31)) i = (decide (n ≤ i) && bt x (i - n)) := by
  unfold bt
  rw [Int32.toBitVec_shiftLeft]
  show (x.toBitVec <<< ((nI n &&& 31).toBitVec.smod 32).toNat).getLsbD i = _
  rw [s_l n hn, BitVec.getLsbD_shiftLeft]
  rcases Nat.lt_or_ge i n with h | h
  · simp [h, Nat.not_le.mpr h]
  · simp [hi, h, Nat.not_lt.mpr h]
theorem b_ushr (n : Nat) (hn : n < 32) (x : Int32) (i : Nat) : bt ((x.toUInt32 >>> ((nI n).toUInt32 &&& Int32.toUInt32 31)).toInt32) i = bt x (n + i) := by
  show (x.toUInt32 >>> ((nI n).toUInt32 &&& Int32.toUInt32 31)).toBitVec.getLsbD i = x.toUInt32.toBitVec.getLsbD (n + i)
  rw [UInt32.toBitVec_shiftRight]
  show (x.toUInt32.toBitVec >>> (((nI n).toUInt32 &&& Int32.toUInt32 31).toBitVec % 32).toNat).getLsbD i = _
  rw [s_u n hn, BitVec.getLsbD_ushiftRight]
theorem b_sshr (n : Nat) (hn : n < 32) (x : Int32) {i : Nat} (hi : i < 32) : bt (x >>> (nI n &&& 31)) i = if n + i < 32 then bt x (n + i) else bt x 31 := by
  unfold bt
  rw [Int32.toBitVec_shiftRight]
  show (x.toBitVec.sshiftRight ((nI n &&& 31).toBitVec.smod 32).toNat).getLsbD i = _
  rw [s_l n hn, BitVec.getLsbD_sshiftRight, BitVec.msb_eq_getLsbD_last]
  simp [hi]
theorem nx_and (a b : Nat) : nI a &&& nI b = nI (a &&& b) := by
  apply Int32.toBitVec_inj.1
  show BitVec.ofNat 32 a &&& BitVec.ofNat 32 b = BitVec.ofNat 32 (a &&& b)
  apply BitVec.eq_of_getLsbD_eq
  intro i hi
  simp [hi]
theorem nx_xor (a b : Nat) : nI a ^^^ nI b = nI (a ^^^ b) := by
  apply Int32.toBitVec_inj.1
  show BitVec.ofNat 32 a ^^^ BitVec.ofNat 32 b = BitVec.ofNat 32 (a ^^^ b)
  apply BitVec.eq_of_getLsbD_eq
  intro i hi
  simp [hi]
theorem wb_of32 (x : Int32) : ∃ n, n < 2 ^ 32 ∧ x = nI n := ⟨x.toBitVec.toNat, x.toBitVec.isLt, Int32.toBitVec_inj.mp (by show _ = BitVec.ofNat 32 _; simp)⟩
theorem pb_1 : ∀ i, i < 32 → bt 1 i = decide (i = 0) := by decide +kernel
theorem pb_bI (b : Bool) (i : Nat) (hi : i < 32) : bt (bI b) i = (b && decide (i = 0)) := by
  cases b
  · exact b_0 i
  · rw [Bool.true_and]; exact pb_1 i hi
theorem pb_u (x : Int32) {s : Nat} (hs : s < 32) : ((x.toUInt32 >>> ((nI s).toUInt32 &&& Int32.toUInt32 31)).toInt32 &&& 1) = bI (bt x s) := by
  apply b_ext
  intro i hi
  rw [b_and, b_ushr s hs, pb_1 i hi, pb_bI _ i hi]
  by_cases h : i = 0
  · subst h; simp
  · simp [h]
theorem pb_s (x : Int32) {s : Nat} (hs : s < 32) : ((x >>> (nI s &&& 31)) &&& 1) = bI (bt x s) := by
  apply b_ext
  intro i hi
  rw [b_and, b_sshr s hs x hi, pb_1 i hi, pb_bI _ i hi]
  by_cases h : i = 0
  · subst h
    rw [if_pos (by omega)]
    simp
  · simp [h]
