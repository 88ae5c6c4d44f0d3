/-! what the constructors make -/
def kr : Nat → Nat
  | 0 => 1
  | e + 1 => kstep (kr e)
theorem kpos_lt {e : Nat} (h : e < 178) : kpos e < 178 := by
  unfold kpos
  split <;> omega
theorem kpos_inv {i : Nat} (h : i < 178) : ∃ e, e < 178 ∧ kpos e = i := by
  by_cases h1 : 160 ≤ i
  · exact ⟨i - 160, by omega, by unfold kpos; rw [if_pos (by omega)]; omega⟩
  · exact ⟨i + 18, by omega, by unfold kpos; rw [if_neg (by omega)]; omega⟩
theorem kpos_inj {a b : Nat} (ha : a < 178) (hb : b < 178) (h : kpos a = kpos b) : a = b := by
  unfold kpos at h
  split at h <;> split at h <;> omega
theorem kr_kt : ∀ e, e < 178 → kr e = kt (kpos e) := by
  intro e
  induction e with
  | zero => intro _; show 1 = kt (kpos 0); decide +kernel
  | succ e ih =>
    intro h
    show kstep (kr e) = _
    rw [ih (by omega), kt_step1 (by omega)]
theorem kr_lt {e : Nat} (h : e < 178) : kr e < 262144 := by
  rw [kr_kt e h]
  exact (kt_lt1 (kpos_lt h)).1
def ci_R : Nat → Nat → (Nat → Int32) → (Nat → Int32)
  | 0, _, f => f
  | n + 1, e, f => ci_R n (e + 1) (upd f (kpos e) (nI (kr e)))
def ci_B : Nat → Nat → (Nat → Int32) → (Nat → Int32)
  | 0, _, f => f
  | n + 1, e, f => ci_B n (e + 1) (upd f (kf (kr e)) (nI (kpos e)))
theorem ci_RE : ∀ n e f j, e + n = 178 → (∃ a, e ≤ a ∧ a < 178 ∧ kpos a = j ∧ ci_R n e f j = nI (kt j)) ∨ ((∀ a, e ≤ a → a < 178 → kpos a ≠ j) ∧ ci_R n e f j = f j) := by
  intro n
  induction n with
  | zero => intro e f j h; exact Or.inr ⟨fun a h1 h2 => by omega, rfl⟩
  | succ n ih =>
    intro e f j h
    rcases ih (e + 1) (upd f (kpos e) (nI (kr e))) j (by omega) with ⟨a, h1, h2, h3, h4⟩ | ⟨h1, h2⟩
    · exact Or.inl ⟨a, by omega, h2, h3, h4⟩
    · by_cases hj : kpos e = j
      · refine Or.inl ⟨e, Nat.le_refl _, by omega, hj, ?_⟩
        show ci_R n (e + 1) (upd f (kpos e) (nI (kr e))) j = _
        rw [h2, hj, pk_us, kr_kt e (by omega), hj]
      · refine Or.inr ⟨fun a h3 h4 => ?_, ?_⟩
        · by_cases ha : a = e
          · subst ha; exact hj
          · exact h1 a (by omega) h4
        · show ci_R n (e + 1) (upd f (kpos e) (nI (kr e))) j = _
          rw [h2, pk_un (fun z => hj z.symm)]
theorem ci_R_ok : ci_R 178 0 (fun _ => 0) = (fun i => nI (kt i)) := by
  funext j
  rcases ci_RE 178 0 (fun _ => 0) j (by omega) with ⟨a, _, _, _, h⟩ | ⟨h1, h2⟩
  · exact h
  · rw [h2]
    have hj : 178 ≤ j := by
      rcases Nat.lt_or_ge j 178 with q | q
      · obtain ⟨e, e1, e2⟩ := kpos_inv q
        exact absurd e2 (h1 e (by omega) e1)
      · exact q
    rw [kt_out hj]
    rfl
theorem ci_BE : ∀ n e f j, e + n = 178 → (∃ a, e ≤ a ∧ a < 178 ∧ kf (kt (kpos a)) = j ∧ ci_B n e f j = nI (kpos a)) ∨ ((∀ a, e ≤ a → a < 178 → kf (kt (kpos a)) ≠ j) ∧ ci_B n e f j = f j) := by
  intro n
  induction n with
  | zero => intro e f j h; exact Or.inr ⟨fun a h1 h2 => by omega, rfl⟩
  | succ n ih =>
    intro e f j h
    rcases ih (e + 1) (upd f (kf (kr e)) (nI (kpos e))) j (by omega) with ⟨a, h1, h2, h3, h4⟩ | ⟨h1, h2⟩
    · exact Or.inl ⟨a, by omega, h2, h3, h4⟩
    · have hk := kr_kt e (by omega)
      by_cases hj : kf (kt (kpos e)) = j
      · refine Or.inl ⟨e, Nat.le_refl _, by omega, hj, ?_⟩
        show ci_B n (e + 1) (upd f (kf (kr e)) (nI (kpos e))) j = _
        rw [h2, hk, hj, pk_us]
      · refine Or.inr ⟨fun a h3 h4 => ?_, ?_⟩
        · by_cases ha : a = e
          · subst ha; exact hj
          · exact h1 a (by omega) h4
        · show ci_B n (e + 1) (upd f (kf (kr e)) (nI (kpos e))) j = _
          rw [h2, hk, pk_un (fun z => hj z.symm)]
set_option maxRecDepth 100000 in
theorem kb_back : (List.range 512).all (fun j => kb j == 255 || kf (kt (kb j)) == j) = true := by decide +kernel
theorem kb_back1 {j : Nat} (h : j < 512) : kb j = 255 ∨ kf (kt (kb j)) = j := by
  have := List.all_eq_true.mp kb_back j (List.mem_range.mpr h)
  simpa using this
theorem ci_B_ok {kbo : Nat → Option Nat} (hk : ∀ j, kbo j = if kb j = 255 then none else some (kb j)) : ci_B 178 0 (sf_fls (-1) 512 0 (fun _ => 0)) = (fun j => if j < 512 then oN (kbo j) else 0) := by
  funext j
  show _ = if j < 512 then oN (kbo j) else 0
  rw [hk j]
  rcases ci_BE 178 0 (sf_fls (-1) 512 0 (fun _ => 0)) j (by omega) with ⟨a, _, h2, h3, h⟩ | ⟨h1, h2⟩
  · rw [h]
    have hj : j < 512 := by rw [← h3]; exact kf_lt _
    have hb : kb j = kpos a := by rw [← h3]; exact kb_kt1 (kpos_lt h2)
    have hp := kpos_lt h2
    rw [if_pos hj, hb, if_neg (by omega)]
    rfl
  · rw [h2, sf_flsE]
    by_cases hj : j < 512
    · rw [if_pos (by omega), if_pos hj]
      rcases kb_back1 hj with q | q
      · rw [if_pos q]; rfl
      · rcases kb_small1 hj with z | z
        · obtain ⟨e, e1, e2⟩ := kpos_inv z
          exact absurd (by rw [e2]; exact q) (h1 e (by omega) e1)
        · rw [if_pos z]; rfl
    · rw [if_neg (by omega), if_neg hj]
/-! the reference's table -/
def mi_1 : Nat → Nat → (Nat → Int32) → (Nat → Int32)
  | 0, _, f => f
  | n + 1, k, f => mi_1 n (k + 1) (upd f (160 + k) (nI (kt (160 + k))))
def mi_2 : Nat → Nat → (Nat → Int32) → (Nat → Int32)
  | 0, _, f => f
  | n + 1, i, f => mi_2 n (i + 1) (upd f i (nI (kr (18 + i))))
theorem mi_1E : ∀ n k f j, mi_1 n k f j = if 160 + k ≤ j ∧ j < 160 + k + n then nI (kt j) else f j := by
  intro n
  induction n with
  | zero =>
    intro k f j
    show f j = _
    rw [if_neg (by omega)]
  | succ n ih =>
    intro k f j
    show mi_1 n (k + 1) (upd f (160 + k) (nI (kt (160 + k)))) j = _
    rw [ih]
    by_cases h : j = 160 + k
    · subst h
      rw [if_neg (by omega), if_pos (by omega), pk_us]
    · by_cases h2 : 160 + (k + 1) ≤ j ∧ j < 160 + (k + 1) + n
      · rw [if_pos h2, if_pos (by omega)]
      · rw [if_neg h2, if_neg (by omega), pk_un h]
theorem mi_2E : ∀ n i f j, i + n ≤ 160 → mi_2 n i f j = if i ≤ j ∧ j < i + n then nI (kt j) else f j := by
  intro n
  induction n with
  | zero =>
    intro i f j _
    show f j = _
    rw [if_neg (by omega)]
  | succ n ih =>
    intro i f j hi
    show mi_2 n (i + 1) (upd f i (nI (kr (18 + i)))) j = _
    rw [ih _ _ _ (by omega)]
    have hk : kr (18 + i) = kt i := by
      rw [kr_kt _ (by omega)]
      unfold kpos
      rw [if_neg (by omega), show 18 + i - 18 = i by omega]
    rw [hk]
    by_cases h : j = i
    · subst h
      rw [if_neg (by omega), if_pos (by omega), pk_us]
    · by_cases h2 : i + 1 ≤ j ∧ j < i + 1 + n
      · rw [if_pos h2, if_pos (by omega)]
      · rw [if_neg h2, if_neg (by omega), pk_un h]
theorem mi_ok : mi_2 160 0 (mi_1 18 0 (fun _ => 0)) = (fun i => nI (kt i)) := by
  funext j
  rw [mi_2E _ _ _ _ (by omega), mi_1E]
  by_cases h1 : j < 160
  · rw [if_pos (by omega)]
  · rw [if_neg (by omega)]
    by_cases h2 : j < 178
    · rw [if_pos (by omega)]
    · rw [if_neg (by omega), kt_out (by omega)]; rfl
theorem mi_shl : ∀ k, k < 18 → (nI 1) <<< (nI k &&& 31) = nI (kt (160 + k)) := by decide +kernel
theorem kr_17 : kr 17 = 131072 := by decide +kernel
theorem kstep_ge {r : Nat} (h : 262144 ≤ 2 * r) : nI (2 * r) ^^^ nI 300489 = nI (kstep r) := by
  unfold kstep
  rw [if_pos h]
  apply Int32.toBitVec_inj.mp
  rw [Int32.toBitVec_xor]
  show BitVec.ofNat 32 (2 * r) ^^^ BitVec.ofNat 32 300489 = BitVec.ofNat 32 (2 * r ^^^ 300489)
  rw [BitVec.ofNat_xor]
theorem kstep_lt {r : Nat} (h : 2 * r < 262144) : 2 * r = kstep r := by
  unfold kstep
  rw [if_neg (by omega)]
/-! the sizes -/
def zcB (x : Int32) : Nat := if 3 ≤ x then (if x ≤ 5 then x.toNatClampNeg else 5) else 3
def zcP (x : Int32) : Nat := if 2 ≤ x then (if x ≤ 4 then x.toNatClampNeg else 4) else 2
theorem i_cl {x : Int32} (h : 0 ≤ x.toInt) : (x.toNatClampNeg : Int) = x.toInt := by
  have : x.toNatClampNeg = x.toInt.toNat := rfl
  rw [this]; omega
theorem i_nIc {x : Int32} (h : 0 ≤ x) : nI x.toNatClampNeg = x := by
  rcases pk_ix x (n := 2 ^ 31 - 1) (by omega) with q | q | ⟨j, q1, q2⟩
  · exact absurd q (Int32.not_lt.mpr h)
  · have h2 := Int32.toInt_lt x
    rw [Int32.le_iff_toInt_le, nI_toInt (by omega)] at q
    apply Int32.toInt_inj.mp
    rw [Int32.le_iff_toInt_le, Int32.toInt_zero] at h
    have hc := i_cl h
    rw [nI_toInt (by omega)]
    exact hc
  · rw [q2, nI_clamp (by omega)]
theorem i_c3 : (3 : Int32).toInt = 3 := by decide
theorem i_c5 : (5 : Int32).toInt = 5 := by decide
theorem i_c2 : (2 : Int32).toInt = 2 := by decide
theorem i_c4 : (4 : Int32).toInt = 4 := by decide
theorem zcB_in {x : Int32} (h1 : 3 ≤ x) (h2 : x ≤ 5) : nI (zcB x) = x := by
  unfold zcB
  rw [if_pos h1, if_pos h2]
  apply i_nIc
  rw [Int32.le_iff_toInt_le] at h1 ⊢
  rw [i_c3] at h1
  rw [Int32.toInt_zero]
  omega
theorem zcP_in {x : Int32} (h1 : 2 ≤ x) (h2 : x ≤ 4) : nI (zcP x) = x := by
  unfold zcP
  rw [if_pos h1, if_pos h2]
  apply i_nIc
  rw [Int32.le_iff_toInt_le] at h1 ⊢
  rw [i_c2] at h1
  rw [Int32.toInt_zero]
  omega
theorem zcB_hi {x : Int32} (h1 : 3 ≤ x) (h2 : ¬ x ≤ 5) : zcB x = 5 := by unfold zcB; rw [if_pos h1, if_neg h2]
theorem zcB_lo {x : Int32} (h1 : ¬ 3 ≤ x) : zcB x = 3 := by unfold zcB; rw [if_neg h1]
theorem zcP_hi {x : Int32} (h1 : 2 ≤ x) (h2 : ¬ x ≤ 4) : zcP x = 4 := by unfold zcP; rw [if_pos h1, if_neg h2]
theorem zcP_lo {x : Int32} (h1 : ¬ 2 ≤ x) : zcP x = 2 := by unfold zcP; rw [if_neg h1]
theorem zc_ok (x y : Int32) : zb_ok (zcB x) (zcP y) := by
  have hb : 3 ≤ zcB x ∧ zcB x ≤ 5 := by
    by_cases h1 : 3 ≤ x
    · by_cases h2 : x ≤ 5
      · unfold zcB
        rw [if_pos h1, if_pos h2]
        rw [Int32.le_iff_toInt_le, i_c3] at h1
        rw [Int32.le_iff_toInt_le, i_c5] at h2
        have hc := i_cl (x := x) (by omega)
        omega
      · rw [zcB_hi h1 h2]; omega
    · rw [zcB_lo h1]; omega
  have hp : 2 ≤ zcP y ∧ zcP y ≤ 4 := by
    by_cases h1 : 2 ≤ y
    · by_cases h2 : y ≤ 4
      · unfold zcP
        rw [if_pos h1, if_pos h2]
        rw [Int32.le_iff_toInt_le, i_c2] at h1
        rw [Int32.le_iff_toInt_le, i_c4] at h2
        have hc := i_cl (x := y) (by omega)
        omega
      · rw [zcP_hi h1 h2]; omega
    · rw [zcP_lo h1]; omega
  exact ⟨hb.1, hb.2, hp.1, hp.2⟩
theorem zcB_S (x : Int32) : (if nI 3 < (if x < nI 5 then x else nI 5) then (if x < nI 5 then x else nI 5) else nI 3) = nI (zcB x) := by
  have e3 : nI 3 = 3 := by decide
  have e5 : nI 5 = 5 := by decide
  rw [e3, e5]
  by_cases h2 : x < 5
  · rw [if_pos h2]
    by_cases h1 : 3 < x
    · rw [if_pos h1]; exact (zcB_in (Int32.le_of_lt h1) (Int32.le_of_lt h2)).symm
    · rw [if_neg h1]
      by_cases h3 : 3 ≤ x
      · have : x = 3 := Int32.le_antisymm (Int32.not_lt.mp h1) h3
        subst this; decide
      · rw [zcB_lo h3]; decide
  · rw [if_neg h2, if_pos (by decide)]
    by_cases h3 : x ≤ 5
    · have : x = 5 := Int32.le_antisymm h3 (Int32.not_lt.mp h2)
      subst this; decide
    · rw [zcB_hi (Int32.le_trans (by decide) (Int32.not_lt.mp h2)) h3]; decide
theorem zcP_S (x : Int32) : (if nI 2 < (if x < nI 4 then x else nI 4) then (if x < nI 4 then x else nI 4) else nI 2) = nI (zcP x) := by
  have e3 : nI 2 = 2 := by decide
  have e5 : nI 4 = 4 := by decide
  rw [e3, e5]
  by_cases h2 : x < 4
  · rw [if_pos h2]
    by_cases h1 : 2 < x
    · rw [if_pos h1]; exact (zcP_in (Int32.le_of_lt h1) (Int32.le_of_lt h2)).symm
    · rw [if_neg h1]
      by_cases h3 : 2 ≤ x
      · have : x = 2 := Int32.le_antisymm (Int32.not_lt.mp h1) h3
        subst this; decide
      · rw [zcP_lo h3]; decide
  · rw [if_neg h2, if_pos (by decide)]
    by_cases h3 : x ≤ 4
    · have : x = 4 := Int32.le_antisymm h3 (Int32.not_lt.mp h2)
      subst this; decide
    · rw [zcP_hi (Int32.le_trans (by decide) (Int32.not_lt.mp h2)) h3]; decide
