set_option maxHeartbeats 4000000 in
set_option maxRecDepth 100000 in
theorem c_F_readPage (l : Launch) (D : va_G) (cI cZ : ClassId) (x : Nat → Nat) (bc bp : Nat) (F : zf_S) (hB : zb_ok bc bp) (pg : Nat) (hp : pg < bc * bp) (hlow : (zf_c F (pg * 6 + 5)).toBitVec.toNat < 2 ^ 18) : zc_Con l y_F_readPage b_F_readPage 3 (some .int) { frames := 3, cells := 0, slots := 0, locals := 85 } D cI cZ [.ref (x 1), .int (nI (pg))] (zf_W cI x bc bp F) (zo (some (.int (nI ((sf_rd (zf_c F) (zf_e F) pg).1)))) (zf_W cI x bc bp ((zf_c F, (sf_rd (zf_c F) (zf_e F) pg).2)))) := by
  refine zc_start (by decide) (Nat.le_of_ble_eq_true rfl) ?_
  intro p e s m args below meth c A Q hA hQ C0 hr hin
  have C0 : zc_Cx p s m args meth c b_F_readPage 3 R_F D cI cZ A := C0
  have hB0 := hB
  obtain ⟨hB1, hB2, hB3, hB4⟩ := hB
  have hN : bc * bp ≤ 20 := Nat.mul_le_mul hB2 hB4
  refine z_lvs (lvn := [(0, .ref (x 1)), (1, .int (nI (pg)))]) rfl ?_
  refine z_aload_n C0 d_F_readPage_0 rfl 0 rfl ?_
  refine z_iload_n C0 d_F_readPage_1 rfl 1 rfl ?_
  refine z_allV (As := [.int (nI (pg))]) (rest := []) C0 (c_F_loadRaw l D cI cZ x bc bp F hB0 (pg) (hp)) mt_F_loadRaw ml_F_49 vt_F_loadRaw rfl rfl ⟨Nat.le_of_ble_eq_true rfl, Nat.le_of_ble_eq_true rfl⟩ ⟨rfl, rfl⟩ ⟨Nat.zero_le _, Nat.zero_le _⟩ rfl rfl (Nat.le_of_ble_eq_true rfl) d_F_readPage_2 ?_
  refine z_st (stn := []) rfl ?_
  refine z_aload_n C0 d_F_readPage_5 rfl 0 rfl ?_
  refine z_allV (As := []) (rest := []) C0 (c_F_seenZeros l D cI cZ x bc bp (zf_c F, sf_raw (zf_c F) (zf_e F) (pg)) hB0  (by show (sf_raw (zf_c F) (zf_e F) pg 5).toBitVec.toNat < 2 ^ 18; rw [zw_raw _ _ _ 5 (by omega)]; exact hlow)) mt_F_seenZeros ml_F_52 vt_F_seenZeros rfl rfl ⟨Nat.le_of_ble_eq_true rfl, Nat.le_of_ble_eq_true rfl⟩ ⟨rfl, rfl⟩ ⟨Nat.zero_le _, Nat.zero_le _⟩ rfl rfl (Nat.le_of_ble_eq_true rfl) d_F_readPage_6 ?_
  refine z_st (stn := [.int (nI (pz (sf_raw (zf_c F) (zf_e F) (pg))))]) rfl ?_
  refine z_iconst (v := nI 2) C0 d_F_readPage_9 (by decide) ?_
  refine z_icmpN_gt (tgt := 15) C0 d_F_readPage_10 (by decide) (by have := pz_le (sf_raw (zf_c F) (zf_e F) pg) 6 0 178; unfold pz; omega) (by omega) (fun (c10_1 : 2 < pz (sf_raw (zf_c F) (zf_e F) (pg))) => ?_) (fun (c10_1 : pz (sf_raw (zf_c F) (zf_e F) (pg)) ≤ 2) => ?_)
  · skip
    refine z_aload_n C0 d_F_readPage_15 rfl 0 rfl ?_
    refine z_get C0 gf_F_18 0 rfl rfl d_F_readPage_16 ?_
    refine z_aload_n C0 d_F_readPage_19 rfl 0 rfl ?_
    refine z_get C0 gf_F_9 0 rfl rfl d_F_readPage_20 ?_
    refine z_detV (As := [.ref (x 2)]) (rest := []) (wsn := zf_W cI x bc bp (zf_c F, (pmend (sf_raw (zf_c F) (zf_e F) (pg)) (prem (sf_raw (zf_c F) (zf_e F) (pg)) 178 0 0)).2)) C0 (c_C_mend l D cI cZ x (sf_raw (zf_c F) (zf_e F) (pg))   ) mt_C_mend ml_F_56 vt_C_mend rfl rfl ⟨Nat.le_of_ble_eq_true rfl, Nat.le_of_ble_eq_true rfl⟩ ⟨rfl, rfl⟩ ⟨Nat.zero_le _, Nat.zero_le _⟩ rfl [3, 4, 5, 2] [0, 1] [0, 1, 5, 2, 3, 4] rfl (by decide) (wr := [(x 1, .inr (1, [.int (nI (bc * bp)), .ref (x 6), .ref (x 2), .ref (x 3)])), (x 6, .inl (cI, bc * bp * 6, .inl (zf_c F)))]) rfl (by decide) (by decide) rfl (by decide) rfl (Nat.le_of_ble_eq_true rfl) d_F_readPage_23 ?_
    refine z_st (stn := [.int (nI ((pmend (sf_raw (zf_c F) (zf_e F) (pg)) (prem (sf_raw (zf_c F) (zf_e F) (pg)) 178 0 0)).1))]) rfl ?_
    refine z_istore_n (lvn := [(0, .ref (x 1)), (1, .int (nI (pg))), (2, .int (nI ((pmend (sf_raw (zf_c F) (zf_e F) (pg)) (prem (sf_raw (zf_c F) (zf_e F) (pg)) 178 0 0)).1)))]) C0 d_F_readPage_26 rfl (by decide) [1, 2, 0] rfl ?_
    refine z_iload_n C0 d_F_readPage_27 rfl 2 rfl ?_
    refine z_nilSN (As := [.int (nI ((pmend (sf_raw (zf_c F) (zf_e F) (pg)) (prem (sf_raw (zf_c F) (zf_e F) (pg)) 178 0 0)).1))]) (rest := []) C0 (c_S_isReadable l D cI cZ    ((pmend (sf_raw (zf_c F) (zf_e F) (pg)) (prem (sf_raw (zf_c F) (zf_e F) (pg)) 178 0 0)).1) (pmend_le _ _)) mt_S_isReadable ml_F_59 vt_S_isReadable ⟨Nat.le_of_ble_eq_true rfl, Nat.le_of_ble_eq_true rfl⟩ ⟨rfl, rfl⟩ ⟨Nat.zero_le _, Nat.zero_le _⟩ rfl rfl (Nat.le_of_ble_eq_true rfl) d_F_readPage_28 ?_
    refine z_st (stn := [.int (bI (decide (((pmend (sf_raw (zf_c F) (zf_e F) (pg)) (prem (sf_raw (zf_c F) (zf_e F) (pg)) 178 0 0)).1) = 1 ∨ ((pmend (sf_raw (zf_c F) (zf_e F) (pg)) (prem (sf_raw (zf_c F) (zf_e F) (pg)) 178 0 0)).1) = 2)))]) rfl ?_
    refine z_ifB_eq (tgt := 48) C0 d_F_readPage_31 (by decide) (fun (c31_2 : decide (((pmend (sf_raw (zf_c F) (zf_e F) (pg)) (prem (sf_raw (zf_c F) (zf_e F) (pg)) 178 0 0)).1) = 1 ∨ ((pmend (sf_raw (zf_c F) (zf_e F) (pg)) (prem (sf_raw (zf_c F) (zf_e F) (pg)) 178 0 0)).1) = 2) = false) => ?_) (fun (c31_2 : decide (((pmend (sf_raw (zf_c F) (zf_e F) (pg)) (prem (sf_raw (zf_c F) (zf_e F) (pg)) 178 0 0)).1) = 1 ∨ ((pmend (sf_raw (zf_c F) (zf_e F) (pg)) (prem (sf_raw (zf_c F) (zf_e F) (pg)) 178 0 0)).1) = 2) = true) => ?_)
    · skip
      refine z_iload_n C0 d_F_readPage_48 rfl 2 rfl ?_
      exact z_iret C0 hA hQ hr d_F_readPage_49 (by have e9 : sf_rd (zf_c F) (zf_e F) pg = (pmend (sf_raw (zf_c F) (zf_e F) pg) (prem (sf_raw (zf_c F) (zf_e F) pg) 178 0 0)) := (by unfold sf_rd sf_rd1; rw [if_neg (Nat.not_le.mpr c10_1)]; unfold sf_rd2 psafe; rw [if_neg (fun z => absurd z.1 (of_decide_eq_false c31_2))]); rw [e9]; exact ⟨rfl, rfl⟩)
    · skip
      refine z_aload_n C0 d_F_readPage_34 rfl 0 rfl ?_
      refine z_allV (As := []) (rest := []) C0 (c_F_isRecord l D cI cZ x bc bp (zf_c F, (pmend (sf_raw (zf_c F) (zf_e F) (pg)) (prem (sf_raw (zf_c F) (zf_e F) (pg)) 178 0 0)).2) hB0  ) mt_F_isRecord ml_F_63 vt_F_isRecord rfl rfl ⟨Nat.le_of_ble_eq_true rfl, Nat.le_of_ble_eq_true rfl⟩ ⟨rfl, rfl⟩ ⟨Nat.zero_le _, Nat.zero_le _⟩ rfl rfl (Nat.le_of_ble_eq_true rfl) d_F_readPage_35 ?_
      refine z_st (stn := [.int (bI (prec ((pmend (sf_raw (zf_c F) (zf_e F) (pg)) (prem (sf_raw (zf_c F) (zf_e F) (pg)) 178 0 0)).2)))]) rfl ?_
      refine z_ifB_ne (tgt := 48) C0 d_F_readPage_38 (by decide) (fun (c38_3 : prec ((pmend (sf_raw (zf_c F) (zf_e F) (pg)) (prem (sf_raw (zf_c F) (zf_e F) (pg)) 178 0 0)).2) = true) => ?_) (fun (c38_3 : prec ((pmend (sf_raw (zf_c F) (zf_e F) (pg)) (prem (sf_raw (zf_c F) (zf_e F) (pg)) 178 0 0)).2) = false) => ?_)
      · skip
        refine z_iload_n C0 d_F_readPage_48 rfl 2 rfl ?_
        exact z_iret C0 hA hQ hr d_F_readPage_49 (by have e9 : sf_rd (zf_c F) (zf_e F) pg = (pmend (sf_raw (zf_c F) (zf_e F) pg) (prem (sf_raw (zf_c F) (zf_e F) pg) 178 0 0)) := (by unfold sf_rd sf_rd1; rw [if_neg (Nat.not_le.mpr c10_1)]; unfold sf_rd2 psafe; rw [if_neg (fun z => absurd z.2 (by rw [c38_3]; decide))]); rw [e9]; exact ⟨rfl, rfl⟩)
      · skip
        refine z_aload_n C0 d_F_readPage_41 rfl 0 rfl ?_
        refine z_iload_n C0 d_F_readPage_42 rfl 1 rfl ?_
        refine z_allV (As := [.int (nI (pg))]) (rest := []) C0 (c_F_loadRaw l D cI cZ x bc bp (zf_c F, (pmend (sf_raw (zf_c F) (zf_e F) (pg)) (prem (sf_raw (zf_c F) (zf_e F) (pg)) 178 0 0)).2) hB0 (pg) (hp)) mt_F_loadRaw ml_F_49 vt_F_loadRaw rfl rfl ⟨Nat.le_of_ble_eq_true rfl, Nat.le_of_ble_eq_true rfl⟩ ⟨rfl, rfl⟩ ⟨Nat.zero_le _, Nat.zero_le _⟩ rfl rfl (Nat.le_of_ble_eq_true rfl) d_F_readPage_43 ?_
        refine z_st (stn := []) rfl ?_
        refine z_iconst (v := nI 3) C0 d_F_readPage_46 (by decide) ?_
        exact z_iret C0 hA hQ hr d_F_readPage_47 (by have e9 : sf_rd (zf_c F) (zf_e F) pg = (3, sf_raw (zf_c F) (pmend (sf_raw (zf_c F) (zf_e F) pg) (prem (sf_raw (zf_c F) (zf_e F) pg) 178 0 0)).2 pg) := (by unfold sf_rd sf_rd1; rw [if_neg (Nat.not_le.mpr c10_1)]; unfold sf_rd2 psafe; rw [if_pos ⟨of_decide_eq_true c31_2, c38_3⟩]); rw [e9]; exact ⟨rfl, rfl⟩)
  · skip
    refine z_iconst (v := nI 0) C0 d_F_readPage_13 (by decide) ?_
    exact z_iret C0 hA hQ hr d_F_readPage_14 (by have e9 : sf_rd (zf_c F) (zf_e F) pg = (0, (sf_raw (zf_c F) (zf_e F) pg)) := (by unfold sf_rd sf_rd1; rw [if_pos c10_1]); rw [e9]; exact ⟨rfl, rfl⟩)

set_option maxHeartbeats 4000000 in
set_option maxRecDepth 100000 in
theorem c_F_loadFresh (l : Launch) (D : va_G) (cI cZ : ClassId) (x : Nat → Nat) (bc bp : Nat) (F : zf_S) (hB : zb_ok bc bp) (pg : Nat) (hp : pg < bc * bp) (hlow : (zf_c F (pg * 6 + 5)).toBitVec.toNat < 2 ^ 18) : zc_Con l y_F_loadFresh b_F_loadFresh 3 (some .boolean) { frames := 4, cells := 0, slots := 0, locals := 107 } D cI cZ [.ref (x 1), .int (nI (pg))] (zf_W cI x bc bp F) (zo (some (.int (bI ((sf_fr (sf_rd (zf_c F) (zf_e F) pg)).1)))) (zf_W cI x bc bp ((zf_c F, (sf_fr (sf_rd (zf_c F) (zf_e F) pg)).2)))) := by
  refine zc_start (by decide) (Nat.le_of_ble_eq_true rfl) ?_
  intro p e s m args below meth c A Q hA hQ C0 hr hin
  have C0 : zc_Cx p s m args meth c b_F_loadFresh 3 R_F D cI cZ A := C0
  have hB0 := hB
  obtain ⟨hB1, hB2, hB3, hB4⟩ := hB
  have hN : bc * bp ≤ 20 := Nat.mul_le_mul hB2 hB4
  refine z_lvs (lvn := [(0, .ref (x 1)), (1, .int (nI (pg)))]) rfl ?_
  refine z_aload_n C0 d_F_loadFresh_0 rfl 0 rfl ?_
  refine z_iload_n C0 d_F_loadFresh_1 rfl 1 rfl ?_
  refine z_allV (As := [.int (nI (pg))]) (rest := []) C0 (c_F_readPage l D cI cZ x bc bp F hB0 (pg) (hp) (hlow)) mt_F_readPage ml_F_67 vt_F_readPage rfl rfl ⟨Nat.le_of_ble_eq_true rfl, Nat.le_of_ble_eq_true rfl⟩ ⟨rfl, rfl⟩ ⟨Nat.zero_le _, Nat.zero_le _⟩ rfl rfl (Nat.le_of_ble_eq_true rfl) d_F_loadFresh_2 ?_
  refine z_st (stn := [.int (nI ((sf_rd (zf_c F) (zf_e F) (pg)).1))]) rfl ?_
  refine z_istore_n (lvn := [(0, .ref (x 1)), (1, .int (nI (pg))), (2, .int (nI ((sf_rd (zf_c F) (zf_e F) (pg)).1)))]) C0 d_F_loadFresh_5 rfl (by decide) [1, 2, 0] rfl ?_
  refine z_iload_n C0 d_F_loadFresh_6 rfl 2 rfl ?_
  refine z_ifN_ne (tgt := 23) C0 d_F_loadFresh_7 (by decide) (by have := sf_rd_le (zf_c F) (zf_e F) pg; omega) (fun c7_1 => ?_) (fun c7_1 => ?_)
  · skip
    refine z_iload_n C0 d_F_loadFresh_23 rfl 2 rfl ?_
    refine z_iconst (v := nI 2) C0 d_F_loadFresh_24 (by decide) ?_
    refine z_icmpN_ne (tgt := 32) C0 d_F_loadFresh_25 (by decide) (by have := sf_rd_le (zf_c F) (zf_e F) pg; omega) (by omega) (fun (c25_2 : (sf_rd (zf_c F) (zf_e F) (pg)).1 ≠ 2) => ?_) (fun (c25_2 : (sf_rd (zf_c F) (zf_e F) (pg)).1 = 2) => ?_)
    · skip
      refine z_iconst (v := nI 0) C0 d_F_loadFresh_32 (by decide) ?_
      refine z_topi (x := nI 0) (xn := bI false) (by decide) ?_
      exact z_zret C0 hA hQ hr d_F_loadFresh_33 (by have e9 : sf_fr (sf_rd (zf_c F) (zf_e F) pg) = (decide ((sf_rd (zf_c F) (zf_e F) pg).1 = 2), (sf_rd (zf_c F) (zf_e F) pg).2) := if_neg (fun z => by have := z.1; omega); rw [e9]; exact ⟨by rw [decide_eq_false c25_2], rfl⟩)
    · skip
      refine z_iconst (v := nI 1) C0 d_F_loadFresh_28 (by decide) ?_
      refine z_gotoK (tgt := 33) C0 d_F_loadFresh_29 (by decide) ?_
      refine z_topi (x := nI 1) (xn := bI true) (by decide) ?_
      exact z_zret C0 hA hQ hr d_F_loadFresh_33 (by have e9 : sf_fr (sf_rd (zf_c F) (zf_e F) pg) = (decide ((sf_rd (zf_c F) (zf_e F) pg).1 = 2), (sf_rd (zf_c F) (zf_e F) pg).2) := if_neg (fun z => by have := z.1; omega); rw [e9]; exact ⟨by rw [decide_eq_true c25_2], rfl⟩)
  · skip
    refine z_aload_n C0 d_F_loadFresh_10 rfl 0 rfl ?_
    refine z_allV (As := []) (rest := []) C0 (c_F_seenZeros l D cI cZ x bc bp (zf_c F, (sf_rd (zf_c F) (zf_e F) (pg)).2) hB0  (by show ((sf_rd (zf_c F) (zf_e F) pg).2 5).toBitVec.toNat < 2 ^ 18; rw [sf_rd_zero c7_1, zw_raw _ _ _ 5 (by omega)]; exact hlow)) mt_F_seenZeros ml_F_52 vt_F_seenZeros rfl rfl ⟨Nat.le_of_ble_eq_true rfl, Nat.le_of_ble_eq_true rfl⟩ ⟨rfl, rfl⟩ ⟨Nat.zero_le _, Nat.zero_le _⟩ rfl rfl (Nat.le_of_ble_eq_true rfl) d_F_loadFresh_11 ?_
    refine z_st (stn := [.int (nI (pz ((sf_rd (zf_c F) (zf_e F) (pg)).2)))]) rfl ?_
    refine z_ifN_le (tgt := 23) C0 d_F_loadFresh_14 (by decide) (by have := pz_le (sf_rd (zf_c F) (zf_e F) pg).2 6 0 178; unfold pz; omega) (fun c14_3 => ?_) (fun c14_3 => ?_)
    · skip
      refine z_iload_n C0 d_F_loadFresh_23 rfl 2 rfl ?_
      refine z_iconst (v := nI 2) C0 d_F_loadFresh_24 (by decide) ?_
      refine z_icmpN_ne (tgt := 32) C0 d_F_loadFresh_25 (by decide) (by have := sf_rd_le (zf_c F) (zf_e F) pg; omega) (by omega) (fun (c25_4 : (sf_rd (zf_c F) (zf_e F) (pg)).1 ≠ 2) => ?_) (fun (c25_4 : (sf_rd (zf_c F) (zf_e F) (pg)).1 = 2) => ?_)
      · skip
        refine z_iconst (v := nI 0) C0 d_F_loadFresh_32 (by decide) ?_
        refine z_topi (x := nI 0) (xn := bI false) (by decide) ?_
        exact z_zret C0 hA hQ hr d_F_loadFresh_33 (by have e9 : sf_fr (sf_rd (zf_c F) (zf_e F) pg) = (decide ((sf_rd (zf_c F) (zf_e F) pg).1 = 2), (sf_rd (zf_c F) (zf_e F) pg).2) := if_neg (fun z => by have := z.2; rw [c14_3] at this; exact absurd this (by decide)); rw [e9]; exact ⟨by rw [decide_eq_false c25_4], rfl⟩)
      · skip
        refine z_iconst (v := nI 1) C0 d_F_loadFresh_28 (by decide) ?_
        refine z_gotoK (tgt := 33) C0 d_F_loadFresh_29 (by decide) ?_
        refine z_topi (x := nI 1) (xn := bI true) (by decide) ?_
        exact z_zret C0 hA hQ hr d_F_loadFresh_33 (by have e9 : sf_fr (sf_rd (zf_c F) (zf_e F) pg) = (decide ((sf_rd (zf_c F) (zf_e F) pg).1 = 2), (sf_rd (zf_c F) (zf_e F) pg).2) := if_neg (fun z => by have := z.2; rw [c14_3] at this; exact absurd this (by decide)); rw [e9]; exact ⟨by rw [decide_eq_true c25_4], rfl⟩)
    · skip
      refine z_aload_n C0 d_F_loadFresh_17 rfl 0 rfl ?_
      refine z_allV (As := []) (rest := []) C0 (c_F_loadErased l D cI cZ x bc bp (zf_c F, (sf_rd (zf_c F) (zf_e F) (pg)).2) hB0  ) mt_F_loadErased ml_F_29 vt_F_loadErased rfl rfl ⟨Nat.le_of_ble_eq_true rfl, Nat.le_of_ble_eq_true rfl⟩ ⟨rfl, rfl⟩ ⟨Nat.zero_le _, Nat.zero_le _⟩ rfl rfl (Nat.le_of_ble_eq_true rfl) d_F_loadFresh_18 ?_
      refine z_st (stn := []) rfl ?_
      refine z_iconst (v := nI 1) C0 d_F_loadFresh_21 (by decide) ?_
      refine z_topi (x := nI 1) (xn := bI true) (by decide) ?_
      exact z_zret C0 hA hQ hr d_F_loadFresh_22 (by have e9 : sf_fr (sf_rd (zf_c F) (zf_e F) pg) = (true, sf_er (sf_rd (zf_c F) (zf_e F) pg).2) := if_pos ⟨c7_1, c14_3⟩; rw [e9]; exact ⟨rfl, rfl⟩)

set_option maxHeartbeats 4000000 in
set_option maxRecDepth 100000 in
theorem c_F_loadRecord (l : Launch) (D : va_G) (cI cZ : ClassId) (x : Nat → Nat) (bc bp : Nat) (F : zf_S) (hB : zb_ok bc bp) (sv : Int32) (kv : Int32) (vv : Int32) (dv : Int32)  : zc_Con l y_F_loadRecord b_F_loadRecord 5 none { frames := 2, cells := 0, slots := 0, locals := 45 } D cI cZ [.ref (x 1), .int (sv), .int (kv), .int (vv), .int (dv)] (zf_W cI x bc bp F) (zo none (zf_W cI x bc bp ((zf_c F, sf_rec (zf_e F) sv kv vv dv)))) := by
  refine zc_start (by decide) (Nat.le_of_ble_eq_true rfl) ?_
  intro p e s m args below meth c A Q hA hQ C0 hr hin
  have C0 : zc_Cx p s m args meth c b_F_loadRecord 5 R_F D cI cZ A := C0
  have hB0 := hB
  obtain ⟨hB1, hB2, hB3, hB4⟩ := hB
  have hN : bc * bp ≤ 20 := Nat.mul_le_mul hB2 hB4
  refine z_lvs (lvn := [(0, .ref (x 1)), (1, .int (sv)), (2, .int (kv)), (3, .int (vv)), (4, .int (dv))]) rfl ?_
  refine z_aload_n C0 d_F_loadRecord_0 rfl 0 rfl ?_
  refine z_get C0 gf_F_9 0 rfl rfl d_F_loadRecord_1 ?_
  refine z_iconst (v := nI 0) C0 d_F_loadRecord_4 (by decide) ?_
  refine z_iload_n C0 d_F_loadRecord_5 rfl 1 rfl ?_
  refine z_iast C0 2 rfl (by omega) (by omega) d_F_loadRecord_6 ?_
  refine z_aload_n C0 d_F_loadRecord_7 rfl 0 rfl ?_
  refine z_get C0 gf_F_9 0 rfl rfl d_F_loadRecord_8 ?_
  refine z_iconst (v := nI 1) C0 d_F_loadRecord_11 (by decide) ?_
  refine z_iload_n C0 d_F_loadRecord_12 rfl 2 rfl ?_
  refine z_iast C0 2 rfl (by omega) (by omega) d_F_loadRecord_13 ?_
  refine z_aload_n C0 d_F_loadRecord_14 rfl 0 rfl ?_
  refine z_get C0 gf_F_9 0 rfl rfl d_F_loadRecord_15 ?_
  refine z_iconst (v := nI 2) C0 d_F_loadRecord_18 (by decide) ?_
  refine z_iload_n C0 d_F_loadRecord_19 rfl 3 rfl ?_
  refine z_iast C0 2 rfl (by omega) (by omega) d_F_loadRecord_20 ?_
  refine z_aload_n C0 d_F_loadRecord_21 rfl 0 rfl ?_
  refine z_get C0 gf_F_9 0 rfl rfl d_F_loadRecord_22 ?_
  refine z_iconst (v := nI 3) C0 d_F_loadRecord_25 (by decide) ?_
  refine z_iload C0 d_F_loadRecord_26 4 rfl ?_
  refine z_iast C0 2 rfl (by omega) (by omega) d_F_loadRecord_28 ?_
  refine z_aload_n C0 d_F_loadRecord_29 rfl 0 rfl ?_
  refine z_get C0 gf_F_9 0 rfl rfl d_F_loadRecord_30 ?_
  refine z_iconst (v := nI 4) C0 d_F_loadRecord_33 (by decide) ?_
  refine z_aload_n C0 d_F_loadRecord_34 rfl 0 rfl ?_
  refine z_get C0 gf_F_9 0 rfl rfl d_F_loadRecord_35 ?_
  refine z_ws (wsn := zf_W cI x bc bp (zf_c F, upd (upd (upd (upd (zf_e F) (0) (sv)) (1) (kv)) (2) (vv)) (3) (dv))) rfl ?_
  refine z_detS (As := [.ref (x 2)]) (rest := [.int (nI (4)), .ref (x 2)]) (wsn := zf_W cI x bc bp (zf_c F, upd (upd (upd (upd (zf_e F) (0) (sv)) (1) (kv)) (2) (vv)) (3) (dv))) C0 (c_C_check l D cI cZ  (x 2) 6 (upd (upd (upd (upd (zf_e F) (0) (sv)) (1) (kv)) (2) (vv)) (3) (dv))   (rfl)) mt_C_check ml_F_42 vt_C_check ⟨Nat.le_of_ble_eq_true rfl, Nat.le_of_ble_eq_true rfl⟩ ⟨rfl, rfl⟩ ⟨Nat.zero_le _, Nat.zero_le _⟩ rfl [2] [0, 1, 3, 4, 5] [0, 1, 5, 2, 3, 4] rfl (by decide) (wr := [(x 1, .inr (1, [.int (nI (bc * bp)), .ref (x 6), .ref (x 2), .ref (x 3)])), (x 6, .inl (cI, bc * bp * 6, .inl (zf_c F))), (x 3, .inr (2, [.ref (x 4), .ref (x 5)])), (x 4, .inl (cI, 178, .inl (zk_R))), (x 5, .inl (cI, 512, .inl (zk_B)))]) rfl (by decide) (by decide) rfl (by decide) rfl (Nat.le_of_ble_eq_true rfl) d_F_loadRecord_38 ?_
  refine z_st (stn := [.int (pchk ((upd (upd (upd (upd (zf_e F) (0) (sv)) (1) (kv)) (2) (vv)) (3) (dv)) 0) ((upd (upd (upd (upd (zf_e F) (0) (sv)) (1) (kv)) (2) (vv)) (3) (dv)) 1) ((upd (upd (upd (upd (zf_e F) (0) (sv)) (1) (kv)) (2) (vv)) (3) (dv)) 2) ((upd (upd (upd (upd (zf_e F) (0) (sv)) (1) (kv)) (2) (vv)) (3) (dv)) 3)), .int (nI (4)), .ref (x 2)]) rfl ?_
  refine z_iast C0 2 rfl (by omega) (by omega) d_F_loadRecord_41 ?_
  refine z_aload_n C0 d_F_loadRecord_42 rfl 0 rfl ?_
  refine z_get C0 gf_F_9 0 rfl rfl d_F_loadRecord_43 ?_
  refine z_iconst (v := nI 5) C0 d_F_loadRecord_46 (by decide) ?_
  refine z_aload_n C0 d_F_loadRecord_47 rfl 0 rfl ?_
  refine z_get C0 gf_F_18 0 rfl rfl d_F_loadRecord_48 ?_
  refine z_aload_n C0 d_F_loadRecord_51 rfl 0 rfl ?_
  refine z_get C0 gf_F_9 0 rfl rfl d_F_loadRecord_52 ?_
  refine z_ws (wsn := zf_W cI x bc bp (zf_c F, upd (upd (upd (upd (upd (zf_e F) (0) (sv)) (1) (kv)) (2) (vv)) (3) (dv)) (4) (pchk ((upd (upd (upd (upd (zf_e F) (0) (sv)) (1) (kv)) (2) (vv)) (3) (dv)) 0) ((upd (upd (upd (upd (zf_e F) (0) (sv)) (1) (kv)) (2) (vv)) (3) (dv)) 1) ((upd (upd (upd (upd (zf_e F) (0) (sv)) (1) (kv)) (2) (vv)) (3) (dv)) 2) ((upd (upd (upd (upd (zf_e F) (0) (sv)) (1) (kv)) (2) (vv)) (3) (dv)) 3)))) rfl ?_
  refine z_detV (As := [.ref (x 2)]) (rest := [.int (nI (5)), .ref (x 2)]) (wsn := zf_W cI x bc bp (zf_c F, upd (upd (upd (upd (upd (zf_e F) (0) (sv)) (1) (kv)) (2) (vv)) (3) (dv)) (4) (pchk ((upd (upd (upd (upd (zf_e F) (0) (sv)) (1) (kv)) (2) (vv)) (3) (dv)) 0) ((upd (upd (upd (upd (zf_e F) (0) (sv)) (1) (kv)) (2) (vv)) (3) (dv)) 1) ((upd (upd (upd (upd (zf_e F) (0) (sv)) (1) (kv)) (2) (vv)) (3) (dv)) 2) ((upd (upd (upd (upd (zf_e F) (0) (sv)) (1) (kv)) (2) (vv)) (3) (dv)) 3)))) C0 (c_C_parity l D cI cZ x (upd (upd (upd (upd (upd (zf_e F) (0) (sv)) (1) (kv)) (2) (vv)) (3) (dv)) (4) (pchk ((upd (upd (upd (upd (zf_e F) (0) (sv)) (1) (kv)) (2) (vv)) (3) (dv)) 0) ((upd (upd (upd (upd (zf_e F) (0) (sv)) (1) (kv)) (2) (vv)) (3) (dv)) 1) ((upd (upd (upd (upd (zf_e F) (0) (sv)) (1) (kv)) (2) (vv)) (3) (dv)) 2) ((upd (upd (upd (upd (zf_e F) (0) (sv)) (1) (kv)) (2) (vv)) (3) (dv)) 3)))   ) mt_C_parity ml_F_46 vt_C_parity rfl rfl ⟨Nat.le_of_ble_eq_true rfl, Nat.le_of_ble_eq_true rfl⟩ ⟨rfl, rfl⟩ ⟨Nat.zero_le _, Nat.zero_le _⟩ rfl [3, 4, 5, 2] [0, 1] [0, 1, 5, 2, 3, 4] rfl (by decide) (wr := [(x 1, .inr (1, [.int (nI (bc * bp)), .ref (x 6), .ref (x 2), .ref (x 3)])), (x 6, .inl (cI, bc * bp * 6, .inl (zf_c F)))]) rfl (by decide) (by decide) rfl (by decide) rfl (Nat.le_of_ble_eq_true rfl) d_F_loadRecord_55 ?_
  refine z_st (stn := [.int (nI (prem (upd (upd (upd (upd (upd (zf_e F) (0) (sv)) (1) (kv)) (2) (vv)) (3) (dv)) (4) (pchk ((upd (upd (upd (upd (zf_e F) (0) (sv)) (1) (kv)) (2) (vv)) (3) (dv)) 0) ((upd (upd (upd (upd (zf_e F) (0) (sv)) (1) (kv)) (2) (vv)) (3) (dv)) 1) ((upd (upd (upd (upd (zf_e F) (0) (sv)) (1) (kv)) (2) (vv)) (3) (dv)) 2) ((upd (upd (upd (upd (zf_e F) (0) (sv)) (1) (kv)) (2) (vv)) (3) (dv)) 3))) 160 0 0)), .int (nI (5)), .ref (x 2)]) rfl ?_
  refine z_iast C0 2 rfl (by omega) (by omega) d_F_loadRecord_58 ?_
  refine z_ws (wsn := zf_W cI x bc bp (zf_c F, upd (upd (upd (upd (upd (upd (zf_e F) (0) (sv)) (1) (kv)) (2) (vv)) (3) (dv)) (4) (pchk ((upd (upd (upd (upd (zf_e F) (0) (sv)) (1) (kv)) (2) (vv)) (3) (dv)) 0) ((upd (upd (upd (upd (zf_e F) (0) (sv)) (1) (kv)) (2) (vv)) (3) (dv)) 1) ((upd (upd (upd (upd (zf_e F) (0) (sv)) (1) (kv)) (2) (vv)) (3) (dv)) 2) ((upd (upd (upd (upd (zf_e F) (0) (sv)) (1) (kv)) (2) (vv)) (3) (dv)) 3))) (5) (nI (prem (upd (upd (upd (upd (upd (zf_e F) (0) (sv)) (1) (kv)) (2) (vv)) (3) (dv)) (4) (pchk ((upd (upd (upd (upd (zf_e F) (0) (sv)) (1) (kv)) (2) (vv)) (3) (dv)) 0) ((upd (upd (upd (upd (zf_e F) (0) (sv)) (1) (kv)) (2) (vv)) (3) (dv)) 1) ((upd (upd (upd (upd (zf_e F) (0) (sv)) (1) (kv)) (2) (vv)) (3) (dv)) 2) ((upd (upd (upd (upd (zf_e F) (0) (sv)) (1) (kv)) (2) (vv)) (3) (dv)) 3))) 160 0 0)))) rfl ?_
  exact z_vret C0 hA hQ hr d_F_loadRecord_59 (⟨rfl, rfl⟩)
