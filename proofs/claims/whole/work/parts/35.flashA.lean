set_option maxHeartbeats 4000000 in
set_option maxRecDepth 100000 in
theorem c_S_isKey (l : Launch) (D : va_G) (cI cZ : ClassId)  (k : Int32)  : zc_Con l y_S_isKey b_S_isKey 1 (some .boolean) { frames := 0, cells := 0, slots := 0, locals := 0 } D cI cZ [.int (k)] ([]) (zo (some (.int (bI (pkey k)))) ([])) := by
  refine zc_start (by decide) (Nat.le_of_ble_eq_true rfl) ?_
  intro p e s m args below meth c A Q hA hQ C0 hr hin
  have C0 : zc_Cx p s m args meth c b_S_isKey 1 R_S D cI cZ A := C0
  refine z_lvs (lvn := [(0, .int (k))]) rfl ?_
  refine z_iload_n C0 d_S_isKey_0 rfl 0 rfl ?_
  refine z_if_lt (tgt := 14) C0 d_S_isKey_1 (by decide) (fun c1_1 => ?_) (fun c1_1 => ?_)
  · skip
    refine z_iconst (v := nI 0) C0 d_S_isKey_14 (by decide) ?_
    refine z_topi (x := nI 0) (xn := bI false) (by decide) ?_
    exact z_zret C0 hA hQ hr d_S_isKey_15 (⟨by unfold pkey; rw [decide_eq_false (Int32.not_le.mpr c1_1), Bool.false_and], rfl⟩)
  · skip
    refine z_iload_n C0 d_S_isKey_4 rfl 0 rfl ?_
    refine z_bipush (v := 16) C0 d_S_isKey_5 (by decide) ?_
    refine z_icmp_ge (tgt := 14) C0 d_S_isKey_7 (by decide) (fun (c7_2 : 16 ≤ k) => ?_) (fun (c7_2 : ¬ 16 ≤ k) => ?_)
    · skip
      refine z_iconst (v := nI 0) C0 d_S_isKey_14 (by decide) ?_
      refine z_topi (x := nI 0) (xn := bI false) (by decide) ?_
      exact z_zret C0 hA hQ hr d_S_isKey_15 (⟨by unfold pkey; rw [decide_eq_false (Int32.not_lt.mpr c7_2), Bool.and_false], rfl⟩)
    · skip
      refine z_iconst (v := nI 1) C0 d_S_isKey_10 (by decide) ?_
      refine z_gotoK (tgt := 15) C0 d_S_isKey_11 (by decide) ?_
      refine z_topi (x := nI 1) (xn := bI true) (by decide) ?_
      exact z_zret C0 hA hQ hr d_S_isKey_15 (⟨by unfold pkey; rw [decide_eq_true (Int32.not_lt.mp c1_1), decide_eq_true (Int32.not_le.mp c7_2)]; rfl, rfl⟩)

set_option maxHeartbeats 4000000 in
set_option maxRecDepth 100000 in
theorem c_S_isReadable (l : Launch) (D : va_G) (cI cZ : ClassId)  (k : Nat) (hk : k ≤ 3) : zc_Con l y_S_isReadable b_S_isReadable 1 (some .boolean) { frames := 0, cells := 0, slots := 0, locals := 0 } D cI cZ [.int (nI (k))] ([]) (zo (some (.int (bI (decide (k = 1 ∨ k = 2))))) ([])) := by
  refine zc_start (by decide) (Nat.le_of_ble_eq_true rfl) ?_
  intro p e s m args below meth c A Q hA hQ C0 hr hin
  have C0 : zc_Cx p s m args meth c b_S_isReadable 1 R_S D cI cZ A := C0
  refine z_lvs (lvn := [(0, .int (nI (k)))]) rfl ?_
  refine z_iload_n C0 d_S_isReadable_0 rfl 0 rfl ?_
  refine z_iconst (v := nI 1) C0 d_S_isReadable_1 (by decide) ?_
  refine z_icmpN_eq (tgt := 10) C0 d_S_isReadable_2 (by decide) (by omega) (by omega) (fun (c2_1 : k = 1) => ?_) (fun (c2_1 : k ≠ 1) => ?_)
  · skip
    refine z_iconst (v := nI 1) C0 d_S_isReadable_10 (by decide) ?_
    refine z_gotoK (tgt := 15) C0 d_S_isReadable_11 (by decide) ?_
    refine z_topi (x := nI 1) (xn := bI true) (by decide) ?_
    exact z_zret C0 hA hQ hr d_S_isReadable_15 (⟨by simp [c2_1], rfl⟩)
  · skip
    refine z_iload_n C0 d_S_isReadable_5 rfl 0 rfl ?_
    refine z_iconst (v := nI 2) C0 d_S_isReadable_6 (by decide) ?_
    refine z_icmpN_ne (tgt := 14) C0 d_S_isReadable_7 (by decide) (by omega) (by omega) (fun (c7_2 : k ≠ 2) => ?_) (fun (c7_2 : k = 2) => ?_)
    · skip
      refine z_iconst (v := nI 0) C0 d_S_isReadable_14 (by decide) ?_
      refine z_topi (x := nI 0) (xn := bI false) (by decide) ?_
      exact z_zret C0 hA hQ hr d_S_isReadable_15 (⟨by simp [c2_1, c7_2], rfl⟩)
    · skip
      refine z_iconst (v := nI 1) C0 d_S_isReadable_10 (by decide) ?_
      refine z_gotoK (tgt := 15) C0 d_S_isReadable_11 (by decide) ?_
      refine z_topi (x := nI 1) (xn := bI true) (by decide) ?_
      exact z_zret C0 hA hQ hr d_S_isReadable_15 (⟨by simp [c2_1, c7_2], rfl⟩)

set_option maxHeartbeats 4000000 in
set_option maxRecDepth 100000 in
theorem c_F_isPage (l : Launch) (D : va_G) (cI cZ : ClassId) (x : Nat → Nat) (bc bp : Nat) (F : zf_S) (hB : zb_ok bc bp) (pg : Int32)  : zc_Con l y_F_isPage b_F_isPage 2 (some .boolean) { frames := 0, cells := 0, slots := 0, locals := 0 } D cI cZ [.ref (x 1), .int (pg)] (zf_W cI x bc bp F) (zo (some (.int (bI (spg (bc * bp) pg)))) (zf_W cI x bc bp F)) := by
  refine zc_start (by decide) (Nat.le_of_ble_eq_true rfl) ?_
  intro p e s m args below meth c A Q hA hQ C0 hr hin
  have C0 : zc_Cx p s m args meth c b_F_isPage 2 R_F D cI cZ A := C0
  have hB0 := hB
  obtain ⟨hB1, hB2, hB3, hB4⟩ := hB
  have hN : bc * bp ≤ 20 := Nat.mul_le_mul hB2 hB4
  refine z_lvs (lvn := [(0, .ref (x 1)), (1, .int (pg))]) rfl ?_
  refine z_iload_n C0 d_F_isPage_0 rfl 1 rfl ?_
  refine z_if_lt (tgt := 16) C0 d_F_isPage_1 (by decide) (fun c1_1 => ?_) (fun c1_1 => ?_)
  · skip
    refine z_iconst (v := nI 0) C0 d_F_isPage_16 (by decide) ?_
    refine z_topi (x := nI 0) (xn := bI false) (by decide) ?_
    exact z_zret C0 hA hQ hr d_F_isPage_17 (⟨by unfold spg; rw [decide_eq_false (Int32.not_le.mpr c1_1), Bool.false_and], rfl⟩)
  · skip
    refine z_iload_n C0 d_F_isPage_4 rfl 1 rfl ?_
    refine z_aload_n C0 d_F_isPage_5 rfl 0 rfl ?_
    refine z_get C0 gf_F_22 0 rfl rfl d_F_isPage_6 ?_
    refine z_icmp_ge (tgt := 16) C0 d_F_isPage_9 (by decide) (fun (c9_2 : (nI (bc * bp)) ≤ pg) => ?_) (fun (c9_2 : ¬ (nI (bc * bp)) ≤ pg) => ?_)
    · skip
      refine z_iconst (v := nI 0) C0 d_F_isPage_16 (by decide) ?_
      refine z_topi (x := nI 0) (xn := bI false) (by decide) ?_
      exact z_zret C0 hA hQ hr d_F_isPage_17 (⟨by unfold spg; rw [decide_eq_false (Int32.not_lt.mpr c9_2), Bool.and_false], rfl⟩)
    · skip
      refine z_iconst (v := nI 1) C0 d_F_isPage_12 (by decide) ?_
      refine z_gotoK (tgt := 17) C0 d_F_isPage_13 (by decide) ?_
      refine z_topi (x := nI 1) (xn := bI true) (by decide) ?_
      exact z_zret C0 hA hQ hr d_F_isPage_17 (⟨by unfold spg; rw [decide_eq_true (Int32.not_lt.mp c1_1), decide_eq_true (Int32.not_le.mp c9_2)]; rfl, rfl⟩)

set_option maxHeartbeats 4000000 in
set_option maxRecDepth 100000 in
theorem c_F_turnBit (l : Launch) (D : va_G) (cI cZ : ClassId) (x : Nat → Nat) (bc bp : Nat) (F : zf_S) (hB : zb_ok bc bp) (pg : Nat) (i : Nat) (hp : pg < bc * bp) (hi : i < 178) : zc_Con l y_F_turnBit b_F_turnBit 3 none { frames := 0, cells := 0, slots := 0, locals := 0 } D cI cZ [.ref (x 1), .int (nI (pg)), .int (nI (i))] (zf_W cI x bc bp F) (zo none (zf_W cI x bc bp ((sf_turn (zf_c F) pg i, zf_e F)))) := by
  refine zc_start (by decide) (Nat.le_of_ble_eq_true rfl) ?_
  intro p e s m args below meth c A Q hA hQ C0 hr hin
  have C0 : zc_Cx p s m args meth c b_F_turnBit 3 R_F D cI cZ A := C0
  have hB0 := hB
  obtain ⟨hB1, hB2, hB3, hB4⟩ := hB
  have hN : bc * bp ≤ 20 := Nat.mul_le_mul hB2 hB4
  refine z_lvs (lvn := [(0, .ref (x 1)), (1, .int (nI (pg))), (2, .int (nI (i)))]) rfl ?_
  refine z_aload_n C0 d_F_turnBit_0 rfl 0 rfl ?_
  refine z_get C0 gf_F_26 0 rfl rfl d_F_turnBit_1 ?_
  refine z_iload_n C0 d_F_turnBit_4 rfl 1 rfl ?_
  refine z_bipush (v := nI 6) C0 d_F_turnBit_5 (by decide) ?_
  refine z_imulN C0 d_F_turnBit_7 ?_
  refine z_iload_n C0 d_F_turnBit_8 rfl 2 rfl ?_
  refine z_bipush (v := nI 32) C0 d_F_turnBit_9 (by decide) ?_
  refine z_idivN C0 d_F_turnBit_11 (by omega) (by omega) (by omega) ?_
  refine z_iaddN C0 d_F_turnBit_12 ?_
  refine z_dup2 C0 d_F_turnBit_13 rfl rfl ?_
  refine z_iald C0 1 rfl (by omega) (by omega) d_F_turnBit_14 ?_
  refine z_iconst (v := 1) C0 d_F_turnBit_15 (by decide) ?_
  refine z_iload_n C0 d_F_turnBit_16 rfl 2 rfl ?_
  refine z_bipush (v := nI 32) C0 d_F_turnBit_17 (by decide) ?_
  refine z_iremN C0 d_F_turnBit_19 (by omega) (by omega) (by omega) ?_
  refine z_ishl C0 d_F_turnBit_20 ?_
  refine z_ixor C0 d_F_turnBit_21 ?_
  refine z_iast C0 1 rfl (by omega) (by omega) d_F_turnBit_22 ?_
  refine z_ws (wsn := zf_W cI x bc bp (upd (zf_c F) (pg * 6 + (i / 32)) (((zf_c F) (pg * 6 + (i / 32))) ^^^ (1 <<< ((nI (i % 32)) &&& 31))), zf_e F)) rfl ?_
  exact z_vret C0 hA hQ hr d_F_turnBit_23 (⟨rfl, rfl⟩)

set_option maxHeartbeats 4000000 in
set_option maxRecDepth 100000 in
theorem c_F_loadErased (l : Launch) (D : va_G) (cI cZ : ClassId) (x : Nat → Nat) (bc bp : Nat) (F : zf_S) (hB : zb_ok bc bp)   : zc_Con l y_F_loadErased b_F_loadErased 1 none { frames := 1, cells := 0, slots := 0, locals := 23 } D cI cZ [.ref (x 1)] (zf_W cI x bc bp F) (zo none (zf_W cI x bc bp ((zf_c F, sf_er (zf_e F))))) := by
  refine zc_start (by decide) (Nat.le_of_ble_eq_true rfl) ?_
  intro p e s m args below meth c A Q hA hQ C0 hr hin
  have C0 : zc_Cx p s m args meth c b_F_loadErased 1 R_F D cI cZ A := C0
  have hB0 := hB
  obtain ⟨hB1, hB2, hB3, hB4⟩ := hB
  have hN : bc * bp ≤ 20 := Nat.mul_le_mul hB2 hB4
  refine z_lvs (lvn := [(0, .ref (x 1))]) rfl ?_
  refine z_aload_n C0 d_F_loadErased_0 rfl 0 rfl ?_
  refine z_get C0 gf_F_9 0 rfl rfl d_F_loadErased_1 ?_
  refine z_iconst (v := -1) C0 d_F_loadErased_4 (by decide) ?_
  refine z_detS (As := [.ref (x 2), .int (-1)]) (rest := []) (wsn := zf_W cI x bc bp (zf_c F, sf_fls (-1) 6 0 (zf_e F))) C0 (c_JA_fill l D cI cZ  (x 2) 6 (zf_e F)  (-1) (by omega)) mt_JA_fill ml_F_71 vt_JA_fill ⟨Nat.le_of_ble_eq_true rfl, Nat.le_of_ble_eq_true rfl⟩ ⟨rfl, rfl⟩ ⟨Nat.zero_le _, Nat.zero_le _⟩ rfl [2] [0, 1, 3, 4, 5] [0, 1, 5, 2, 3, 4] rfl (by decide) (wr := [(x 1, .inr (1, [.int (nI (bc * bp)), .ref (x 6), .ref (x 2), .ref (x 3)])), (x 6, .inl (cI, bc * bp * 6, .inl (zf_c F))), (x 3, .inr (2, [.ref (x 4), .ref (x 5)])), (x 4, .inl (cI, 178, .inl (zk_R))), (x 5, .inl (cI, 512, .inl (zk_B)))]) rfl (by decide) (by decide) rfl (by decide) rfl (Nat.le_of_ble_eq_true rfl) d_F_loadErased_5 ?_
  refine z_st (stn := []) rfl ?_
  refine z_aload_n C0 d_F_loadErased_8 rfl 0 rfl ?_
  refine z_get C0 gf_F_9 0 rfl rfl d_F_loadErased_9 ?_
  refine z_iconst (v := nI 5) C0 d_F_loadErased_12 (by decide) ?_
  refine z_ldc (v := 262143) C0 ck_F_77 d_F_loadErased_13 ?_
  refine z_iast C0 2 rfl (by omega) (by omega) d_F_loadErased_15 ?_
  refine z_ws (wsn := zf_W cI x bc bp (zf_c F, upd (sf_fls (-1) 6 0 (zf_e F)) (5) (262143))) rfl ?_
  exact z_vret C0 hA hQ hr d_F_loadErased_16 (⟨rfl, rfl⟩)

set_option maxHeartbeats 4000000 in
set_option maxRecDepth 100000 in
theorem c_F_writeSeen (l : Launch) (D : va_G) (cI cZ : ClassId) (x : Nat → Nat) (bc bp : Nat) (F : zf_S) (hB : zb_ok bc bp) (pg : Nat) (hp : pg < bc * bp) : zc_Con l y_F_writeSeen b_F_writeSeen 2 none { frames := 1, cells := 0, slots := 0, locals := 64 } D cI cZ [.ref (x 1), .int (nI (pg))] (zf_W cI x bc bp F) (zo none (zf_W cI x bc bp ((sf_put (zf_c F) (zf_e F) pg, zf_e F)))) := by
  refine zc_start (by decide) (Nat.le_of_ble_eq_true rfl) ?_
  intro p e s m args below meth c A Q hA hQ C0 hr hin
  have C0 : zc_Cx p s m args meth c b_F_writeSeen 2 R_F D cI cZ A := C0
  have hB0 := hB
  obtain ⟨hB1, hB2, hB3, hB4⟩ := hB
  have hN : bc * bp ≤ 20 := Nat.mul_le_mul hB2 hB4
  refine z_lvs (lvn := [(0, .ref (x 1)), (1, .int (nI (pg)))]) rfl ?_
  refine z_aload_n C0 d_F_writeSeen_0 rfl 0 rfl ?_
  refine z_get C0 gf_F_9 0 rfl rfl d_F_writeSeen_1 ?_
  refine z_iconst (v := nI 0) C0 d_F_writeSeen_4 (by decide) ?_
  refine z_aload_n C0 d_F_writeSeen_5 rfl 0 rfl ?_
  refine z_get C0 gf_F_26 0 rfl rfl d_F_writeSeen_6 ?_
  refine z_iload_n C0 d_F_writeSeen_9 rfl 1 rfl ?_
  refine z_bipush (v := nI 6) C0 d_F_writeSeen_10 (by decide) ?_
  refine z_imulN C0 d_F_writeSeen_12 ?_
  refine z_bipush (v := nI 6) C0 d_F_writeSeen_13 (by decide) ?_
  refine z_copy C0 ac_F_36 ac_nat ac_sta ac_ini 2 1 rfl rfl (by omega) (by omega) (by omega) (by omega) (by decide) (by decide) d_F_writeSeen_15 ?_
  refine z_ws (wsn := zf_W cI x bc bp (va_cpy (zf_e F) (zf_c F) (0) (pg * 6) (6), zf_e F)) rfl ?_
  exact z_vret C0 hA hQ hr d_F_writeSeen_18 (⟨rfl, rfl⟩)

set_option maxHeartbeats 4000000 in
set_option maxRecDepth 100000 in
theorem c_F_loadRaw (l : Launch) (D : va_G) (cI cZ : ClassId) (x : Nat → Nat) (bc bp : Nat) (F : zf_S) (hB : zb_ok bc bp) (pg : Nat) (hp : pg < bc * bp) : zc_Con l y_F_loadRaw b_F_loadRaw 2 none { frames := 1, cells := 0, slots := 0, locals := 64 } D cI cZ [.ref (x 1), .int (nI (pg))] (zf_W cI x bc bp F) (zo none (zf_W cI x bc bp ((zf_c F, sf_raw (zf_c F) (zf_e F) pg)))) := by
  refine zc_start (by decide) (Nat.le_of_ble_eq_true rfl) ?_
  intro p e s m args below meth c A Q hA hQ C0 hr hin
  have C0 : zc_Cx p s m args meth c b_F_loadRaw 2 R_F D cI cZ A := C0
  have hB0 := hB
  obtain ⟨hB1, hB2, hB3, hB4⟩ := hB
  have hN : bc * bp ≤ 20 := Nat.mul_le_mul hB2 hB4
  refine z_lvs (lvn := [(0, .ref (x 1)), (1, .int (nI (pg)))]) rfl ?_
  refine z_aload_n C0 d_F_loadRaw_0 rfl 0 rfl ?_
  refine z_get C0 gf_F_26 0 rfl rfl d_F_loadRaw_1 ?_
  refine z_iload_n C0 d_F_loadRaw_4 rfl 1 rfl ?_
  refine z_bipush (v := nI 6) C0 d_F_loadRaw_5 (by decide) ?_
  refine z_imulN C0 d_F_loadRaw_7 ?_
  refine z_aload_n C0 d_F_loadRaw_8 rfl 0 rfl ?_
  refine z_get C0 gf_F_9 0 rfl rfl d_F_loadRaw_9 ?_
  refine z_iconst (v := nI 0) C0 d_F_loadRaw_12 (by decide) ?_
  refine z_bipush (v := nI 6) C0 d_F_loadRaw_13 (by decide) ?_
  refine z_copy C0 ac_F_36 ac_nat ac_sta ac_ini 1 2 rfl rfl (by omega) (by omega) (by omega) (by omega) (by decide) (by decide) d_F_loadRaw_15 ?_
  refine z_ws (wsn := zf_W cI x bc bp (zf_c F, va_cpy (zf_c F) (zf_e F) (pg * 6) (0) (6))) rfl ?_
  exact z_vret C0 hA hQ hr d_F_loadRaw_18 (⟨rfl, rfl⟩)

set_option maxHeartbeats 4000000 in
set_option maxRecDepth 100000 in
theorem c_F_erasePages (l : Launch) (D : va_G) (cI cZ : ClassId) (x : Nat → Nat) (bc bp : Nat) (F : zf_S) (hB : zb_ok bc bp) (fr : Nat) (to : Nat) (h1 : fr ≤ to) (h2 : to ≤ bc * bp) : zc_Con l y_F_erasePages b_F_erasePages 4 none { frames := 2, cells := 0, slots := 0, locals := 85 } D cI cZ [.ref (x 1), .int (nI (fr)), .int (nI (to))] (zf_W cI x bc bp F) (zo none (zf_W cI x bc bp ((sf_eps (sf_er (zf_e F)) (to - fr) fr (zf_c F), sf_er (zf_e F))))) := by
  refine zc_start (by decide) (Nat.le_of_ble_eq_true rfl) ?_
  intro p e s m args below meth c A Q hA hQ C0 hr hin
  have C0 : zc_Cx p s m args meth c b_F_erasePages 4 R_F D cI cZ A := C0
  have hB0 := hB
  obtain ⟨hB1, hB2, hB3, hB4⟩ := hB
  have hN : bc * bp ≤ 20 := Nat.mul_le_mul hB2 hB4
  refine z_lvs (lvn := [(0, .ref (x 1)), (1, .int (nI (fr))), (2, .int (nI (to)))]) rfl ?_
  refine z_aload_n C0 d_F_erasePages_0 rfl 0 rfl ?_
  refine z_allV (As := []) (rest := []) C0 (c_F_loadErased l D cI cZ x bc bp F hB0  ) mt_F_loadErased ml_F_29 vt_F_loadErased rfl rfl ⟨Nat.le_of_ble_eq_true rfl, Nat.le_of_ble_eq_true rfl⟩ ⟨rfl, rfl⟩ ⟨Nat.zero_le _, Nat.zero_le _⟩ rfl rfl (Nat.le_of_ble_eq_true rfl) d_F_erasePages_1 ?_
  refine z_st (stn := []) rfl ?_
  refine z_iload_n C0 d_F_erasePages_4 rfl 1 rfl ?_
  refine z_istore_n (lvn := [(0, .ref (x 1)), (1, .int (nI (fr))), (2, .int (nI (to))), (3, .int (nI (fr)))]) C0 d_F_erasePages_5 rfl (by decide) [1, 2, 3, 0] rfl ?_
  have lp6 : ∀ (n : Nat) (i : Nat) (g : Nat → Int32), (i + n = to) → (sf_eps (sf_er (zf_e F)) (to - fr) fr (zf_c F) = sf_eps (sf_er (zf_e F)) n i g) → zc_Pt p l e { frames := 2, cells := 0, slots := 0, locals := 85 } s m args below meth c 4 D A 0 0 Q 6 [(0, .ref (x 1)), (1, .int (nI (fr))), (2, .int (nI (to))), (3, .int (nI (i)))] [] (zf_W cI x bc bp (g, sf_er (zf_e F))) := by
    intro n
    induction n with
    | zero =>
      intro i g hi hR
      refine z_iload_n C0 d_F_erasePages_6 rfl 3 rfl ?_
      refine z_iload_n C0 d_F_erasePages_7 rfl 2 rfl ?_
      refine z_icmpN_ge (tgt := 22) C0 d_F_erasePages_8 (by decide) (by omega) (by omega) (fun (c8_1 : to ≤ i) => ?_) (fun (c8_1 : i < to) => ?_)
      · skip
        exact z_vret C0 hA hQ hr d_F_erasePages_22 (⟨rfl, by rw [hR]; rfl⟩)
      · exact absurd c8_1 (by omega)
    | succ n ih =>
      intro i g hi hR
      refine z_iload_n C0 d_F_erasePages_6 rfl 3 rfl ?_
      refine z_iload_n C0 d_F_erasePages_7 rfl 2 rfl ?_
      refine z_icmpN_ge (tgt := 22) C0 d_F_erasePages_8 (by decide) (by omega) (by omega) (fun (c8_2 : to ≤ i) => ?_) (fun (c8_2 : i < to) => ?_)
      · exact absurd c8_2 (by omega)
      · skip
        refine z_aload_n C0 d_F_erasePages_11 rfl 0 rfl ?_
        refine z_iload_n C0 d_F_erasePages_12 rfl 3 rfl ?_
        refine z_allV (As := [.int (nI (i))]) (rest := []) C0 (c_F_writeSeen l D cI cZ x bc bp (g, sf_er (zf_e F)) hB0 (i) (by omega)) mt_F_writeSeen ml_F_32 vt_F_writeSeen rfl rfl ⟨Nat.le_of_ble_eq_true rfl, Nat.le_of_ble_eq_true rfl⟩ ⟨rfl, rfl⟩ ⟨Nat.zero_le _, Nat.zero_le _⟩ rfl rfl (Nat.le_of_ble_eq_true rfl) d_F_erasePages_13 ?_
        refine z_st (stn := []) rfl ?_
        refine z_iincN (q := 3) (lvn := [(0, .ref (x 1)), (1, .int (nI (fr))), (2, .int (nI (to))), (3, .int (nI (i + 1)))]) C0 d_F_erasePages_16 rfl (by decide) [1, 2, 3, 0] rfl ?_
        refine z_gotoK (tgt := 6) C0 d_F_erasePages_19 (by decide) ?_
        exact ih (i + 1) (sf_put (g) (sf_er (zf_e F)) (i)) (by omega) (by rw [hR]; rfl)
  exact lp6 (to - fr) (fr) (zf_c F) (by omega) (rfl)

set_option maxHeartbeats 4000000 in
set_option maxRecDepth 100000 in
theorem c_F_seenZeros (l : Launch) (D : va_G) (cI cZ : ClassId) (x : Nat → Nat) (bc bp : Nat) (F : zf_S) (hB : zb_ok bc bp)  (hlow : (zf_e F 5).toBitVec.toNat < 2 ^ 18) : zc_Con l y_F_seenZeros b_F_seenZeros 3 (some .int) { frames := 1, cells := 0, slots := 0, locals := 20 } D cI cZ [.ref (x 1)] (zf_W cI x bc bp F) (zo (some (.int (nI (pz (zf_e F))))) (zf_W cI x bc bp F)) := by
  refine zc_start (by decide) (Nat.le_of_ble_eq_true rfl) ?_
  intro p e s m args below meth c A Q hA hQ C0 hr hin
  have C0 : zc_Cx p s m args meth c b_F_seenZeros 3 R_F D cI cZ A := C0
  have hB0 := hB
  obtain ⟨hB1, hB2, hB3, hB4⟩ := hB
  have hN : bc * bp ≤ 20 := Nat.mul_le_mul hB2 hB4
  refine z_lvs (lvn := [(0, .ref (x 1))]) rfl ?_
  refine z_sipush (v := nI 178) C0 d_F_seenZeros_0 (by decide) ?_
  refine z_istore_n (lvn := [(0, .ref (x 1)), (1, .int (nI (178)))]) C0 d_F_seenZeros_3 rfl (by decide) [1, 0] rfl ?_
  refine z_iconst (v := nI 0) C0 d_F_seenZeros_4 (by decide) ?_
  refine z_istore_n (lvn := [(0, .ref (x 1)), (1, .int (nI (178))), (2, .int (nI (0)))]) C0 d_F_seenZeros_5 rfl (by decide) [1, 2, 0] rfl ?_
  have lp6 : ∀ (n : Nat) (k : Nat) (z : Nat), (k + n = 6) → (178 ≤ z + 32 * k) → (z ≤ 178) → (pz (zf_e F) = pzs (zf_e F) n k z) → zc_Pt p l e { frames := 1, cells := 0, slots := 0, locals := 20 } s m args below meth c 3 D A 0 0 Q 6 [(0, .ref (x 1)), (1, .int (nI (z))), (2, .int (nI (k)))] [] (zf_W cI x bc bp F) := by
    intro n
    induction n with
    | zero =>
      intro k z hi hz hz2 hR
      refine z_iload_n C0 d_F_seenZeros_6 rfl 2 rfl ?_
      refine z_bipush (v := nI 6) C0 d_F_seenZeros_7 (by decide) ?_
      refine z_icmpN_ge (tgt := 30) C0 d_F_seenZeros_9 (by decide) (by omega) (by omega) (fun (c9_1 : 6 ≤ k) => ?_) (fun (c9_1 : k < 6) => ?_)
      · skip
        refine z_iload_n C0 d_F_seenZeros_30 rfl 1 rfl ?_
        exact z_iret C0 hA hQ hr d_F_seenZeros_31 (⟨by rw [hR]; rfl, rfl⟩)
      · exact absurd c9_1 (by omega)
    | succ n ih =>
      intro k z hi hz hz2 hR
      refine z_iload_n C0 d_F_seenZeros_6 rfl 2 rfl ?_
      refine z_bipush (v := nI 6) C0 d_F_seenZeros_7 (by decide) ?_
      refine z_icmpN_ge (tgt := 30) C0 d_F_seenZeros_9 (by decide) (by omega) (by omega) (fun (c9_2 : 6 ≤ k) => ?_) (fun (c9_2 : k < 6) => ?_)
      · exact absurd c9_2 (by omega)
      · skip
        refine z_iload_n C0 d_F_seenZeros_12 rfl 1 rfl ?_
        refine z_aload_n C0 d_F_seenZeros_13 rfl 0 rfl ?_
        refine z_get C0 gf_F_9 0 rfl rfl d_F_seenZeros_14 ?_
        refine z_iload_n C0 d_F_seenZeros_17 rfl 2 rfl ?_
        refine z_iald C0 2 rfl (by omega) (by omega) d_F_seenZeros_18 ?_
        refine z_nilS (As := [.int ((zf_e F) (k))]) (rest := [.int (nI (z))]) C0 (c_JI_bitCount l D cI cZ    ((zf_e F) (k)) ) mt_JI_bitCount ml_F_78 vt_JI_bitCount ⟨Nat.le_of_ble_eq_true rfl, Nat.le_of_ble_eq_true rfl⟩ ⟨rfl, rfl⟩ ⟨Nat.zero_le _, Nat.zero_le _⟩ rfl rfl (Nat.le_of_ble_eq_true rfl) d_F_seenZeros_19 ?_
        refine z_st (stn := [.int (nI (pc ((zf_e F) (k)))), .int (nI (z))]) rfl ?_
        refine z_isubN C0 d_F_seenZeros_22 (by have h1 := pc_le (zf_e F k); rcases (show k < 5 ∨ k = 5 by omega) with q | q <;> first | omega | (subst q; have := pc_le18 hlow; omega)) ?_
        refine z_istore_n (lvn := [(0, .ref (x 1)), (1, .int (nI (z - (pc ((zf_e F) (k)))))), (2, .int (nI (k)))]) C0 d_F_seenZeros_23 rfl (by decide) [1, 0, 2] rfl ?_
        refine z_iincN (q := 2) (lvn := [(0, .ref (x 1)), (1, .int (nI (z - (pc ((zf_e F) (k)))))), (2, .int (nI (k + 1)))]) C0 d_F_seenZeros_24 rfl (by decide) [1, 2, 0] rfl ?_
        refine z_gotoK (tgt := 6) C0 d_F_seenZeros_27 (by decide) ?_
        exact ih (k + 1) (z - (pc ((zf_e F) (k)))) (by omega) (by have := pc_le (zf_e F k); omega) (by omega) (by rw [hR]; rfl)
  exact lp6 (6) (0) (178) (by omega) (by omega) (by omega) (rfl)

set_option maxHeartbeats 4000000 in
set_option maxRecDepth 100000 in
theorem c_F_isRecord (l : Launch) (D : va_G) (cI cZ : ClassId) (x : Nat → Nat) (bc bp : Nat) (F : zf_S) (hB : zb_ok bc bp)   : zc_Con l y_F_isRecord b_F_isRecord 1 (some .boolean) { frames := 1, cells := 0, slots := 0, locals := 21 } D cI cZ [.ref (x 1)] (zf_W cI x bc bp F) (zo (some (.int (bI (prec (zf_e F))))) (zf_W cI x bc bp F)) := by
  refine zc_start (by decide) (Nat.le_of_ble_eq_true rfl) ?_
  intro p e s m args below meth c A Q hA hQ C0 hr hin
  have C0 : zc_Cx p s m args meth c b_F_isRecord 1 R_F D cI cZ A := C0
  have hB0 := hB
  obtain ⟨hB1, hB2, hB3, hB4⟩ := hB
  have hN : bc * bp ≤ 20 := Nat.mul_le_mul hB2 hB4
  refine z_lvs (lvn := [(0, .ref (x 1))]) rfl ?_
  refine z_aload_n C0 d_F_isRecord_0 rfl 0 rfl ?_
  refine z_get C0 gf_F_9 0 rfl rfl d_F_isRecord_1 ?_
  refine z_iconst (v := nI 4) C0 d_F_isRecord_4 (by decide) ?_
  refine z_iald C0 2 rfl (by omega) (by omega) d_F_isRecord_5 ?_
  refine z_aload_n C0 d_F_isRecord_6 rfl 0 rfl ?_
  refine z_get C0 gf_F_9 0 rfl rfl d_F_isRecord_7 ?_
  refine z_detS (As := [.ref (x 2)]) (rest := [.int ((zf_e F) (4))]) (wsn := zf_W cI x bc bp F) C0 (c_C_check l D cI cZ  (x 2) 6 (zf_e F)   (rfl)) mt_C_check ml_F_42 vt_C_check ⟨Nat.le_of_ble_eq_true rfl, Nat.le_of_ble_eq_true rfl⟩ ⟨rfl, rfl⟩ ⟨Nat.zero_le _, Nat.zero_le _⟩ rfl [2] [0, 1, 3, 4, 5] [0, 1, 5, 2, 3, 4] rfl (by decide) (wr := [(x 1, .inr (1, [.int (nI (bc * bp)), .ref (x 6), .ref (x 2), .ref (x 3)])), (x 6, .inl (cI, bc * bp * 6, .inl (zf_c F))), (x 3, .inr (2, [.ref (x 4), .ref (x 5)])), (x 4, .inl (cI, 178, .inl (zk_R))), (x 5, .inl (cI, 512, .inl (zk_B)))]) rfl (by decide) (by decide) rfl (by decide) rfl (Nat.le_of_ble_eq_true rfl) d_F_isRecord_10 ?_
  refine z_st (stn := [.int (pchk ((zf_e F) 0) ((zf_e F) 1) ((zf_e F) 2) ((zf_e F) 3)), .int ((zf_e F) (4))]) rfl ?_
  refine z_icmp_ne (tgt := 52) C0 d_F_isRecord_13 (by decide) (fun (c13_1 : ¬ ((zf_e F) (4)) = (pchk ((zf_e F) 0) ((zf_e F) 1) ((zf_e F) 2) ((zf_e F) 3))) => ?_) (fun (c13_1 : ((zf_e F) (4)) = (pchk ((zf_e F) 0) ((zf_e F) 1) ((zf_e F) 2) ((zf_e F) 3))) => ?_)
  · skip
    refine z_iconst (v := nI 0) C0 d_F_isRecord_52 (by decide) ?_
    refine z_topi (x := nI 0) (xn := bI false) (by decide) ?_
    exact z_zret C0 hA hQ hr d_F_isRecord_53 (⟨by simp [prec, c13_1], rfl⟩)
  · skip
    refine z_aload_n C0 d_F_isRecord_16 rfl 0 rfl ?_
    refine z_get C0 gf_F_9 0 rfl rfl d_F_isRecord_17 ?_
    refine z_iconst (v := nI 1) C0 d_F_isRecord_20 (by decide) ?_
    refine z_iald C0 2 rfl (by omega) (by omega) d_F_isRecord_21 ?_
    refine z_nilSN (As := [.int ((zf_e F) (1))]) (rest := []) C0 (c_S_isKey l D cI cZ    ((zf_e F) (1)) ) mt_S_isKey ml_F_83 vt_S_isKey ⟨Nat.le_of_ble_eq_true rfl, Nat.le_of_ble_eq_true rfl⟩ ⟨rfl, rfl⟩ ⟨Nat.zero_le _, Nat.zero_le _⟩ rfl rfl (Nat.le_of_ble_eq_true rfl) d_F_isRecord_22 ?_
    refine z_st (stn := [.int (bI (pkey ((zf_e F) (1))))]) rfl ?_
    refine z_ifB_eq (tgt := 52) C0 d_F_isRecord_25 (by decide) (fun (c25_2 : pkey ((zf_e F) (1)) = false) => ?_) (fun (c25_2 : pkey ((zf_e F) (1)) = true) => ?_)
    · skip
      refine z_iconst (v := nI 0) C0 d_F_isRecord_52 (by decide) ?_
      refine z_topi (x := nI 0) (xn := bI false) (by decide) ?_
      exact z_zret C0 hA hQ hr d_F_isRecord_53 (⟨by simp [prec, c13_1, c25_2], rfl⟩)
    · skip
      refine z_aload_n C0 d_F_isRecord_28 rfl 0 rfl ?_
      refine z_get C0 gf_F_9 0 rfl rfl d_F_isRecord_29 ?_
      refine z_iconst (v := nI 3) C0 d_F_isRecord_32 (by decide) ?_
      refine z_iald C0 2 rfl (by omega) (by omega) d_F_isRecord_33 ?_
      refine z_iconst (v := nI 1) C0 d_F_isRecord_34 (by decide) ?_
      refine z_topi (x := nI 1) (xn := 1) (by decide) ?_
      refine z_icmp_eq (tgt := 48) C0 d_F_isRecord_35 (by decide) (fun (c35_3 : ((zf_e F) (3)) = 1) => ?_) (fun (c35_3 : ¬ ((zf_e F) (3)) = 1) => ?_)
      · skip
        refine z_iconst (v := nI 1) C0 d_F_isRecord_48 (by decide) ?_
        refine z_gotoK (tgt := 53) C0 d_F_isRecord_49 (by decide) ?_
        refine z_topi (x := nI 1) (xn := bI true) (by decide) ?_
        exact z_zret C0 hA hQ hr d_F_isRecord_53 (⟨by simp [prec, c13_1, c25_2, c35_3], rfl⟩)
      · skip
        refine z_aload_n C0 d_F_isRecord_38 rfl 0 rfl ?_
        refine z_get C0 gf_F_9 0 rfl rfl d_F_isRecord_39 ?_
        refine z_iconst (v := nI 3) C0 d_F_isRecord_42 (by decide) ?_
        refine z_iald C0 2 rfl (by omega) (by omega) d_F_isRecord_43 ?_
        refine z_iconst (v := nI 2) C0 d_F_isRecord_44 (by decide) ?_
        refine z_topi (x := nI 2) (xn := 2) (by decide) ?_
        refine z_icmp_ne (tgt := 52) C0 d_F_isRecord_45 (by decide) (fun (c45_4 : ¬ ((zf_e F) (3)) = 2) => ?_) (fun (c45_4 : ((zf_e F) (3)) = 2) => ?_)
        · skip
          refine z_iconst (v := nI 0) C0 d_F_isRecord_52 (by decide) ?_
          refine z_topi (x := nI 0) (xn := bI false) (by decide) ?_
          exact z_zret C0 hA hQ hr d_F_isRecord_53 (⟨by simp [prec, c13_1, c25_2, c35_3, c45_4], rfl⟩)
        · skip
          refine z_iconst (v := nI 1) C0 d_F_isRecord_48 (by decide) ?_
          refine z_gotoK (tgt := 53) C0 d_F_isRecord_49 (by decide) ?_
          refine z_topi (x := nI 1) (xn := bI true) (by decide) ?_
          exact z_zret C0 hA hQ hr d_F_isRecord_53 (⟨by simp [prec, c13_1, c25_2, c35_3, c45_4], rfl⟩)
