set_option maxHeartbeats 4000000 in
set_option maxRecDepth 100000 in
theorem c_S_powerUp (l : Launch) (D : va_G) (cI cZ : ClassId) (x : Nat → Nat) (bc bp : Nat) (S : zs_S) (hB : zb_ok bc bp)   : zc_Con l y_S_powerUp b_S_powerUp 1 none { frames := 0, cells := 0, slots := 0, locals := 0 } D cI cZ [.ref (x 0)] (zs_W cI cZ x bc bp S) (zo none (zs_W cI cZ x bc bp (ss_up S))) := by
  refine zc_start (by decide) (Nat.le_of_ble_eq_true rfl) ?_
  intro p e s m args below meth c A Q hA hQ C0 hr hin
  have C0 : zc_Cx p s m args meth c b_S_powerUp 1 R_S D cI cZ A := C0
  have hB0 := hB
  obtain ⟨hB1, hB2, hB3, hB4⟩ := hB
  have hN : bc * bp ≤ 20 := Nat.mul_le_mul hB2 hB4
  refine z_lvs (lvn := [(0, .ref (x 0))]) rfl ?_
  refine z_aload_n C0 d_S_powerUp_0 rfl 0 rfl ?_
  refine z_iconst (v := nI 0) C0 d_S_powerUp_1 (by decide) ?_
  refine z_topi (x := nI 0) (xn := bI false) (by decide) ?_
  refine z_put C0 gf_S_119 pf_S_3 0 rfl (bI_nar _) (bI_fit _) (Nat.le_of_ble_eq_true rfl) d_S_powerUp_2 ?_
  refine z_aload_n C0 d_S_powerUp_5 rfl 0 rfl ?_
  refine z_iconst (v := nI 0) C0 d_S_powerUp_6 (by decide) ?_
  refine z_topi (x := nI 0) (xn := bI false) (by decide) ?_
  refine z_put C0 gf_S_113 pf_S_4 0 rfl (bI_nar _) (bI_fit _) (Nat.le_of_ble_eq_true rfl) d_S_powerUp_7 ?_
  refine z_aload_n C0 d_S_powerUp_10 rfl 0 rfl ?_
  refine z_iconst (v := 0) C0 d_S_powerUp_11 (by decide) ?_
  refine z_put C0 gf_S_116 pf_S_5 0 rfl rfl rfl (Nat.le_of_ble_eq_true rfl) d_S_powerUp_12 ?_
  refine z_ws (wsn := zs_W cI cZ x bc bp ((ss_F S), (ss_L S), ss_r S, false, false, 0, ss_d S)) rfl ?_
  exact z_vret C0 hA hQ hr d_S_powerUp_15 (⟨rfl, rfl⟩)

set_option maxHeartbeats 4000000 in
set_option maxRecDepth 100000 in
theorem c_S_mayAct (l : Launch) (D : va_G) (cI cZ : ClassId) (x : Nat → Nat) (bc bp : Nat) (S : zs_S) (hB : zb_ok bc bp)   : zc_Con l y_S_mayAct b_S_mayAct 1 (some .boolean) { frames := 0, cells := 0, slots := 0, locals := 0 } D cI cZ [.ref (x 0)] (zs_W cI cZ x bc bp S) (zo (some (.int (bI ((ss_may S).1)))) (zs_W cI cZ x bc bp ((ss_F S, ss_L S, ss_r (ss_may S).2, ss_f (ss_may S).2, ss_a S, ss_n (ss_may S).2, ss_d (ss_may S).2)))) := by
  refine zc_start (by decide) (Nat.le_of_ble_eq_true rfl) ?_
  intro p e s m args below meth c A Q hA hQ C0 hr hin
  have C0 : zc_Cx p s m args meth c b_S_mayAct 1 R_S D cI cZ A := C0
  have hB0 := hB
  obtain ⟨hB1, hB2, hB3, hB4⟩ := hB
  have hN : bc * bp ≤ 20 := Nat.mul_le_mul hB2 hB4
  refine z_lvs (lvn := [(0, .ref (x 0))]) rfl ?_
  refine z_aload_n C0 d_S_mayAct_0 rfl 0 rfl ?_
  refine z_get C0 gf_S_113 0 rfl rfl d_S_mayAct_1 ?_
  refine z_ifB_eq (tgt := 26) C0 d_S_mayAct_4 (by decide) (fun (c4_1 : ss_a S = false) => ?_) (fun (c4_1 : ss_a S = true) => ?_)
  · skip
    refine z_aload_n C0 d_S_mayAct_26 rfl 0 rfl ?_
    refine z_get C0 gf_S_113 0 rfl rfl d_S_mayAct_27 ?_
    refine z_ifB_eq (tgt := 43) C0 d_S_mayAct_30 (by decide) (fun (c30_2 : ss_a S = false) => ?_) (fun (c30_2 : ss_a S = true) => ?_)
    · skip
      refine z_aload_n C0 d_S_mayAct_43 rfl 0 rfl ?_
      refine z_dup C0 d_S_mayAct_44 rfl ?_
      refine z_get C0 gf_S_137 0 rfl rfl d_S_mayAct_45 ?_
      refine z_iconst (v := 1) C0 d_S_mayAct_48 (by decide) ?_
      refine z_iadd C0 d_S_mayAct_49 ?_
      refine z_put C0 gf_S_137 pf_S_6 0 rfl rfl rfl (Nat.le_of_ble_eq_true rfl) d_S_mayAct_50 ?_
      refine z_iconst (v := nI 1) C0 d_S_mayAct_53 (by decide) ?_
      refine z_ws (wsn := zs_W cI cZ x bc bp ((ss_F S), (ss_L S), ss_r S, ss_f S, ss_a S, ss_n S, (ss_d S) + 1)) rfl ?_
      refine z_topi (x := nI 1) (xn := bI true) (by decide) ?_
      exact z_zret C0 hA hQ hr d_S_mayAct_54 (by rw [← ss_mayE, show ss_may S = (true, (ss_F S, ss_L S, ss_r S, ss_f S, ss_a S, (if ss_a S = true then ss_n S - 1 else ss_n S), ss_d S + 1)) from if_neg (fun z => absurd (z.1.symm.trans c4_1) (by decide))]; rw [if_neg (by rw [c4_1]; decide)]; exact ⟨rfl, rfl⟩)
    · exact absurd (c30_2.symm.trans c4_1) (by decide)
  · skip
    refine z_aload_n C0 d_S_mayAct_7 rfl 0 rfl ?_
    refine z_get C0 gf_S_116 0 rfl rfl d_S_mayAct_8 ?_
    refine z_if_ne (tgt := 26) C0 d_S_mayAct_11 (by decide) (fun (c11_3 : ¬ ss_n S = 0) => ?_) (fun (c11_3 : ss_n S = 0) => ?_)
    · skip
      refine z_aload_n C0 d_S_mayAct_26 rfl 0 rfl ?_
      refine z_get C0 gf_S_113 0 rfl rfl d_S_mayAct_27 ?_
      refine z_ifB_eq (tgt := 43) C0 d_S_mayAct_30 (by decide) (fun (c30_4 : ss_a S = false) => ?_) (fun (c30_4 : ss_a S = true) => ?_)
      · exact absurd (c30_4.symm.trans c4_1) (by decide)
      · skip
        refine z_aload_n C0 d_S_mayAct_33 rfl 0 rfl ?_
        refine z_dup C0 d_S_mayAct_34 rfl ?_
        refine z_get C0 gf_S_116 0 rfl rfl d_S_mayAct_35 ?_
        refine z_iconst (v := 1) C0 d_S_mayAct_38 (by decide) ?_
        refine z_isub C0 d_S_mayAct_39 ?_
        refine z_put C0 gf_S_116 pf_S_5 0 rfl rfl rfl (Nat.le_of_ble_eq_true rfl) d_S_mayAct_40 ?_
        refine z_aload_n C0 d_S_mayAct_43 rfl 0 rfl ?_
        refine z_dup C0 d_S_mayAct_44 rfl ?_
        refine z_get C0 gf_S_137 0 rfl rfl d_S_mayAct_45 ?_
        refine z_iconst (v := 1) C0 d_S_mayAct_48 (by decide) ?_
        refine z_iadd C0 d_S_mayAct_49 ?_
        refine z_put C0 gf_S_137 pf_S_6 0 rfl rfl rfl (Nat.le_of_ble_eq_true rfl) d_S_mayAct_50 ?_
        refine z_iconst (v := nI 1) C0 d_S_mayAct_53 (by decide) ?_
        refine z_ws (wsn := zs_W cI cZ x bc bp ((ss_F S), (ss_L S), ss_r S, ss_f S, ss_a S, (ss_n S) - 1, (ss_d S) + 1)) rfl ?_
        refine z_topi (x := nI 1) (xn := bI true) (by decide) ?_
        exact z_zret C0 hA hQ hr d_S_mayAct_54 (by rw [← ss_mayE, show ss_may S = (true, (ss_F S, ss_L S, ss_r S, ss_f S, ss_a S, (if ss_a S = true then ss_n S - 1 else ss_n S), ss_d S + 1)) from if_neg (fun z => c11_3 z.2)]; rw [if_pos c4_1]; exact ⟨rfl, rfl⟩)
    · skip
      refine z_aload_n C0 d_S_mayAct_14 rfl 0 rfl ?_
      refine z_iconst (v := nI 1) C0 d_S_mayAct_15 (by decide) ?_
      refine z_topi (x := nI 1) (xn := bI true) (by decide) ?_
      refine z_put C0 gf_S_119 pf_S_3 0 rfl (bI_nar _) (bI_fit _) (Nat.le_of_ble_eq_true rfl) d_S_mayAct_16 ?_
      refine z_aload_n C0 d_S_mayAct_19 rfl 0 rfl ?_
      refine z_iconst (v := nI 0) C0 d_S_mayAct_20 (by decide) ?_
      refine z_topi (x := nI 0) (xn := bI false) (by decide) ?_
      refine z_put C0 gf_S_52 pf_S_2 0 rfl (bI_nar _) (bI_fit _) (Nat.le_of_ble_eq_true rfl) d_S_mayAct_21 ?_
      refine z_iconst (v := nI 0) C0 d_S_mayAct_24 (by decide) ?_
      refine z_ws (wsn := zs_W cI cZ x bc bp ((ss_F S), (ss_L S), false, true, ss_a S, ss_n S, ss_d S)) rfl ?_
      refine z_topi (x := nI 0) (xn := bI false) (by decide) ?_
      exact z_zret C0 hA hQ hr d_S_mayAct_25 (by rw [← ss_mayE, show ss_may S = (false, (ss_F S, ss_L S, false, true, ss_a S, ss_n S, ss_d S)) from if_pos ⟨c4_1, c11_3⟩]; exact ⟨rfl, rfl⟩)

set_option maxHeartbeats 4000000 in
set_option maxRecDepth 100000 in
theorem c_S_init (l : Launch) (D : va_G) (cI cZ : ClassId) (x : Nat → Nat) (bc bp : Nat) (S : zs_S) (hB : zb_ok bc bp)   : zc_Con l y_S_init b_S_init 1 none { frames := 3, cells := 0, slots := 0, locals := 108 } D cI cZ [.ref (x 0)] (zs_W cI cZ x bc bp S) (zo none (zs_W cI cZ x bc bp (ss_init bc bp S))) := by
  refine zc_start (by decide) (Nat.le_of_ble_eq_true rfl) ?_
  intro p e s m args below meth c A Q hA hQ C0 hr hin
  have C0 : zc_Cx p s m args meth c b_S_init 1 R_S D cI cZ A := C0
  have hB0 := hB
  obtain ⟨hB1, hB2, hB3, hB4⟩ := hB
  have hN : bc * bp ≤ 20 := Nat.mul_le_mul hB2 hB4
  refine z_lvs (lvn := [(0, .ref (x 0))]) rfl ?_
  refine z_aload_n C0 d_S_init_0 rfl 0 rfl ?_
  refine z_allV (As := []) (rest := []) C0 (c_S_powerUp l D cI cZ x bc bp S hB0  ) mt_S_powerUp ml_S_39 vt_S_powerUp rfl rfl ⟨Nat.le_of_ble_eq_true rfl, Nat.le_of_ble_eq_true rfl⟩ ⟨rfl, rfl⟩ ⟨Nat.zero_le _, Nat.zero_le _⟩ rfl rfl (Nat.le_of_ble_eq_true rfl) d_S_init_1 ?_
  refine z_st (stn := []) rfl ?_
  refine z_aload_n C0 d_S_init_4 rfl 0 rfl ?_
  refine z_get C0 gf_S_23 0 rfl rfl d_S_init_5 ?_
  refine z_iconst (v := nI 0) C0 d_S_init_8 (by decide) ?_
  refine z_aload_n C0 d_S_init_9 rfl 0 rfl ?_
  refine z_get C0 gf_S_23 0 rfl rfl d_S_init_10 ?_
  refine z_get C0 gf_S_42 1 rfl rfl d_S_init_13 ?_
  refine z_detV (As := [.int (nI (0)), .int (nI (bc * bp))]) (rest := []) (wsn := zs_W cI cZ x bc bp ((sf_eps (sf_er (zf_e (ss_F (ss_up S)))) ((bc * bp) - 0) 0 (zf_c (ss_F (ss_up S))), sf_er (zf_e (ss_F (ss_up S)))), (ss_L (ss_up S)), ss_r (ss_up S), ss_f (ss_up S), ss_a (ss_up S), ss_n (ss_up S), ss_d (ss_up S))) C0 (c_F_erasePages l D cI cZ x bc bp (ss_F (ss_up S)) hB0 (0) (bc * bp) (Nat.zero_le _) (Nat.le_refl _)) mt_F_erasePages ml_S_46 vt_F_erasePages rfl rfl ⟨Nat.le_of_ble_eq_true rfl, Nat.le_of_ble_eq_true rfl⟩ ⟨rfl, rfl⟩ ⟨Nat.zero_le _, Nat.zero_le _⟩ rfl [1, 2, 3, 4, 5, 6] [0, 7, 8, 9, 10, 11, 12] [0, 7, 8, 9, 10, 11, 12, 1, 2, 3, 4, 5, 6] rfl (by decide) (wr := [(x 0, .inr (0, [.ref (x 1), .ref (x 7), .int (bI (ss_r (ss_up S))), .int (bI (ss_f (ss_up S))), .int (bI (ss_a (ss_up S))), .int (ss_n (ss_up S)), .int (ss_d (ss_up S))])), (x 7, .inr (3, [.int (nI (bc)), .int (nI (bp)), .ref (x 8), .ref (x 9), .ref (x 10), .ref (x 11), .int (oN (zl_h (ss_L (ss_up S)))), .int (zl_x (ss_L (ss_up S))), .int (nI (bc * bp)), .ref (x 12)])), (x 8, .inl (cI, bc * bp, .inl (zl_s (ss_L (ss_up S))))), (x 9, .inl (cI, bc * bp, .inl (zl_k (ss_L (ss_up S))))), (x 10, .inl (cI, bc * bp, .inl (zl_d (ss_L (ss_up S))))), (x 11, .inl (cZ, bc * bp, .inl (bF (zl_m (ss_L (ss_up S)))))), (x 12, .inl (cZ, bc * bp, .inl (bF (zl_w (ss_L (ss_up S))))))]) rfl (by decide) (by decide) rfl (by decide) rfl (Nat.le_of_ble_eq_true rfl) d_S_init_16 ?_
  refine z_st (stn := []) rfl ?_
  refine z_aload_n C0 d_S_init_19 rfl 0 rfl ?_
  refine z_get C0 gf_S_32 0 rfl rfl d_S_init_20 ?_
  refine z_detV (As := []) (rest := []) (wsn := zs_W cI cZ x bc bp ((sf_eps (sf_er (zf_e (ss_F (ss_up S)))) ((bc * bp) - 0) 0 (zf_c (ss_F (ss_up S))), sf_er (zf_e (ss_F (ss_up S)))), (sl_all bc bp (ss_L (ss_up S))), ss_r (ss_up S), ss_f (ss_up S), ss_a (ss_up S), ss_n (ss_up S), ss_d (ss_up S))) C0 (c_L_forgetAll l D cI cZ x bc bp (ss_L (ss_up S)) hB0  ) mt_L_forgetAll ml_S_49 vt_L_forgetAll rfl rfl ⟨Nat.le_of_ble_eq_true rfl, Nat.le_of_ble_eq_true rfl⟩ ⟨rfl, rfl⟩ ⟨Nat.zero_le _, Nat.zero_le _⟩ rfl [7, 8, 9, 10, 11, 12] [0, 1, 2, 3, 4, 5, 6] [0, 1, 2, 3, 4, 5, 6, 7, 8, 9, 10, 11, 12] rfl (by decide) (wr := [(x 0, .inr (0, [.ref (x 1), .ref (x 7), .int (bI (ss_r (ss_up S))), .int (bI (ss_f (ss_up S))), .int (bI (ss_a (ss_up S))), .int (ss_n (ss_up S)), .int (ss_d (ss_up S))])), (x 1, .inr (1, [.int (nI (bc * bp)), .ref (x 6), .ref (x 2), .ref (x 3)])), (x 6, .inl (cI, bc * bp * 6, .inl (sf_eps (sf_er (zf_e (ss_F (ss_up S)))) ((bc * bp) - 0) 0 (zf_c (ss_F (ss_up S)))))), (x 2, .inl (cI, 6, .inl (sf_er (zf_e (ss_F (ss_up S)))))), (x 3, .inr (2, [.ref (x 4), .ref (x 5)])), (x 4, .inl (cI, 178, .inl (zk_R))), (x 5, .inl (cI, 512, .inl (zk_B)))]) rfl (by decide) (by decide) rfl (by decide) rfl (Nat.le_of_ble_eq_true rfl) d_S_init_23 ?_
  refine z_st (stn := []) rfl ?_
  refine z_aload_n C0 d_S_init_26 rfl 0 rfl ?_
  refine z_iconst (v := nI 1) C0 d_S_init_27 (by decide) ?_
  refine z_topi (x := nI 1) (xn := bI true) (by decide) ?_
  refine z_put C0 gf_S_52 pf_S_2 0 rfl (bI_nar _) (bI_fit _) (Nat.le_of_ble_eq_true rfl) d_S_init_28 ?_
  refine z_ws (wsn := zs_W cI cZ x bc bp ((sf_eps (sf_er (zf_e (ss_F (ss_up S)))) ((bc * bp) - 0) 0 (zf_c (ss_F (ss_up S))), sf_er (zf_e (ss_F (ss_up S)))), (sl_all bc bp (ss_L (ss_up S))), true, ss_f (ss_up S), ss_a (ss_up S), ss_n (ss_up S), ss_d (ss_up S))) rfl ?_
  exact z_vret C0 hA hQ hr d_S_init_31 (⟨rfl, rfl⟩)

set_option maxHeartbeats 4000000 in
set_option maxRecDepth 100000 in
theorem c_S_writeToHead (l : Launch) (D : va_G) (cI cZ : ClassId) (x : Nat → Nat) (bc bp : Nat) (S : zs_S) (hB : zb_ok bc bp) (sv : Int32) (kv : Int32) (dv : Int32) (hh : zh_ok bc (zl_h (ss_L S))) : zc_Con l y_S_writeToHead b_S_writeToHead 5 (some .int) { frames := 2, cells := 0, slots := 0, locals := 85 } D cI cZ [.ref (x 0), .int (sv), .int (kv), .int (dv)] (zs_W cI cZ x bc bp S) (zo (some (.int ((ss_wr bp S sv kv dv).1))) (zs_W cI cZ x bc bp ((ss_wr bp S sv kv dv).2))) := by
  refine zc_start (by decide) (Nat.le_of_ble_eq_true rfl) ?_
  intro p e s m args below meth c A Q hA hQ C0 hr hin
  have C0 : zc_Cx p s m args meth c b_S_writeToHead 5 R_S D cI cZ A := C0
  have hB0 := hB
  obtain ⟨hB1, hB2, hB3, hB4⟩ := hB
  have hN : bc * bp ≤ 20 := Nat.mul_le_mul hB2 hB4
  refine z_lvs (lvn := [(0, .ref (x 0)), (1, .int (sv)), (2, .int (kv)), (3, .int (dv))]) rfl ?_
  refine z_aload_n C0 d_S_writeToHead_0 rfl 0 rfl ?_
  refine z_get C0 gf_S_32 0 rfl rfl d_S_writeToHead_1 ?_
  refine z_detV (As := []) (rest := []) (wsn := zs_W cI cZ x bc bp S) C0 (c_L_headGap l D cI cZ x bc bp (ss_L S) hB0  (hh)) mt_L_headGap ml_S_181 vt_L_headGap rfl rfl ⟨Nat.le_of_ble_eq_true rfl, Nat.le_of_ble_eq_true rfl⟩ ⟨rfl, rfl⟩ ⟨Nat.zero_le _, Nat.zero_le _⟩ rfl [7, 8, 9, 10, 11, 12] [0, 1, 2, 3, 4, 5, 6] [0, 1, 2, 3, 4, 5, 6, 7, 8, 9, 10, 11, 12] rfl (by decide) (wr := [(x 0, .inr (0, [.ref (x 1), .ref (x 7), .int (bI (ss_r S)), .int (bI (ss_f S)), .int (bI (ss_a S)), .int (ss_n S), .int (ss_d S)])), (x 1, .inr (1, [.int (nI (bc * bp)), .ref (x 6), .ref (x 2), .ref (x 3)])), (x 6, .inl (cI, bc * bp * 6, .inl (zf_c (ss_F S)))), (x 2, .inl (cI, 6, .inl (zf_e (ss_F S)))), (x 3, .inr (2, [.ref (x 4), .ref (x 5)])), (x 4, .inl (cI, 178, .inl (zk_R))), (x 5, .inl (cI, 512, .inl (zk_B)))]) rfl (by decide) (by decide) rfl (by decide) rfl (Nat.le_of_ble_eq_true rfl) d_S_writeToHead_4 ?_
  refine z_st (stn := [.int (oN (sl_hg bp (zl_w (ss_L S)) (zl_h (ss_L S))))]) rfl ?_
  refine z_istore (lvn := [(0, .ref (x 0)), (1, .int (sv)), (2, .int (kv)), (3, .int (dv)), (4, .int (oN (sl_hg bp (zl_w (ss_L S)) (zl_h (ss_L S)))))]) C0 d_S_writeToHead_7 (by decide) [1, 2, 3, 4, 0] rfl ?_
  refine z_iload C0 d_S_writeToHead_9 4 rfl ?_
  refine z_iconst (v := -1) C0 d_S_writeToHead_11 (by decide) ?_
  rcases e12_1 : sl_hg bp (zl_w (ss_L S)) (zl_h (ss_L S)) with _ | g12_2
  · refine z_st (stn := [.int (-1), .int (-1)]) (by first | rfl | (rw [e12_1]; rfl)) ?_
    refine z_lvs (lvn := [(0, .ref (x 0)), (1, .int (sv)), (2, .int (kv)), (3, .int (dv)), (4, .int (-1))]) (by first | rfl | (rw [e12_1]; rfl)) ?_
    refine z_icmp_ne (tgt := 17) C0 d_S_writeToHead_12 (by decide) (fun c12_3 => ?_) (fun c12_3 => ?_)
    · exact absurd rfl c12_3
    · skip
      refine z_iconst (v := -1) C0 d_S_writeToHead_15 (by decide) ?_
      exact z_iret C0 hA hQ hr d_S_writeToHead_16 (by rw [show ss_wr bp S sv kv dv = (-1, S) from (by unfold ss_wr; rw [e12_1]; rfl)]; exact ⟨rfl, rfl⟩)
  · refine z_st (stn := [.int (-1), .int (nI (g12_2))]) (by first | rfl | (rw [e12_1]; rfl)) ?_
    refine z_lvs (lvn := [(0, .ref (x 0)), (1, .int (sv)), (2, .int (kv)), (3, .int (dv)), (4, .int (nI (g12_2)))]) (by first | rfl | (rw [e12_1]; rfl)) ?_
    have hg12 := zq_hgLt hh e12_1
    refine z_icmp_ne (tgt := 17) C0 d_S_writeToHead_12 (by decide) (fun c12_4 => ?_) (fun c12_4 => ?_)
    · skip
      refine z_aload_n C0 d_S_writeToHead_17 rfl 0 rfl ?_
      refine z_allV (As := []) (rest := []) C0 (c_S_mayAct l D cI cZ x bc bp S hB0  ) mt_S_mayAct ml_S_107 vt_S_mayAct rfl rfl ⟨Nat.le_of_ble_eq_true rfl, Nat.le_of_ble_eq_true rfl⟩ ⟨rfl, rfl⟩ ⟨Nat.zero_le _, Nat.zero_le _⟩ rfl rfl (Nat.le_of_ble_eq_true rfl) d_S_writeToHead_18 ?_
      refine z_st (stn := [.int (bI ((ss_may S).1))]) rfl ?_
      refine z_ifB_ne (tgt := 27) C0 d_S_writeToHead_21 (by decide) (fun (c21_5 : (ss_may S).1 = true) => ?_) (fun (c21_5 : (ss_may S).1 = false) => ?_)
      · skip
        refine z_aload_n C0 d_S_writeToHead_27 rfl 0 rfl ?_
        refine z_get C0 gf_S_23 0 rfl rfl d_S_writeToHead_28 ?_
        refine z_iload C0 d_S_writeToHead_31 4 rfl ?_
        refine z_detV (As := [.int (nI (g12_2))]) (rest := []) (wsn := zs_W cI cZ x bc bp ((sf_put (zf_c (ss_F S)) (zf_e (ss_F S)) g12_2, zf_e (ss_F S)), (ss_L S), ss_r (ss_may S).2, ss_f (ss_may S).2, ss_a S, ss_n (ss_may S).2, ss_d (ss_may S).2)) C0 (c_F_writeSeen l D cI cZ x bc bp (ss_F S) hB0 (g12_2) (by omega)) mt_F_writeSeen ml_S_110 vt_F_writeSeen rfl rfl ⟨Nat.le_of_ble_eq_true rfl, Nat.le_of_ble_eq_true rfl⟩ ⟨rfl, rfl⟩ ⟨Nat.zero_le _, Nat.zero_le _⟩ rfl [1, 2, 3, 4, 5, 6] [0, 7, 8, 9, 10, 11, 12] [0, 7, 8, 9, 10, 11, 12, 1, 2, 3, 4, 5, 6] rfl (by decide) (wr := [(x 0, .inr (0, [.ref (x 1), .ref (x 7), .int (bI (ss_r (ss_may S).2)), .int (bI (ss_f (ss_may S).2)), .int (bI (ss_a S)), .int (ss_n (ss_may S).2), .int (ss_d (ss_may S).2)])), (x 7, .inr (3, [.int (nI (bc)), .int (nI (bp)), .ref (x 8), .ref (x 9), .ref (x 10), .ref (x 11), .int (oN (zl_h (ss_L S))), .int (zl_x (ss_L S)), .int (nI (bc * bp)), .ref (x 12)])), (x 8, .inl (cI, bc * bp, .inl (zl_s (ss_L S)))), (x 9, .inl (cI, bc * bp, .inl (zl_k (ss_L S)))), (x 10, .inl (cI, bc * bp, .inl (zl_d (ss_L S)))), (x 11, .inl (cZ, bc * bp, .inl (bF (zl_m (ss_L S))))), (x 12, .inl (cZ, bc * bp, .inl (bF (zl_w (ss_L S)))))]) rfl (by decide) (by decide) rfl (by decide) rfl (Nat.le_of_ble_eq_true rfl) d_S_writeToHead_33 ?_
        refine z_st (stn := []) rfl ?_
        refine z_aload_n C0 d_S_writeToHead_36 rfl 0 rfl ?_
        refine z_get C0 gf_S_32 0 rfl rfl d_S_writeToHead_37 ?_
        refine z_iload C0 d_S_writeToHead_40 4 rfl ?_
        refine z_iload_n C0 d_S_writeToHead_42 rfl 1 rfl ?_
        refine z_iload_n C0 d_S_writeToHead_43 rfl 2 rfl ?_
        refine z_iload_n C0 d_S_writeToHead_44 rfl 3 rfl ?_
        refine z_detV (As := [.int (nI (g12_2)), .int (sv), .int (kv), .int (dv)]) (rest := []) (wsn := zs_W cI cZ x bc bp ((sf_put (zf_c (ss_F S)) (zf_e (ss_F S)) g12_2, zf_e (ss_F S)), (sl_know (ss_L S) g12_2 sv kv dv), ss_r (ss_may S).2, ss_f (ss_may S).2, ss_a S, ss_n (ss_may S).2, ss_d (ss_may S).2)) C0 (c_L_know l D cI cZ x bc bp (ss_L S) hB0 (g12_2) (sv) (kv) (dv) (by omega)) mt_L_know ml_S_140 vt_L_know rfl rfl ⟨Nat.le_of_ble_eq_true rfl, Nat.le_of_ble_eq_true rfl⟩ ⟨rfl, rfl⟩ ⟨Nat.zero_le _, Nat.zero_le _⟩ rfl [7, 8, 9, 10, 11, 12] [0, 1, 2, 3, 4, 5, 6] [0, 1, 2, 3, 4, 5, 6, 7, 8, 9, 10, 11, 12] rfl (by decide) (wr := [(x 0, .inr (0, [.ref (x 1), .ref (x 7), .int (bI (ss_r (ss_may S).2)), .int (bI (ss_f (ss_may S).2)), .int (bI (ss_a S)), .int (ss_n (ss_may S).2), .int (ss_d (ss_may S).2)])), (x 1, .inr (1, [.int (nI (bc * bp)), .ref (x 6), .ref (x 2), .ref (x 3)])), (x 6, .inl (cI, bc * bp * 6, .inl (sf_put (zf_c (ss_F S)) (zf_e (ss_F S)) g12_2))), (x 2, .inl (cI, 6, .inl (zf_e (ss_F S)))), (x 3, .inr (2, [.ref (x 4), .ref (x 5)])), (x 4, .inl (cI, 178, .inl (zk_R))), (x 5, .inl (cI, 512, .inl (zk_B)))]) rfl (by decide) (by decide) rfl (by decide) rfl (Nat.le_of_ble_eq_true rfl) d_S_writeToHead_45 ?_
        refine z_st (stn := []) rfl ?_
        refine z_iconst (v := 0) C0 d_S_writeToHead_48 (by decide) ?_
        exact z_iret C0 hA hQ hr d_S_writeToHead_49 (by rw [show ss_wr bp S sv kv dv = ss_wr2 g12_2 sv kv dv (true, (ss_F S, ss_L S, ss_r (ss_may S).2, ss_f (ss_may S).2, ss_a S, ss_n (ss_may S).2, ss_d (ss_may S).2)) from (by unfold ss_wr; rw [e12_1]; show ss_wr2 _ _ _ _ (ss_may S) = _; rw [← ss_mayE, ← c21_5])]; exact ⟨rfl, rfl⟩)
      · skip
        refine z_bipush (v := -2) C0 d_S_writeToHead_24 (by decide) ?_
        exact z_iret C0 hA hQ hr d_S_writeToHead_26 (by rw [show ss_wr bp S sv kv dv = (-2, (ss_may S).2) from (by unfold ss_wr; rw [e12_1]; show ss_wr2 _ _ _ _ (ss_may S) = _; rw [show ss_may S = (false, (ss_may S).2) from by rw [← c21_5]]; rfl), ss_mayE]; exact ⟨rfl, rfl⟩)
    · exact absurd c12_4 (nI_m1 (by omega))

set_option maxHeartbeats 4000000 in
set_option maxRecDepth 100000 in
theorem c_S_crashed (l : Launch) (D : va_G) (cI cZ : ClassId) (x : Nat → Nat) (bc bp : Nat) (S : zs_S) (hB : zb_ok bc bp)   : zc_Con l y_S_crashed b_S_crashed 1 (some .boolean) { frames := 0, cells := 0, slots := 0, locals := 0 } D cI cZ [.ref (x 0)] (zs_W cI cZ x bc bp S) (zo (some (.int (bI (ss_f S)))) (zs_W cI cZ x bc bp S)) := by
  refine zc_start (by decide) (Nat.le_of_ble_eq_true rfl) ?_
  intro p e s m args below meth c A Q hA hQ C0 hr hin
  have C0 : zc_Cx p s m args meth c b_S_crashed 1 R_S D cI cZ A := C0
  have hB0 := hB
  obtain ⟨hB1, hB2, hB3, hB4⟩ := hB
  have hN : bc * bp ≤ 20 := Nat.mul_le_mul hB2 hB4
  refine z_lvs (lvn := [(0, .ref (x 0))]) rfl ?_
  refine z_aload_n C0 d_S_crashed_0 rfl 0 rfl ?_
  refine z_get C0 gf_S_119 0 rfl rfl d_S_crashed_1 ?_
  exact z_zret C0 hA hQ hr d_S_crashed_4 (⟨rfl, rfl⟩)

set_option maxHeartbeats 4000000 in
set_option maxRecDepth 100000 in
theorem c_S_acts (l : Launch) (D : va_G) (cI cZ : ClassId) (x : Nat → Nat) (bc bp : Nat) (S : zs_S) (hB : zb_ok bc bp)   : zc_Con l y_S_acts b_S_acts 1 (some .int) { frames := 0, cells := 0, slots := 0, locals := 0 } D cI cZ [.ref (x 0)] (zs_W cI cZ x bc bp S) (zo (some (.int (ss_d S))) (zs_W cI cZ x bc bp S)) := by
  refine zc_start (by decide) (Nat.le_of_ble_eq_true rfl) ?_
  intro p e s m args below meth c A Q hA hQ C0 hr hin
  have C0 : zc_Cx p s m args meth c b_S_acts 1 R_S D cI cZ A := C0
  have hB0 := hB
  obtain ⟨hB1, hB2, hB3, hB4⟩ := hB
  have hN : bc * bp ≤ 20 := Nat.mul_le_mul hB2 hB4
  refine z_lvs (lvn := [(0, .ref (x 0))]) rfl ?_
  refine z_aload_n C0 d_S_acts_0 rfl 0 rfl ?_
  refine z_get C0 gf_S_137 0 rfl rfl d_S_acts_1 ?_
  exact z_iret C0 hA hQ hr d_S_acts_4 (⟨rfl, rfl⟩)

set_option maxHeartbeats 4000000 in
set_option maxRecDepth 100000 in
theorem c_S_arm (l : Launch) (D : va_G) (cI cZ : ClassId) (x : Nat → Nat) (bc bp : Nat) (S : zs_S) (hB : zb_ok bc bp) (nv : Int32)  : zc_Con l y_S_arm b_S_arm 2 (some .boolean) { frames := 0, cells := 0, slots := 0, locals := 0 } D cI cZ [.ref (x 0), .int (nv)] (zs_W cI cZ x bc bp S) (zo (some (.int (bI ((ss_arm S nv).1)))) (zs_W cI cZ x bc bp ((ss_arm S nv).2))) := by
  refine zc_start (by decide) (Nat.le_of_ble_eq_true rfl) ?_
  intro p e s m args below meth c A Q hA hQ C0 hr hin
  have C0 : zc_Cx p s m args meth c b_S_arm 2 R_S D cI cZ A := C0
  have hB0 := hB
  obtain ⟨hB1, hB2, hB3, hB4⟩ := hB
  have hN : bc * bp ≤ 20 := Nat.mul_le_mul hB2 hB4
  refine z_lvs (lvn := [(0, .ref (x 0)), (1, .int (nv))]) rfl ?_
  refine z_iload_n C0 d_S_arm_0 rfl 1 rfl ?_
  refine z_if_ge (tgt := 6) C0 d_S_arm_1 (by decide) (fun c1_1 => ?_) (fun c1_1 => ?_)
  · skip
    refine z_aload_n C0 d_S_arm_6 rfl 0 rfl ?_
    refine z_iconst (v := nI 1) C0 d_S_arm_7 (by decide) ?_
    refine z_topi (x := nI 1) (xn := bI true) (by decide) ?_
    refine z_put C0 gf_S_113 pf_S_4 0 rfl (bI_nar _) (bI_fit _) (Nat.le_of_ble_eq_true rfl) d_S_arm_8 ?_
    refine z_aload_n C0 d_S_arm_11 rfl 0 rfl ?_
    refine z_iload_n C0 d_S_arm_12 rfl 1 rfl ?_
    refine z_put C0 gf_S_116 pf_S_5 0 rfl rfl rfl (Nat.le_of_ble_eq_true rfl) d_S_arm_13 ?_
    refine z_iconst (v := nI 1) C0 d_S_arm_16 (by decide) ?_
    refine z_ws (wsn := zs_W cI cZ x bc bp ((ss_F S), (ss_L S), ss_r S, ss_f S, true, nv, ss_d S)) rfl ?_
    refine z_topi (x := nI 1) (xn := bI true) (by decide) ?_
    exact z_zret C0 hA hQ hr d_S_arm_17 (by rw [show ss_arm S nv = (true, (ss_F S, ss_L S, ss_r S, ss_f S, true, nv, ss_d S)) from if_neg (Int32.not_lt.mpr c1_1)]; exact ⟨rfl, rfl⟩)
  · skip
    refine z_iconst (v := nI 0) C0 d_S_arm_4 (by decide) ?_
    refine z_topi (x := nI 0) (xn := bI false) (by decide) ?_
    exact z_zret C0 hA hQ hr d_S_arm_5 (by rw [show ss_arm S nv = (false, S) from if_pos (Int32.not_le.mp c1_1)]; exact ⟨rfl, rfl⟩)

set_option maxHeartbeats 4000000 in
set_option maxRecDepth 100000 in
theorem c_S_head (l : Launch) (D : va_G) (cI cZ : ClassId) (x : Nat → Nat) (bc bp : Nat) (S : zs_S) (hB : zb_ok bc bp)   : zc_Con l y_S_head b_S_head 1 (some .int) { frames := 0, cells := 0, slots := 0, locals := 0 } D cI cZ [.ref (x 0)] (zs_W cI cZ x bc bp S) (zo (some (.int (if ss_r S = true then oN (zl_h (ss_L S)) else -2))) (zs_W cI cZ x bc bp S)) := by
  refine zc_start (by decide) (Nat.le_of_ble_eq_true rfl) ?_
  intro p e s m args below meth c A Q hA hQ C0 hr hin
  have C0 : zc_Cx p s m args meth c b_S_head 1 R_S D cI cZ A := C0
  have hB0 := hB
  obtain ⟨hB1, hB2, hB3, hB4⟩ := hB
  have hN : bc * bp ≤ 20 := Nat.mul_le_mul hB2 hB4
  refine z_lvs (lvn := [(0, .ref (x 0))]) rfl ?_
  refine z_aload_n C0 d_S_head_0 rfl 0 rfl ?_
  refine z_get C0 gf_S_52 0 rfl rfl d_S_head_1 ?_
  refine z_ifB_eq (tgt := 17) C0 d_S_head_4 (by decide) (fun (c4_1 : ss_r S = false) => ?_) (fun (c4_1 : ss_r S = true) => ?_)
  · skip
    refine z_bipush (v := -2) C0 d_S_head_17 (by decide) ?_
    exact z_iret C0 hA hQ hr d_S_head_19 (⟨by rw [if_neg (by rw [c4_1]; decide)], rfl⟩)
  · skip
    refine z_aload_n C0 d_S_head_7 rfl 0 rfl ?_
    refine z_get C0 gf_S_32 0 rfl rfl d_S_head_8 ?_
    refine z_get C0 gf_S_134 7 rfl rfl d_S_head_11 ?_
    refine z_gotoK (tgt := 19) C0 d_S_head_14 (by decide) ?_
    exact z_iret C0 hA hQ hr d_S_head_19 (⟨by rw [if_pos c4_1], rfl⟩)

set_option maxHeartbeats 4000000 in
set_option maxRecDepth 100000 in
theorem c_S_size (l : Launch) (D : va_G) (cI cZ : ClassId) (x : Nat → Nat) (bc bp : Nat) (S : zs_S) (hB : zb_ok bc bp)  (hh : zh_ok bc (zl_h (ss_L S))) : zc_Con l y_S_size b_S_size 1 (some .int) { frames := 4, cells := 0, slots := 0, locals := 90 } D cI cZ [.ref (x 0)] (zs_W cI cZ x bc bp S) (zo (some (.int (if ss_r S = true then nI (sl_hks bc bp (ss_L S) 16 0 0) else -2))) (zs_W cI cZ x bc bp S)) := by
  refine zc_start (by decide) (Nat.le_of_ble_eq_true rfl) ?_
  intro p e s m args below meth c A Q hA hQ C0 hr hin
  have C0 : zc_Cx p s m args meth c b_S_size 1 R_S D cI cZ A := C0
  have hB0 := hB
  obtain ⟨hB1, hB2, hB3, hB4⟩ := hB
  have hN : bc * bp ≤ 20 := Nat.mul_le_mul hB2 hB4
  refine z_lvs (lvn := [(0, .ref (x 0))]) rfl ?_
  refine z_aload_n C0 d_S_size_0 rfl 0 rfl ?_
  refine z_get C0 gf_S_52 0 rfl rfl d_S_size_1 ?_
  refine z_ifB_eq (tgt := 17) C0 d_S_size_4 (by decide) (fun (c4_1 : ss_r S = false) => ?_) (fun (c4_1 : ss_r S = true) => ?_)
  · skip
    refine z_bipush (v := -2) C0 d_S_size_17 (by decide) ?_
    exact z_iret C0 hA hQ hr d_S_size_19 (⟨by rw [if_neg (by rw [c4_1]; decide)], rfl⟩)
  · skip
    refine z_aload_n C0 d_S_size_7 rfl 0 rfl ?_
    refine z_get C0 gf_S_32 0 rfl rfl d_S_size_8 ?_
    refine z_detV (As := []) (rest := []) (wsn := zs_W cI cZ x bc bp S) C0 (c_L_heldKeys l D cI cZ x bc bp (ss_L S) hB0  (hh)) mt_L_heldKeys ml_S_70 vt_L_heldKeys rfl rfl ⟨Nat.le_of_ble_eq_true rfl, Nat.le_of_ble_eq_true rfl⟩ ⟨rfl, rfl⟩ ⟨Nat.zero_le _, Nat.zero_le _⟩ rfl [7, 8, 9, 10, 11, 12] [0, 1, 2, 3, 4, 5, 6] [0, 1, 2, 3, 4, 5, 6, 7, 8, 9, 10, 11, 12] rfl (by decide) (wr := [(x 0, .inr (0, [.ref (x 1), .ref (x 7), .int (bI (ss_r S)), .int (bI (ss_f S)), .int (bI (ss_a S)), .int (ss_n S), .int (ss_d S)])), (x 1, .inr (1, [.int (nI (bc * bp)), .ref (x 6), .ref (x 2), .ref (x 3)])), (x 6, .inl (cI, bc * bp * 6, .inl (zf_c (ss_F S)))), (x 2, .inl (cI, 6, .inl (zf_e (ss_F S)))), (x 3, .inr (2, [.ref (x 4), .ref (x 5)])), (x 4, .inl (cI, 178, .inl (zk_R))), (x 5, .inl (cI, 512, .inl (zk_B)))]) rfl (by decide) (by decide) rfl (by decide) rfl (Nat.le_of_ble_eq_true rfl) d_S_size_11 ?_
    refine z_st (stn := [.int (nI (sl_hks bc bp (ss_L S) 16 0 0))]) rfl ?_
    refine z_gotoK (tgt := 19) C0 d_S_size_14 (by decide) ?_
    exact z_iret C0 hA hQ hr d_S_size_19 (⟨by rw [if_pos c4_1], rfl⟩)

set_option maxHeartbeats 4000000 in
set_option maxRecDepth 100000 in
theorem c_S_has (l : Launch) (D : va_G) (cI cZ : ClassId) (x : Nat → Nat) (bc bp : Nat) (S : zs_S) (hB : zb_ok bc bp) (kv : Int32) (hh : zh_ok bc (zl_h (ss_L S))) : zc_Con l y_S_has b_S_has 2 (some .boolean) { frames := 3, cells := 0, slots := 0, locals := 68 } D cI cZ [.ref (x 0), .int (kv)] (zs_W cI cZ x bc bp S) (zo (some (.int (bI (ss_r S && sl_held bc bp (ss_L S) kv)))) (zs_W cI cZ x bc bp S)) := by
  refine zc_start (by decide) (Nat.le_of_ble_eq_true rfl) ?_
  intro p e s m args below meth c A Q hA hQ C0 hr hin
  have C0 : zc_Cx p s m args meth c b_S_has 2 R_S D cI cZ A := C0
  have hB0 := hB
  obtain ⟨hB1, hB2, hB3, hB4⟩ := hB
  have hN : bc * bp ≤ 20 := Nat.mul_le_mul hB2 hB4
  refine z_lvs (lvn := [(0, .ref (x 0)), (1, .int (kv))]) rfl ?_
  refine z_aload_n C0 d_S_has_0 rfl 0 rfl ?_
  refine z_get C0 gf_S_52 0 rfl rfl d_S_has_1 ?_
  refine z_ifB_eq (tgt := 22) C0 d_S_has_4 (by decide) (fun (c4_1 : ss_r S = false) => ?_) (fun (c4_1 : ss_r S = true) => ?_)
  · skip
    refine z_iconst (v := nI 0) C0 d_S_has_22 (by decide) ?_
    refine z_topi (x := nI 0) (xn := bI false) (by decide) ?_
    exact z_zret C0 hA hQ hr d_S_has_23 (⟨by simp [c4_1], rfl⟩)
  · skip
    refine z_aload_n C0 d_S_has_7 rfl 0 rfl ?_
    refine z_get C0 gf_S_32 0 rfl rfl d_S_has_8 ?_
    refine z_iload_n C0 d_S_has_11 rfl 1 rfl ?_
    refine z_detV (As := [.int (kv)]) (rest := []) (wsn := zs_W cI cZ x bc bp S) C0 (c_L_isHeld l D cI cZ x bc bp (ss_L S) hB0 (kv) (hh)) mt_L_isHeld ml_S_81 vt_L_isHeld rfl rfl ⟨Nat.le_of_ble_eq_true rfl, Nat.le_of_ble_eq_true rfl⟩ ⟨rfl, rfl⟩ ⟨Nat.zero_le _, Nat.zero_le _⟩ rfl [7, 8, 9, 10, 11, 12] [0, 1, 2, 3, 4, 5, 6] [0, 1, 2, 3, 4, 5, 6, 7, 8, 9, 10, 11, 12] rfl (by decide) (wr := [(x 0, .inr (0, [.ref (x 1), .ref (x 7), .int (bI (ss_r S)), .int (bI (ss_f S)), .int (bI (ss_a S)), .int (ss_n S), .int (ss_d S)])), (x 1, .inr (1, [.int (nI (bc * bp)), .ref (x 6), .ref (x 2), .ref (x 3)])), (x 6, .inl (cI, bc * bp * 6, .inl (zf_c (ss_F S)))), (x 2, .inl (cI, 6, .inl (zf_e (ss_F S)))), (x 3, .inr (2, [.ref (x 4), .ref (x 5)])), (x 4, .inl (cI, 178, .inl (zk_R))), (x 5, .inl (cI, 512, .inl (zk_B)))]) rfl (by decide) (by decide) rfl (by decide) rfl (Nat.le_of_ble_eq_true rfl) d_S_has_12 ?_
    refine z_st (stn := [.int (bI (sl_held bc bp (ss_L S) kv))]) rfl ?_
    refine z_ifB_eq (tgt := 22) C0 d_S_has_15 (by decide) (fun (c15_2 : sl_held bc bp (ss_L S) kv = false) => ?_) (fun (c15_2 : sl_held bc bp (ss_L S) kv = true) => ?_)
    · skip
      refine z_iconst (v := nI 0) C0 d_S_has_22 (by decide) ?_
      refine z_topi (x := nI 0) (xn := bI false) (by decide) ?_
      exact z_zret C0 hA hQ hr d_S_has_23 (⟨by simp [c4_1, c15_2], rfl⟩)
    · skip
      refine z_iconst (v := nI 1) C0 d_S_has_18 (by decide) ?_
      refine z_gotoK (tgt := 23) C0 d_S_has_19 (by decide) ?_
      refine z_topi (x := nI 1) (xn := bI true) (by decide) ?_
      exact z_zret C0 hA hQ hr d_S_has_23 (⟨by simp [c4_1, c15_2], rfl⟩)
