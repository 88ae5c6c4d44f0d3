set_option maxHeartbeats 4000000 in
set_option maxRecDepth 100000 in
theorem c_S_rot (l : Launch) (D : va_G) (cI cZ : ClassId) (x : Nat → Nat) (bc bp : Nat) (S : zs_S) (hB : zb_ok bc bp) (pv : Int32) (iv : Int32)  : zc_Con l y_S_rot b_S_rot 3 (some .boolean) { frames := 1, cells := 0, slots := 0, locals := 22 } D cI cZ [.ref (x 0), .int (pv), .int (iv)] (zs_W cI cZ x bc bp S) (zo (some (.int (bI ((ss_rot (bc * bp) S pv iv).1)))) (zs_W cI cZ x bc bp ((ss_rot (bc * bp) S pv iv).2))) := by
  refine zc_start (by decide) (Nat.le_of_ble_eq_true rfl) ?_
  intro p e s m args below meth c A Q hA hQ C0 hr hin
  have C0 : zc_Cx p s m args meth c b_S_rot 3 R_S D cI cZ A := C0
  have hB0 := hB
  obtain ⟨hB1, hB2, hB3, hB4⟩ := hB
  have hN : bc * bp ≤ 20 := Nat.mul_le_mul hB2 hB4
  refine z_lvs (lvn := [(0, .ref (x 0)), (1, .int (pv)), (2, .int (iv))]) rfl ?_
  refine z_aload_n C0 d_S_rot_0 rfl 0 rfl ?_
  refine z_get C0 gf_S_23 0 rfl rfl d_S_rot_1 ?_
  refine z_iload_n C0 d_S_rot_4 rfl 1 rfl ?_
  refine z_detV (As := [.int (pv)]) (rest := []) (wsn := zs_W cI cZ x bc bp S) C0 (c_F_isPage l D cI cZ x bc bp (ss_F S) hB0 (pv) ) mt_F_isPage ml_S_98 vt_F_isPage rfl rfl ⟨Nat.le_of_ble_eq_true rfl, Nat.le_of_ble_eq_true rfl⟩ ⟨rfl, rfl⟩ ⟨Nat.zero_le _, Nat.zero_le _⟩ rfl [1, 2, 3, 4, 5, 6] [0, 7, 8, 9, 10, 11, 12] [0, 7, 8, 9, 10, 11, 12, 1, 2, 3, 4, 5, 6] rfl (by decide) (wr := [(x 0, .inr (0, [.ref (x 1), .ref (x 7), .int (bI (ss_r S)), .int (bI (ss_f S)), .int (bI (ss_a S)), .int (ss_n S), .int (ss_d S)])), (x 7, .inr (3, [.int (nI (bc)), .int (nI (bp)), .ref (x 8), .ref (x 9), .ref (x 10), .ref (x 11), .int (oN (zl_h (ss_L S))), .int (zl_x (ss_L S)), .int (nI (bc * bp)), .ref (x 12)])), (x 8, .inl (cI, bc * bp, .inl (zl_s (ss_L S)))), (x 9, .inl (cI, bc * bp, .inl (zl_k (ss_L S)))), (x 10, .inl (cI, bc * bp, .inl (zl_d (ss_L S)))), (x 11, .inl (cZ, bc * bp, .inl (bF (zl_m (ss_L S))))), (x 12, .inl (cZ, bc * bp, .inl (bF (zl_w (ss_L S)))))]) rfl (by decide) (by decide) rfl (by decide) rfl (Nat.le_of_ble_eq_true rfl) d_S_rot_5 ?_
  refine z_st (stn := [.int (bI (spg (bc * bp) pv))]) rfl ?_
  refine z_ifB_eq (tgt := 22) C0 d_S_rot_8 (by decide) (fun (c8_1 : spg (bc * bp) pv = false) => ?_) (fun (c8_1 : spg (bc * bp) pv = true) => ?_)
  · skip
    refine z_iconst (v := nI 0) C0 d_S_rot_22 (by decide) ?_
    refine z_topi (x := nI 0) (xn := bI false) (by decide) ?_
    exact z_zret C0 hA hQ hr d_S_rot_23 (by rw [show ss_rot (bc * bp) S pv iv = (false, S) from (by unfold ss_rot; rw [sidx_no c8_1]; try rfl)]; exact ⟨rfl, rfl⟩)
  · obtain ⟨j, hj, rfl⟩ := spg_true (by omega) c8_1
    refine z_lvs (lvn := [(0, .ref (x 0)), (1, .int (nI (j))), (2, .int (iv))]) rfl ?_
    refine z_iload_n C0 d_S_rot_11 rfl 2 rfl ?_
    refine z_if_lt (tgt := 22) C0 d_S_rot_12 (by decide) (fun c12_2 => ?_) (fun c12_2 => ?_)
    · skip
      refine z_iconst (v := nI 0) C0 d_S_rot_22 (by decide) ?_
      refine z_topi (x := nI 0) (xn := bI false) (by decide) ?_
      exact z_zret C0 hA hQ hr d_S_rot_23 (by rw [show ss_rot (bc * bp) S (nI j) iv = (false, S) from (by unfold ss_rot; rw [sidx_nI (by omega) hj, sidx_no (spg_lt c12_2)])]; exact ⟨rfl, rfl⟩)
    · have c12h := c12_2
      refine z_iload_n C0 d_S_rot_15 rfl 2 rfl ?_
      refine z_sipush (v := nI 178) C0 d_S_rot_16 (by decide) ?_
      refine z_topi (x := nI 178) (xn := 178) (by decide) ?_
      refine z_icmp_lt (tgt := 24) C0 d_S_rot_19 (by decide) (fun (c19_3 : iv < 178) => ?_) (fun (c19_3 : ¬ iv < 178) => ?_)
      · obtain ⟨k, hk, rfl⟩ := spg_true (by decide) (spg_in (n := 178) c12h c19_3)
        refine z_lvs (lvn := [(0, .ref (x 0)), (1, .int (nI (j))), (2, .int (nI (k)))]) rfl ?_
        refine z_aload_n C0 d_S_rot_24 rfl 0 rfl ?_
        refine z_get C0 gf_S_23 0 rfl rfl d_S_rot_25 ?_
        refine z_iload_n C0 d_S_rot_28 rfl 1 rfl ?_
        refine z_iload_n C0 d_S_rot_29 rfl 2 rfl ?_
        refine z_detV (As := [.int (nI (j)), .int (nI (k))]) (rest := []) (wsn := zs_W cI cZ x bc bp ((sf_turn (zf_c (ss_F S)) j k, zf_e (ss_F S)), (ss_L S), ss_r S, ss_f S, ss_a S, ss_n S, ss_d S)) C0 (c_F_turnBit l D cI cZ x bc bp (ss_F S) hB0 (j) (k) (hj) (hk)) mt_F_turnBit ml_S_101 vt_F_turnBit rfl rfl ⟨Nat.le_of_ble_eq_true rfl, Nat.le_of_ble_eq_true rfl⟩ ⟨rfl, rfl⟩ ⟨Nat.zero_le _, Nat.zero_le _⟩ rfl [1, 2, 3, 4, 5, 6] [0, 7, 8, 9, 10, 11, 12] [0, 7, 8, 9, 10, 11, 12, 1, 2, 3, 4, 5, 6] rfl (by decide) (wr := [(x 0, .inr (0, [.ref (x 1), .ref (x 7), .int (bI (ss_r S)), .int (bI (ss_f S)), .int (bI (ss_a S)), .int (ss_n S), .int (ss_d S)])), (x 7, .inr (3, [.int (nI (bc)), .int (nI (bp)), .ref (x 8), .ref (x 9), .ref (x 10), .ref (x 11), .int (oN (zl_h (ss_L S))), .int (zl_x (ss_L S)), .int (nI (bc * bp)), .ref (x 12)])), (x 8, .inl (cI, bc * bp, .inl (zl_s (ss_L S)))), (x 9, .inl (cI, bc * bp, .inl (zl_k (ss_L S)))), (x 10, .inl (cI, bc * bp, .inl (zl_d (ss_L S)))), (x 11, .inl (cZ, bc * bp, .inl (bF (zl_m (ss_L S))))), (x 12, .inl (cZ, bc * bp, .inl (bF (zl_w (ss_L S)))))]) rfl (by decide) (by decide) rfl (by decide) rfl (Nat.le_of_ble_eq_true rfl) d_S_rot_30 ?_
        refine z_st (stn := []) rfl ?_
        refine z_iconst (v := nI 1) C0 d_S_rot_33 (by decide) ?_
        refine z_topi (x := nI 1) (xn := bI true) (by decide) ?_
        exact z_zret C0 hA hQ hr d_S_rot_34 (by rw [show ss_rot (bc * bp) S (nI j) (nI k) = (true, ss_setF S (sf_turn (zf_c (ss_F S)) j k, zf_e (ss_F S))) from (by unfold ss_rot; rw [sidx_nI (by omega) hj, sidx_nI (by decide) hk])]; exact ⟨rfl, rfl⟩)
      · skip
        refine z_iconst (v := nI 0) C0 d_S_rot_22 (by decide) ?_
        refine z_topi (x := nI 0) (xn := bI false) (by decide) ?_
        exact z_zret C0 hA hQ hr d_S_rot_23 (by rw [show ss_rot (bc * bp) S (nI j) iv = (false, S) from (by unfold ss_rot; rw [sidx_nI (by omega) hj, sidx_no (spg_ge c19_3)])]; exact ⟨rfl, rfl⟩)

set_option maxHeartbeats 4000000 in
set_option maxRecDepth 100000 in
theorem c_S_condition (l : Launch) (D : va_G) (cI cZ : ClassId) (x : Nat → Nat) (bc bp : Nat) (S : zs_S) (hB : zb_ok bc bp) (pv : Int32) (hlow : slow (bc * bp) (zf_c (ss_F S))) : zc_Con l y_S_condition b_S_condition 2 (some .int) { frames := 4, cells := 0, slots := 0, locals := 107 } D cI cZ [.ref (x 0), .int (pv)] (zs_W cI cZ x bc bp S) (zo (some (.int ((ss_cond (bc * bp) S pv).1))) (zs_W cI cZ x bc bp ((ss_cond (bc * bp) S pv).2))) := by
  refine zc_start (by decide) (Nat.le_of_ble_eq_true rfl) ?_
  intro p e s m args below meth c A Q hA hQ C0 hr hin
  have C0 : zc_Cx p s m args meth c b_S_condition 2 R_S D cI cZ A := C0
  have hB0 := hB
  obtain ⟨hB1, hB2, hB3, hB4⟩ := hB
  have hN : bc * bp ≤ 20 := Nat.mul_le_mul hB2 hB4
  refine z_lvs (lvn := [(0, .ref (x 0)), (1, .int (pv))]) rfl ?_
  refine z_aload_n C0 d_S_condition_0 rfl 0 rfl ?_
  refine z_get C0 gf_S_23 0 rfl rfl d_S_condition_1 ?_
  refine z_iload_n C0 d_S_condition_4 rfl 1 rfl ?_
  refine z_detV (As := [.int (pv)]) (rest := []) (wsn := zs_W cI cZ x bc bp S) C0 (c_F_isPage l D cI cZ x bc bp (ss_F S) hB0 (pv) ) mt_F_isPage ml_S_98 vt_F_isPage rfl rfl ⟨Nat.le_of_ble_eq_true rfl, Nat.le_of_ble_eq_true rfl⟩ ⟨rfl, rfl⟩ ⟨Nat.zero_le _, Nat.zero_le _⟩ rfl [1, 2, 3, 4, 5, 6] [0, 7, 8, 9, 10, 11, 12] [0, 7, 8, 9, 10, 11, 12, 1, 2, 3, 4, 5, 6] rfl (by decide) (wr := [(x 0, .inr (0, [.ref (x 1), .ref (x 7), .int (bI (ss_r S)), .int (bI (ss_f S)), .int (bI (ss_a S)), .int (ss_n S), .int (ss_d S)])), (x 7, .inr (3, [.int (nI (bc)), .int (nI (bp)), .ref (x 8), .ref (x 9), .ref (x 10), .ref (x 11), .int (oN (zl_h (ss_L S))), .int (zl_x (ss_L S)), .int (nI (bc * bp)), .ref (x 12)])), (x 8, .inl (cI, bc * bp, .inl (zl_s (ss_L S)))), (x 9, .inl (cI, bc * bp, .inl (zl_k (ss_L S)))), (x 10, .inl (cI, bc * bp, .inl (zl_d (ss_L S)))), (x 11, .inl (cZ, bc * bp, .inl (bF (zl_m (ss_L S))))), (x 12, .inl (cZ, bc * bp, .inl (bF (zl_w (ss_L S)))))]) rfl (by decide) (by decide) rfl (by decide) rfl (Nat.le_of_ble_eq_true rfl) d_S_condition_5 ?_
  refine z_st (stn := [.int (bI (spg (bc * bp) pv))]) rfl ?_
  refine z_ifB_eq (tgt := 22) C0 d_S_condition_8 (by decide) (fun (c8_1 : spg (bc * bp) pv = false) => ?_) (fun (c8_1 : spg (bc * bp) pv = true) => ?_)
  · skip
    refine z_bipush (v := -3) C0 d_S_condition_22 (by decide) ?_
    exact z_iret C0 hA hQ hr d_S_condition_24 (by rw [show ss_cond (bc * bp) S pv = (-3, S) from (by unfold ss_cond; rw [sidx_no c8_1])]; exact ⟨rfl, rfl⟩)
  · obtain ⟨j, hj, rfl⟩ := spg_true (by omega) c8_1
    refine z_lvs (lvn := [(0, .ref (x 0)), (1, .int (nI (j)))]) rfl ?_
    refine z_aload_n C0 d_S_condition_11 rfl 0 rfl ?_
    refine z_get C0 gf_S_23 0 rfl rfl d_S_condition_12 ?_
    refine z_iload_n C0 d_S_condition_15 rfl 1 rfl ?_
    refine z_detV (As := [.int (nI (j))]) (rest := []) (wsn := zs_W cI cZ x bc bp ((zf_c (ss_F S), (sf_rd (zf_c (ss_F S)) (zf_e (ss_F S)) j).2), (ss_L S), ss_r S, ss_f S, ss_a S, ss_n S, ss_d S)) C0 (c_F_readPage l D cI cZ x bc bp (ss_F S) hB0 (j) (hj) (hlow j hj)) mt_F_readPage ml_S_88 vt_F_readPage rfl rfl ⟨Nat.le_of_ble_eq_true rfl, Nat.le_of_ble_eq_true rfl⟩ ⟨rfl, rfl⟩ ⟨Nat.zero_le _, Nat.zero_le _⟩ rfl [1, 2, 3, 4, 5, 6] [0, 7, 8, 9, 10, 11, 12] [0, 7, 8, 9, 10, 11, 12, 1, 2, 3, 4, 5, 6] rfl (by decide) (wr := [(x 0, .inr (0, [.ref (x 1), .ref (x 7), .int (bI (ss_r S)), .int (bI (ss_f S)), .int (bI (ss_a S)), .int (ss_n S), .int (ss_d S)])), (x 7, .inr (3, [.int (nI (bc)), .int (nI (bp)), .ref (x 8), .ref (x 9), .ref (x 10), .ref (x 11), .int (oN (zl_h (ss_L S))), .int (zl_x (ss_L S)), .int (nI (bc * bp)), .ref (x 12)])), (x 8, .inl (cI, bc * bp, .inl (zl_s (ss_L S)))), (x 9, .inl (cI, bc * bp, .inl (zl_k (ss_L S)))), (x 10, .inl (cI, bc * bp, .inl (zl_d (ss_L S)))), (x 11, .inl (cZ, bc * bp, .inl (bF (zl_m (ss_L S))))), (x 12, .inl (cZ, bc * bp, .inl (bF (zl_w (ss_L S)))))]) rfl (by decide) (by decide) rfl (by decide) rfl (Nat.le_of_ble_eq_true rfl) d_S_condition_16 ?_
    refine z_st (stn := [.int (nI ((sf_rd (zf_c (ss_F S)) (zf_e (ss_F S)) j).1))]) rfl ?_
    refine z_gotoK (tgt := 24) C0 d_S_condition_19 (by decide) ?_
    exact z_iret C0 hA hQ hr d_S_condition_24 (by rw [show ss_cond (bc * bp) S (nI j) = (nI (ss_rd S j).1, (ss_rd S j).2) from (by unfold ss_cond; rw [sidx_nI (by omega) hj])]; exact ⟨rfl, rfl⟩)

set_option maxHeartbeats 4000000 in
set_option maxRecDepth 100000 in
theorem c_S_word (l : Launch) (D : va_G) (cI cZ : ClassId) (x : Nat → Nat) (bc bp : Nat) (S : zs_S) (hB : zb_ok bc bp) (pv : Int32) (kv : Int32)  : zc_Con l y_S_word b_S_word 3 (some .int) { frames := 1, cells := 0, slots := 0, locals := 21 } D cI cZ [.ref (x 0), .int (pv), .int (kv)] (zs_W cI cZ x bc bp S) (zo (some (.int (ss_word (bc * bp) S pv kv))) (zs_W cI cZ x bc bp S)) := by
  refine zc_start (by decide) (Nat.le_of_ble_eq_true rfl) ?_
  intro p e s m args below meth c A Q hA hQ C0 hr hin
  have C0 : zc_Cx p s m args meth c b_S_word 3 R_S D cI cZ A := C0
  have hB0 := hB
  obtain ⟨hB1, hB2, hB3, hB4⟩ := hB
  have hN : bc * bp ≤ 20 := Nat.mul_le_mul hB2 hB4
  refine z_lvs (lvn := [(0, .ref (x 0)), (1, .int (pv)), (2, .int (kv))]) rfl ?_
  refine z_aload_n C0 d_S_word_0 rfl 0 rfl ?_
  refine z_get C0 gf_S_23 0 rfl rfl d_S_word_1 ?_
  refine z_iload_n C0 d_S_word_4 rfl 1 rfl ?_
  refine z_detV (As := [.int (pv)]) (rest := []) (wsn := zs_W cI cZ x bc bp S) C0 (c_F_isPage l D cI cZ x bc bp (ss_F S) hB0 (pv) ) mt_F_isPage ml_S_98 vt_F_isPage rfl rfl ⟨Nat.le_of_ble_eq_true rfl, Nat.le_of_ble_eq_true rfl⟩ ⟨rfl, rfl⟩ ⟨Nat.zero_le _, Nat.zero_le _⟩ rfl [1, 2, 3, 4, 5, 6] [0, 7, 8, 9, 10, 11, 12] [0, 7, 8, 9, 10, 11, 12, 1, 2, 3, 4, 5, 6] rfl (by decide) (wr := [(x 0, .inr (0, [.ref (x 1), .ref (x 7), .int (bI (ss_r S)), .int (bI (ss_f S)), .int (bI (ss_a S)), .int (ss_n S), .int (ss_d S)])), (x 7, .inr (3, [.int (nI (bc)), .int (nI (bp)), .ref (x 8), .ref (x 9), .ref (x 10), .ref (x 11), .int (oN (zl_h (ss_L S))), .int (zl_x (ss_L S)), .int (nI (bc * bp)), .ref (x 12)])), (x 8, .inl (cI, bc * bp, .inl (zl_s (ss_L S)))), (x 9, .inl (cI, bc * bp, .inl (zl_k (ss_L S)))), (x 10, .inl (cI, bc * bp, .inl (zl_d (ss_L S)))), (x 11, .inl (cZ, bc * bp, .inl (bF (zl_m (ss_L S))))), (x 12, .inl (cZ, bc * bp, .inl (bF (zl_w (ss_L S)))))]) rfl (by decide) (by decide) rfl (by decide) rfl (Nat.le_of_ble_eq_true rfl) d_S_word_5 ?_
  refine z_st (stn := [.int (bI (spg (bc * bp) pv))]) rfl ?_
  refine z_ifB_eq (tgt := 38) C0 d_S_word_8 (by decide) (fun (c8_1 : spg (bc * bp) pv = false) => ?_) (fun (c8_1 : spg (bc * bp) pv = true) => ?_)
  · skip
    refine z_iconst (v := nI 0) C0 d_S_word_38 (by decide) ?_
    exact z_iret C0 hA hQ hr d_S_word_39 (⟨by rw [show ss_word (bc * bp) S pv kv = 0 from (by unfold ss_word; rw [sidx_no c8_1]; try rfl)]; rfl, rfl⟩)
  · obtain ⟨j, hj, rfl⟩ := spg_true (by omega) c8_1
    refine z_lvs (lvn := [(0, .ref (x 0)), (1, .int (nI (j))), (2, .int (kv))]) rfl ?_
    refine z_iload_n C0 d_S_word_11 rfl 2 rfl ?_
    refine z_if_lt (tgt := 38) C0 d_S_word_12 (by decide) (fun c12_2 => ?_) (fun c12_2 => ?_)
    · skip
      refine z_iconst (v := nI 0) C0 d_S_word_38 (by decide) ?_
      exact z_iret C0 hA hQ hr d_S_word_39 (⟨by rw [show ss_word (bc * bp) S (nI j) kv = 0 from (by unfold ss_word; rw [sidx_nI (by omega) hj, sidx_no (spg_lt c12_2)])]; rfl, rfl⟩)
    · have c12h := c12_2
      refine z_iload_n C0 d_S_word_15 rfl 2 rfl ?_
      refine z_bipush (v := nI 6) C0 d_S_word_16 (by decide) ?_
      refine z_topi (x := nI 6) (xn := 6) (by decide) ?_
      refine z_icmp_ge (tgt := 38) C0 d_S_word_18 (by decide) (fun (c18_3 : 6 ≤ kv) => ?_) (fun (c18_3 : ¬ 6 ≤ kv) => ?_)
      · skip
        refine z_iconst (v := nI 0) C0 d_S_word_38 (by decide) ?_
        exact z_iret C0 hA hQ hr d_S_word_39 (⟨by rw [show ss_word (bc * bp) S (nI j) kv = 0 from (by unfold ss_word; rw [sidx_nI (by omega) hj, sidx_no (spg_ge (Int32.not_lt.mpr c18_3))])]; rfl, rfl⟩)
      · obtain ⟨k, hk, rfl⟩ := spg_true (by decide) (spg_in (n := 6) c12h (Int32.not_le.mp c18_3))
        refine z_lvs (lvn := [(0, .ref (x 0)), (1, .int (nI (j))), (2, .int (nI (k)))]) rfl ?_
        refine z_aload_n C0 d_S_word_21 rfl 0 rfl ?_
        refine z_get C0 gf_S_23 0 rfl rfl d_S_word_22 ?_
        refine z_get C0 gf_S_122 1 rfl rfl d_S_word_25 ?_
        refine z_iload_n C0 d_S_word_28 rfl 1 rfl ?_
        refine z_bipush (v := nI 6) C0 d_S_word_29 (by decide) ?_
        refine z_imulN C0 d_S_word_31 ?_
        refine z_iload_n C0 d_S_word_32 rfl 2 rfl ?_
        refine z_iaddN C0 d_S_word_33 ?_
        refine z_iald C0 2 rfl (by omega) (by omega) d_S_word_34 ?_
        refine z_gotoK (tgt := 39) C0 d_S_word_35 (by decide) ?_
        exact z_iret C0 hA hQ hr d_S_word_39 (⟨by rw [show ss_word (bc * bp) S (nI j) (nI k) = zf_c (ss_F S) (j * 6 + k) from (by unfold ss_word; rw [sidx_nI (by omega) hj, sidx_nI (by decide) hk])], rfl⟩)

set_option maxHeartbeats 4000000 in
set_option maxRecDepth 100000 in
theorem c_S_needed (l : Launch) (D : va_G) (cI cZ : ClassId) (x : Nat → Nat) (bc bp : Nat) (S : zs_S) (hB : zb_ok bc bp) (bv : Int32) (hh : zh_ok bc (zl_h (ss_L S))) : zc_Con l y_S_needed b_S_needed 2 (some .int) { frames := 3, cells := 0, slots := 0, locals := 67 } D cI cZ [.ref (x 0), .int (bv)] (zs_W cI cZ x bc bp S) (zo (some (.int ((ss_need bc bp S bv).1))) (zs_W cI cZ x bc bp ((ss_need bc bp S bv).2))) := by
  refine zc_start (by decide) (Nat.le_of_ble_eq_true rfl) ?_
  intro p e s m args below meth c A Q hA hQ C0 hr hin
  have C0 : zc_Cx p s m args meth c b_S_needed 2 R_S D cI cZ A := C0
  have hB0 := hB
  obtain ⟨hB1, hB2, hB3, hB4⟩ := hB
  have hN : bc * bp ≤ 20 := Nat.mul_le_mul hB2 hB4
  refine z_lvs (lvn := [(0, .ref (x 0)), (1, .int (bv))]) rfl ?_
  refine z_iload_n C0 d_S_needed_0 rfl 1 rfl ?_
  refine z_if_lt (tgt := 15) C0 d_S_needed_1 (by decide) (fun c1_1 => ?_) (fun c1_1 => ?_)
  · skip
    refine z_bipush (v := -3) C0 d_S_needed_15 (by decide) ?_
    exact z_iret C0 hA hQ hr d_S_needed_17 (by rw [show ss_need bc bp S bv = (-3, S) from (by unfold ss_need; rw [sidx_no (spg_lt c1_1)])]; exact ⟨rfl, rfl⟩)
  · have c1h := c1_1
    refine z_iload_n C0 d_S_needed_4 rfl 1 rfl ?_
    refine z_aload_n C0 d_S_needed_5 rfl 0 rfl ?_
    refine z_get C0 gf_S_32 0 rfl rfl d_S_needed_6 ?_
    refine z_get C0 gf_S_125 7 rfl rfl d_S_needed_9 ?_
    refine z_icmp_lt (tgt := 18) C0 d_S_needed_12 (by decide) (fun (c12_2 : bv < (nI (bc))) => ?_) (fun (c12_2 : ¬ bv < (nI (bc))) => ?_)
    · obtain ⟨j, hj, rfl⟩ := spg_true (by omega) (spg_in c1h c12_2)
      refine z_lvs (lvn := [(0, .ref (x 0)), (1, .int (nI (j)))]) rfl ?_
      refine z_aload_n C0 d_S_needed_18 rfl 0 rfl ?_
      refine z_get C0 gf_S_52 0 rfl rfl d_S_needed_19 ?_
      refine z_ifB_ne (tgt := 28) C0 d_S_needed_22 (by decide) (fun (c22_3 : ss_r S = true) => ?_) (fun (c22_3 : ss_r S = false) => ?_)
      · skip
        refine z_aload_n C0 d_S_needed_28 rfl 0 rfl ?_
        refine z_get C0 gf_S_32 0 rfl rfl d_S_needed_29 ?_
        refine z_detV (As := []) (rest := []) (wsn := zs_W cI cZ x bc bp ((ss_F S), (sl_setM (ss_L S) (sl_mn bc bp (ss_L S))), ss_r S, ss_f S, ss_a S, ss_n S, ss_d S)) C0 (c_L_markNeeded l D cI cZ x bc bp (ss_L S) hB0  (hh)) mt_L_markNeeded ml_S_128 vt_L_markNeeded rfl rfl ⟨Nat.le_of_ble_eq_true rfl, Nat.le_of_ble_eq_true rfl⟩ ⟨rfl, rfl⟩ ⟨Nat.zero_le _, Nat.zero_le _⟩ rfl [7, 8, 9, 10, 11, 12] [0, 1, 2, 3, 4, 5, 6] [0, 1, 2, 3, 4, 5, 6, 7, 8, 9, 10, 11, 12] rfl (by decide) (wr := [(x 0, .inr (0, [.ref (x 1), .ref (x 7), .int (bI (ss_r S)), .int (bI (ss_f S)), .int (bI (ss_a S)), .int (ss_n S), .int (ss_d S)])), (x 1, .inr (1, [.int (nI (bc * bp)), .ref (x 6), .ref (x 2), .ref (x 3)])), (x 6, .inl (cI, bc * bp * 6, .inl (zf_c (ss_F S)))), (x 2, .inl (cI, 6, .inl (zf_e (ss_F S)))), (x 3, .inr (2, [.ref (x 4), .ref (x 5)])), (x 4, .inl (cI, 178, .inl (zk_R))), (x 5, .inl (cI, 512, .inl (zk_B)))]) rfl (by decide) (by decide) rfl (by decide) rfl (Nat.le_of_ble_eq_true rfl) d_S_needed_32 ?_
        refine z_st (stn := []) rfl ?_
        refine z_aload_n C0 d_S_needed_35 rfl 0 rfl ?_
        refine z_get C0 gf_S_32 0 rfl rfl d_S_needed_36 ?_
        refine z_iload_n C0 d_S_needed_39 rfl 1 rfl ?_
        refine z_detV (As := [.int (nI (j))]) (rest := []) (wsn := zs_W cI cZ x bc bp ((ss_F S), (sl_setM (ss_L S) (sl_mn bc bp (ss_L S))), ss_r S, ss_f S, ss_a S, ss_n S, ss_d S)) C0 (c_L_markedPages l D cI cZ x bc bp (sl_setM (ss_L S) (sl_mn bc bp (ss_L S))) hB0 (j) (hj)) mt_L_markedPages ml_S_131 vt_L_markedPages rfl rfl ⟨Nat.le_of_ble_eq_true rfl, Nat.le_of_ble_eq_true rfl⟩ ⟨rfl, rfl⟩ ⟨Nat.zero_le _, Nat.zero_le _⟩ rfl [7, 8, 9, 10, 11, 12] [0, 1, 2, 3, 4, 5, 6] [0, 1, 2, 3, 4, 5, 6, 7, 8, 9, 10, 11, 12] rfl (by decide) (wr := [(x 0, .inr (0, [.ref (x 1), .ref (x 7), .int (bI (ss_r S)), .int (bI (ss_f S)), .int (bI (ss_a S)), .int (ss_n S), .int (ss_d S)])), (x 1, .inr (1, [.int (nI (bc * bp)), .ref (x 6), .ref (x 2), .ref (x 3)])), (x 6, .inl (cI, bc * bp * 6, .inl (zf_c (ss_F S)))), (x 2, .inl (cI, 6, .inl (zf_e (ss_F S)))), (x 3, .inr (2, [.ref (x 4), .ref (x 5)])), (x 4, .inl (cI, 178, .inl (zk_R))), (x 5, .inl (cI, 512, .inl (zk_B)))]) rfl (by decide) (by decide) rfl (by decide) rfl (Nat.le_of_ble_eq_true rfl) d_S_needed_40 ?_
        refine z_st (stn := [.int (nI (sl_mk bp (sl_mn bc bp (ss_L S)) j))]) rfl ?_
        exact z_iret C0 hA hQ hr d_S_needed_43 (by rw [show ss_need bc bp S (nI j) = (nI (sl_mk bp (sl_mn bc bp (ss_L S)) j), ss_setL S (sl_setM (ss_L S) (sl_mn bc bp (ss_L S)))) from (by unfold ss_need; rw [sidx_nI (by omega) hj]; exact if_pos c22_3)]; exact ⟨rfl, rfl⟩)
      · skip
        refine z_bipush (v := -2) C0 d_S_needed_25 (by decide) ?_
        exact z_iret C0 hA hQ hr d_S_needed_27 (by rw [show ss_need bc bp S (nI j) = (-2, S) from (by unfold ss_need; rw [sidx_nI (by omega) hj]; exact if_neg (by rw [c22_3]; decide))]; exact ⟨rfl, rfl⟩)
    · skip
      refine z_bipush (v := -3) C0 d_S_needed_15 (by decide) ?_
      exact z_iret C0 hA hQ hr d_S_needed_17 (by rw [show ss_need bc bp S bv = (-3, S) from (by unfold ss_need; rw [sidx_no (spg_ge c12_2)])]; exact ⟨rfl, rfl⟩)

set_option maxHeartbeats 4000000 in
set_option maxRecDepth 100000 in
theorem c_S_get (l : Launch) (D : va_G) (cI cZ : ClassId) (x : Nat → Nat) (bc bp : Nat) (S : zs_S) (hB : zb_ok bc bp) (kv : Int32) (hh : zh_ok bc (zl_h (ss_L S))) (hlow : slow (bc * bp) (zf_c (ss_F S))) : zc_Con l y_S_get b_S_get 2 (some .int) { frames := 4, cells := 0, slots := 0, locals := 107 } D cI cZ [.ref (x 0), .int (kv)] (zs_W cI cZ x bc bp S) (zo (some (.int ((ss_get bc bp S kv).1))) (zs_W cI cZ x bc bp ((ss_get bc bp S kv).2))) := by
  refine zc_start (by decide) (Nat.le_of_ble_eq_true rfl) ?_
  intro p e s m args below meth c A Q hA hQ C0 hr hin
  have C0 : zc_Cx p s m args meth c b_S_get 2 R_S D cI cZ A := C0
  have hB0 := hB
  obtain ⟨hB1, hB2, hB3, hB4⟩ := hB
  have hN : bc * bp ≤ 20 := Nat.mul_le_mul hB2 hB4
  refine z_lvs (lvn := [(0, .ref (x 0)), (1, .int (kv))]) rfl ?_
  refine z_aload_n C0 d_S_get_0 rfl 0 rfl ?_
  refine z_get C0 gf_S_52 0 rfl rfl d_S_get_1 ?_
  refine z_ifB_eq (tgt := 18) C0 d_S_get_4 (by decide) (fun (c4_1 : ss_r S = false) => ?_) (fun (c4_1 : ss_r S = true) => ?_)
  · skip
    refine z_iconst (v := 0) C0 d_S_get_18 (by decide) ?_
    exact z_iret C0 hA hQ hr d_S_get_19 (by rw [show ss_get bc bp S kv = (0, S) from (by unfold ss_get; rw [c4_1]; try rfl)]; exact ⟨rfl, rfl⟩)
  · skip
    refine z_aload_n C0 d_S_get_7 rfl 0 rfl ?_
    refine z_get C0 gf_S_32 0 rfl rfl d_S_get_8 ?_
    refine z_iload_n C0 d_S_get_11 rfl 1 rfl ?_
    refine z_detV (As := [.int (kv)]) (rest := []) (wsn := zs_W cI cZ x bc bp S) C0 (c_L_isHeld l D cI cZ x bc bp (ss_L S) hB0 (kv) (hh)) mt_L_isHeld ml_S_81 vt_L_isHeld rfl rfl ⟨Nat.le_of_ble_eq_true rfl, Nat.le_of_ble_eq_true rfl⟩ ⟨rfl, rfl⟩ ⟨Nat.zero_le _, Nat.zero_le _⟩ rfl [7, 8, 9, 10, 11, 12] [0, 1, 2, 3, 4, 5, 6] [0, 1, 2, 3, 4, 5, 6, 7, 8, 9, 10, 11, 12] rfl (by decide) (wr := [(x 0, .inr (0, [.ref (x 1), .ref (x 7), .int (bI (ss_r S)), .int (bI (ss_f S)), .int (bI (ss_a S)), .int (ss_n S), .int (ss_d S)])), (x 1, .inr (1, [.int (nI (bc * bp)), .ref (x 6), .ref (x 2), .ref (x 3)])), (x 6, .inl (cI, bc * bp * 6, .inl (zf_c (ss_F S)))), (x 2, .inl (cI, 6, .inl (zf_e (ss_F S)))), (x 3, .inr (2, [.ref (x 4), .ref (x 5)])), (x 4, .inl (cI, 178, .inl (zk_R))), (x 5, .inl (cI, 512, .inl (zk_B)))]) rfl (by decide) (by decide) rfl (by decide) rfl (Nat.le_of_ble_eq_true rfl) d_S_get_12 ?_
    refine z_st (stn := [.int (bI (sl_held bc bp (ss_L S) kv))]) rfl ?_
    refine z_ifB_ne (tgt := 20) C0 d_S_get_15 (by decide) (fun (c15_2 : sl_held bc bp (ss_L S) kv = true) => ?_) (fun (c15_2 : sl_held bc bp (ss_L S) kv = false) => ?_)
    · obtain ⟨q, hq⟩ := sl_held_some c15_2; have hq1 := zq_latI hq
      refine z_aload_n C0 d_S_get_20 rfl 0 rfl ?_
      refine z_get C0 gf_S_23 0 rfl rfl d_S_get_21 ?_
      refine z_aload_n C0 d_S_get_24 rfl 0 rfl ?_
      refine z_get C0 gf_S_32 0 rfl rfl d_S_get_25 ?_
      refine z_iload_n C0 d_S_get_28 rfl 1 rfl ?_
      refine z_detV (As := [.int (kv)]) (rest := [.ref (x 1)]) (wsn := zs_W cI cZ x bc bp S) C0 (c_L_latest l D cI cZ x bc bp (ss_L S) hB0 (kv) (hh)) mt_L_latest ml_S_84 vt_L_latest rfl rfl ⟨Nat.le_of_ble_eq_true rfl, Nat.le_of_ble_eq_true rfl⟩ ⟨rfl, rfl⟩ ⟨Nat.zero_le _, Nat.zero_le _⟩ rfl [7, 8, 9, 10, 11, 12] [0, 1, 2, 3, 4, 5, 6] [0, 1, 2, 3, 4, 5, 6, 7, 8, 9, 10, 11, 12] rfl (by decide) (wr := [(x 0, .inr (0, [.ref (x 1), .ref (x 7), .int (bI (ss_r S)), .int (bI (ss_f S)), .int (bI (ss_a S)), .int (ss_n S), .int (ss_d S)])), (x 1, .inr (1, [.int (nI (bc * bp)), .ref (x 6), .ref (x 2), .ref (x 3)])), (x 6, .inl (cI, bc * bp * 6, .inl (zf_c (ss_F S)))), (x 2, .inl (cI, 6, .inl (zf_e (ss_F S)))), (x 3, .inr (2, [.ref (x 4), .ref (x 5)])), (x 4, .inl (cI, 178, .inl (zk_R))), (x 5, .inl (cI, 512, .inl (zk_B)))]) rfl (by decide) (by decide) rfl (by decide) rfl (Nat.le_of_ble_eq_true rfl) d_S_get_29 ?_
      refine z_st (stn := [.int (oN (sl_lat bc bp (ss_L S) kv)), .ref (x 1)]) rfl ?_
      refine z_top (vn := .int (nI (q))) (by rw [hq]; rfl) ?_
      refine z_detV (As := [.int (nI (q))]) (rest := []) (wsn := zs_W cI cZ x bc bp ((zf_c (ss_F S), (sf_rd (zf_c (ss_F S)) (zf_e (ss_F S)) q).2), (ss_L S), ss_r S, ss_f S, ss_a S, ss_n S, ss_d S)) C0 (c_F_readPage l D cI cZ x bc bp (ss_F S) hB0 (q) (hq1.1) (hlow q hq1.1)) mt_F_readPage ml_S_88 vt_F_readPage rfl rfl ⟨Nat.le_of_ble_eq_true rfl, Nat.le_of_ble_eq_true rfl⟩ ⟨rfl, rfl⟩ ⟨Nat.zero_le _, Nat.zero_le _⟩ rfl [1, 2, 3, 4, 5, 6] [0, 7, 8, 9, 10, 11, 12] [0, 7, 8, 9, 10, 11, 12, 1, 2, 3, 4, 5, 6] rfl (by decide) (wr := [(x 0, .inr (0, [.ref (x 1), .ref (x 7), .int (bI (ss_r S)), .int (bI (ss_f S)), .int (bI (ss_a S)), .int (ss_n S), .int (ss_d S)])), (x 7, .inr (3, [.int (nI (bc)), .int (nI (bp)), .ref (x 8), .ref (x 9), .ref (x 10), .ref (x 11), .int (oN (zl_h (ss_L S))), .int (zl_x (ss_L S)), .int (nI (bc * bp)), .ref (x 12)])), (x 8, .inl (cI, bc * bp, .inl (zl_s (ss_L S)))), (x 9, .inl (cI, bc * bp, .inl (zl_k (ss_L S)))), (x 10, .inl (cI, bc * bp, .inl (zl_d (ss_L S)))), (x 11, .inl (cZ, bc * bp, .inl (bF (zl_m (ss_L S))))), (x 12, .inl (cZ, bc * bp, .inl (bF (zl_w (ss_L S)))))]) rfl (by decide) (by decide) rfl (by decide) rfl (Nat.le_of_ble_eq_true rfl) d_S_get_32 ?_
      refine z_st (stn := [.int (nI ((sf_rd (zf_c (ss_F S)) (zf_e (ss_F S)) q).1))]) rfl ?_
      refine z_nilS (As := [.int (nI ((sf_rd (zf_c (ss_F S)) (zf_e (ss_F S)) q).1))]) (rest := []) C0 (c_S_isReadable l D cI cZ    ((sf_rd (zf_c (ss_F S)) (zf_e (ss_F S)) q).1) (sf_rd_le _ _ _)) mt_S_isReadable ml_S_91 vt_S_isReadable ⟨Nat.le_of_ble_eq_true rfl, Nat.le_of_ble_eq_true rfl⟩ ⟨rfl, rfl⟩ ⟨Nat.zero_le _, Nat.zero_le _⟩ rfl rfl (Nat.le_of_ble_eq_true rfl) d_S_get_35 ?_
      refine z_st (stn := [.int (bI (decide (((sf_rd (zf_c (ss_F S)) (zf_e (ss_F S)) q).1) = 1 ∨ ((sf_rd (zf_c (ss_F S)) (zf_e (ss_F S)) q).1) = 2)))]) rfl ?_
      refine z_ifB_eq (tgt := 53) C0 d_S_get_38 (by decide) (fun (c38_3 : decide (((sf_rd (zf_c (ss_F S)) (zf_e (ss_F S)) q).1) = 1 ∨ ((sf_rd (zf_c (ss_F S)) (zf_e (ss_F S)) q).1) = 2) = false) => ?_) (fun (c38_3 : decide (((sf_rd (zf_c (ss_F S)) (zf_e (ss_F S)) q).1) = 1 ∨ ((sf_rd (zf_c (ss_F S)) (zf_e (ss_F S)) q).1) = 2) = true) => ?_)
      · skip
        refine z_iconst (v := 0) C0 d_S_get_53 (by decide) ?_
        exact z_iret C0 hA hQ hr d_S_get_54 (by rw [show ss_get bc bp S kv = (0, (ss_rd S q).2) from (by unfold ss_get; rw [c4_1, c15_2]; show ss_get1 S (sl_lat bc bp (ss_L S) kv) = _; rw [hq]; show ((if (ss_rd S q).1 = 1 ∨ (ss_rd S q).1 = 2 then zf_e (ss_F (ss_rd S q).2) 2 else 0), (ss_rd S q).2) = _; rw [show (if (ss_rd S q).1 = 1 ∨ (ss_rd S q).1 = 2 then zf_e (ss_F (ss_rd S q).2) 2 else 0) = 0 from if_neg (of_decide_eq_false c38_3)])]; exact ⟨rfl, rfl⟩)
      · skip
        refine z_aload_n C0 d_S_get_41 rfl 0 rfl ?_
        refine z_get C0 gf_S_23 0 rfl rfl d_S_get_42 ?_
        refine z_get C0 gf_S_94 1 rfl rfl d_S_get_45 ?_
        refine z_iconst (v := nI 2) C0 d_S_get_48 (by decide) ?_
        refine z_iald C0 3 rfl (by omega) (by omega) d_S_get_49 ?_
        refine z_gotoK (tgt := 54) C0 d_S_get_50 (by decide) ?_
        exact z_iret C0 hA hQ hr d_S_get_54 (by rw [show ss_get bc bp S kv = (zf_e (ss_F (ss_rd S q).2) 2, (ss_rd S q).2) from (by unfold ss_get; rw [c4_1, c15_2]; show ss_get1 S (sl_lat bc bp (ss_L S) kv) = _; rw [hq]; show ((if (ss_rd S q).1 = 1 ∨ (ss_rd S q).1 = 2 then zf_e (ss_F (ss_rd S q).2) 2 else 0), (ss_rd S q).2) = _; rw [show (if (ss_rd S q).1 = 1 ∨ (ss_rd S q).1 = 2 then zf_e (ss_F (ss_rd S q).2) 2 else 0) = zf_e (ss_F (ss_rd S q).2) 2 from if_pos (of_decide_eq_true c38_3)])]; exact ⟨rfl, rfl⟩)
    · skip
      refine z_iconst (v := 0) C0 d_S_get_18 (by decide) ?_
      exact z_iret C0 hA hQ hr d_S_get_19 (by rw [show ss_get bc bp S kv = (0, S) from (by unfold ss_get; rw [c4_1, c15_2]; try rfl)]; exact ⟨rfl, rfl⟩)

set_option maxHeartbeats 4000000 in
set_option maxRecDepth 100000 in
theorem c_S_scrub (l : Launch) (D : va_G) (cI cZ : ClassId) (x : Nat → Nat) (bc bp : Nat) (S : zs_S) (hB : zb_ok bc bp)  (hlow : slow (bc * bp) (zf_c (ss_F S))) : zc_Con l y_S_scrub b_S_scrub 3 (some .int) { frames := 5, cells := 0, slots := 0, locals := 129 } D cI cZ [.ref (x 0)] (zs_W cI cZ x bc bp S) (zo (some (.int ((ss_scrub bc bp S).1))) (zs_W cI cZ x bc bp ((ss_scrub bc bp S).2))) := by
  refine zc_start (by decide) (Nat.le_of_ble_eq_true rfl) ?_
  intro p e s m args below meth c A Q hA hQ C0 hr hin
  have C0 : zc_Cx p s m args meth c b_S_scrub 3 R_S D cI cZ A := C0
  have hB0 := hB
  obtain ⟨hB1, hB2, hB3, hB4⟩ := hB
  have hN : bc * bp ≤ 20 := Nat.mul_le_mul hB2 hB4
  refine z_lvs (lvn := [(0, .ref (x 0))]) rfl ?_
  refine z_aload_n C0 d_S_scrub_0 rfl 0 rfl ?_
  refine z_get C0 gf_S_52 0 rfl rfl d_S_scrub_1 ?_
  refine z_ifB_ne (tgt := 10) C0 d_S_scrub_4 (by decide) (fun (c4_1 : ss_r S = true) => ?_) (fun (c4_1 : ss_r S = false) => ?_)
  · skip
    refine z_iconst (v := nI 0) C0 d_S_scrub_10 (by decide) ?_
    refine z_istore_n (lvn := [(0, .ref (x 0)), (1, .int (nI (0)))]) C0 d_S_scrub_11 rfl (by decide) [1, 0] rfl ?_
    refine z_iconst (v := nI 0) C0 d_S_scrub_12 (by decide) ?_
    refine z_istore_n (lvn := [(0, .ref (x 0)), (1, .int (nI (0))), (2, .int (nI (0)))]) C0 d_S_scrub_13 rfl (by decide) [1, 2, 0] rfl ?_
    have lp14 : ∀ (n : Nat) (i : Nat) (a : Nat) (T : zs_S), (i + n = bc * bp) → (slow (bc * bp) (zf_c (ss_F T))) → (ss_scrub bc bp S = ss_scs n i a T) → zc_Pt p l e { frames := 5, cells := 0, slots := 0, locals := 129 } s m args below meth c 3 D A 0 0 Q 14 [(0, .ref (x 0)), (1, .int (nI (a))), (2, .int (nI (i)))] [] (zs_W cI cZ x bc bp T) := by
      intro n
      induction n with
      | zero =>
        intro i a T hi hlT hR
        refine z_iload_n C0 d_S_scrub_14 rfl 2 rfl ?_
        refine z_aload_n C0 d_S_scrub_15 rfl 0 rfl ?_
        refine z_get C0 gf_S_23 0 rfl rfl d_S_scrub_16 ?_
        refine z_get C0 gf_S_42 1 rfl rfl d_S_scrub_19 ?_
        refine z_icmpN_ge (tgt := 63) C0 d_S_scrub_22 (by decide) (by omega) (by omega) (fun (c22_2 : bc * bp ≤ i) => ?_) (fun (c22_2 : i < bc * bp) => ?_)
        · skip
          refine z_iload_n C0 d_S_scrub_63 rfl 1 rfl ?_
          exact z_iret C0 hA hQ hr d_S_scrub_64 (by rw [hR]; exact ⟨rfl, rfl⟩)
        · exact absurd c22_2 (by omega)
      | succ n ih =>
        intro i a T hi hlT hR
        refine z_iload_n C0 d_S_scrub_14 rfl 2 rfl ?_
        refine z_aload_n C0 d_S_scrub_15 rfl 0 rfl ?_
        refine z_get C0 gf_S_23 0 rfl rfl d_S_scrub_16 ?_
        refine z_get C0 gf_S_42 1 rfl rfl d_S_scrub_19 ?_
        refine z_icmpN_ge (tgt := 63) C0 d_S_scrub_22 (by decide) (by omega) (by omega) (fun (c22_3 : bc * bp ≤ i) => ?_) (fun (c22_3 : i < bc * bp) => ?_)
        · exact absurd c22_3 (by omega)
        · skip
          refine z_aload_n C0 d_S_scrub_25 rfl 0 rfl ?_
          refine z_get C0 gf_S_23 0 rfl rfl d_S_scrub_26 ?_
          refine z_iload_n C0 d_S_scrub_29 rfl 2 rfl ?_
          refine z_detV (As := [.int (nI (i))]) (rest := []) (wsn := zs_W cI cZ x bc bp ((zf_c (ss_F T), (sf_fr (sf_rd (zf_c (ss_F T)) (zf_e (ss_F T)) i)).2), (ss_L T), ss_r T, ss_f T, ss_a T, ss_n T, ss_d T)) C0 (c_F_loadFresh l D cI cZ x bc bp (ss_F T) hB0 (i) (by omega) (hlT i (by omega))) mt_F_loadFresh ml_S_104 vt_F_loadFresh rfl rfl ⟨Nat.le_of_ble_eq_true rfl, Nat.le_of_ble_eq_true rfl⟩ ⟨rfl, rfl⟩ ⟨Nat.zero_le _, Nat.zero_le _⟩ rfl [1, 2, 3, 4, 5, 6] [0, 7, 8, 9, 10, 11, 12] [0, 7, 8, 9, 10, 11, 12, 1, 2, 3, 4, 5, 6] rfl (by decide) (wr := [(x 0, .inr (0, [.ref (x 1), .ref (x 7), .int (bI (ss_r T)), .int (bI (ss_f T)), .int (bI (ss_a T)), .int (ss_n T), .int (ss_d T)])), (x 7, .inr (3, [.int (nI (bc)), .int (nI (bp)), .ref (x 8), .ref (x 9), .ref (x 10), .ref (x 11), .int (oN (zl_h (ss_L T))), .int (zl_x (ss_L T)), .int (nI (bc * bp)), .ref (x 12)])), (x 8, .inl (cI, bc * bp, .inl (zl_s (ss_L T)))), (x 9, .inl (cI, bc * bp, .inl (zl_k (ss_L T)))), (x 10, .inl (cI, bc * bp, .inl (zl_d (ss_L T)))), (x 11, .inl (cZ, bc * bp, .inl (bF (zl_m (ss_L T))))), (x 12, .inl (cZ, bc * bp, .inl (bF (zl_w (ss_L T)))))]) rfl (by decide) (by decide) rfl (by decide) rfl (Nat.le_of_ble_eq_true rfl) d_S_scrub_30 ?_
          refine z_st (stn := [.int (bI ((sf_fr (sf_rd (zf_c (ss_F T)) (zf_e (ss_F T)) i)).1))]) rfl ?_
          refine z_ifB_eq (tgt := 57) C0 d_S_scrub_33 (by decide) (fun (c33_4 : (sf_fr (sf_rd (zf_c (ss_F T)) (zf_e (ss_F T)) i)).1 = false) => ?_) (fun (c33_4 : (sf_fr (sf_rd (zf_c (ss_F T)) (zf_e (ss_F T)) i)).1 = true) => ?_)
          · skip
            refine z_iincN (q := 2) (lvn := [(0, .ref (x 0)), (1, .int (nI (a))), (2, .int (nI (i + 1)))]) C0 d_S_scrub_57 rfl (by decide) [1, 2, 0] rfl ?_
            refine z_gotoK (tgt := 14) C0 d_S_scrub_60 (by decide) ?_
            exact ih (i + 1) (a) (((zf_c (ss_F T), (sf_fr (sf_rd (zf_c (ss_F T)) (zf_e (ss_F T)) i)).2), (ss_L T), ss_r T, ss_f T, ss_a T, ss_n T, ss_d T)) (by omega) (hlT) (by rw [hR]; show (if (sc_f T i).1 = true then _ else _) = _; rw [if_neg (by unfold sc_f; rw [c33_4]; decide)]; rfl)
          · skip
            refine z_aload_n C0 d_S_scrub_36 rfl 0 rfl ?_
            refine z_allV (As := []) (rest := []) C0 (c_S_mayAct l D cI cZ x bc bp ((zf_c (ss_F T), (sf_fr (sf_rd (zf_c (ss_F T)) (zf_e (ss_F T)) i)).2), (ss_L T), ss_r T, ss_f T, ss_a T, ss_n T, ss_d T) hB0  ) mt_S_mayAct ml_S_107 vt_S_mayAct rfl rfl ⟨Nat.le_of_ble_eq_true rfl, Nat.le_of_ble_eq_true rfl⟩ ⟨rfl, rfl⟩ ⟨Nat.zero_le _, Nat.zero_le _⟩ rfl rfl (Nat.le_of_ble_eq_true rfl) d_S_scrub_37 ?_
            refine z_st (stn := [.int (bI ((ss_may ((zf_c (ss_F T), (sf_fr (sf_rd (zf_c (ss_F T)) (zf_e (ss_F T)) i)).2), (ss_L T), ss_r T, ss_f T, ss_a T, ss_n T, ss_d T)).1))]) rfl ?_
            refine z_ifB_ne (tgt := 46) C0 d_S_scrub_40 (by decide) (fun (c40_5 : (ss_may ((zf_c (ss_F T), (sf_fr (sf_rd (zf_c (ss_F T)) (zf_e (ss_F T)) i)).2), (ss_L T), ss_r T, ss_f T, ss_a T, ss_n T, ss_d T)).1 = true) => ?_) (fun (c40_5 : (ss_may ((zf_c (ss_F T), (sf_fr (sf_rd (zf_c (ss_F T)) (zf_e (ss_F T)) i)).2), (ss_L T), ss_r T, ss_f T, ss_a T, ss_n T, ss_d T)).1 = false) => ?_)
            · skip
              refine z_aload_n C0 d_S_scrub_46 rfl 0 rfl ?_
              refine z_get C0 gf_S_23 0 rfl rfl d_S_scrub_47 ?_
              refine z_iload_n C0 d_S_scrub_50 rfl 2 rfl ?_
              refine z_detV (As := [.int (nI (i))]) (rest := []) (wsn := zs_W cI cZ x bc bp ((sf_put (zf_c (ss_F T)) ((sf_fr (sf_rd (zf_c (ss_F T)) (zf_e (ss_F T)) i)).2) i, (sf_fr (sf_rd (zf_c (ss_F T)) (zf_e (ss_F T)) i)).2), (ss_L T), ss_r (ss_may ((zf_c (ss_F T), (sf_fr (sf_rd (zf_c (ss_F T)) (zf_e (ss_F T)) i)).2), (ss_L T), ss_r T, ss_f T, ss_a T, ss_n T, ss_d T)).2, ss_f (ss_may ((zf_c (ss_F T), (sf_fr (sf_rd (zf_c (ss_F T)) (zf_e (ss_F T)) i)).2), (ss_L T), ss_r T, ss_f T, ss_a T, ss_n T, ss_d T)).2, ss_a T, ss_n (ss_may ((zf_c (ss_F T), (sf_fr (sf_rd (zf_c (ss_F T)) (zf_e (ss_F T)) i)).2), (ss_L T), ss_r T, ss_f T, ss_a T, ss_n T, ss_d T)).2, ss_d (ss_may ((zf_c (ss_F T), (sf_fr (sf_rd (zf_c (ss_F T)) (zf_e (ss_F T)) i)).2), (ss_L T), ss_r T, ss_f T, ss_a T, ss_n T, ss_d T)).2)) C0 (c_F_writeSeen l D cI cZ x bc bp (zf_c (ss_F T), (sf_fr (sf_rd (zf_c (ss_F T)) (zf_e (ss_F T)) i)).2) hB0 (i) (by omega)) mt_F_writeSeen ml_S_110 vt_F_writeSeen rfl rfl ⟨Nat.le_of_ble_eq_true rfl, Nat.le_of_ble_eq_true rfl⟩ ⟨rfl, rfl⟩ ⟨Nat.zero_le _, Nat.zero_le _⟩ rfl [1, 2, 3, 4, 5, 6] [0, 7, 8, 9, 10, 11, 12] [0, 7, 8, 9, 10, 11, 12, 1, 2, 3, 4, 5, 6] rfl (by decide) (wr := [(x 0, .inr (0, [.ref (x 1), .ref (x 7), .int (bI (ss_r (ss_may ((zf_c (ss_F T), (sf_fr (sf_rd (zf_c (ss_F T)) (zf_e (ss_F T)) i)).2), (ss_L T), ss_r T, ss_f T, ss_a T, ss_n T, ss_d T)).2)), .int (bI (ss_f (ss_may ((zf_c (ss_F T), (sf_fr (sf_rd (zf_c (ss_F T)) (zf_e (ss_F T)) i)).2), (ss_L T), ss_r T, ss_f T, ss_a T, ss_n T, ss_d T)).2)), .int (bI (ss_a T)), .int (ss_n (ss_may ((zf_c (ss_F T), (sf_fr (sf_rd (zf_c (ss_F T)) (zf_e (ss_F T)) i)).2), (ss_L T), ss_r T, ss_f T, ss_a T, ss_n T, ss_d T)).2), .int (ss_d (ss_may ((zf_c (ss_F T), (sf_fr (sf_rd (zf_c (ss_F T)) (zf_e (ss_F T)) i)).2), (ss_L T), ss_r T, ss_f T, ss_a T, ss_n T, ss_d T)).2)])), (x 7, .inr (3, [.int (nI (bc)), .int (nI (bp)), .ref (x 8), .ref (x 9), .ref (x 10), .ref (x 11), .int (oN (zl_h (ss_L T))), .int (zl_x (ss_L T)), .int (nI (bc * bp)), .ref (x 12)])), (x 8, .inl (cI, bc * bp, .inl (zl_s (ss_L T)))), (x 9, .inl (cI, bc * bp, .inl (zl_k (ss_L T)))), (x 10, .inl (cI, bc * bp, .inl (zl_d (ss_L T)))), (x 11, .inl (cZ, bc * bp, .inl (bF (zl_m (ss_L T))))), (x 12, .inl (cZ, bc * bp, .inl (bF (zl_w (ss_L T)))))]) rfl (by decide) (by decide) rfl (by decide) rfl (Nat.le_of_ble_eq_true rfl) d_S_scrub_51 ?_
              refine z_st (stn := []) rfl ?_
              refine z_iincN (q := 1) (lvn := [(0, .ref (x 0)), (1, .int (nI (a + 1))), (2, .int (nI (i)))]) C0 d_S_scrub_54 rfl (by decide) [1, 0, 2] rfl ?_
              refine z_iincN (q := 2) (lvn := [(0, .ref (x 0)), (1, .int (nI (a + 1))), (2, .int (nI (i + 1)))]) C0 d_S_scrub_57 rfl (by decide) [1, 2, 0] rfl ?_
              refine z_gotoK (tgt := 14) C0 d_S_scrub_60 (by decide) ?_
              exact ih (i + 1) (a + 1) (((sf_put (zf_c (ss_F T)) ((sf_fr (sf_rd (zf_c (ss_F T)) (zf_e (ss_F T)) i)).2) i, (sf_fr (sf_rd (zf_c (ss_F T)) (zf_e (ss_F T)) i)).2), (ss_L T), ss_r (ss_may ((zf_c (ss_F T), (sf_fr (sf_rd (zf_c (ss_F T)) (zf_e (ss_F T)) i)).2), (ss_L T), ss_r T, ss_f T, ss_a T, ss_n T, ss_d T)).2, ss_f (ss_may ((zf_c (ss_F T), (sf_fr (sf_rd (zf_c (ss_F T)) (zf_e (ss_F T)) i)).2), (ss_L T), ss_r T, ss_f T, ss_a T, ss_n T, ss_d T)).2, ss_a T, ss_n (ss_may ((zf_c (ss_F T), (sf_fr (sf_rd (zf_c (ss_F T)) (zf_e (ss_F T)) i)).2), (ss_L T), ss_r T, ss_f T, ss_a T, ss_n T, ss_d T)).2, ss_d (ss_may ((zf_c (ss_F T), (sf_fr (sf_rd (zf_c (ss_F T)) (zf_e (ss_F T)) i)).2), (ss_L T), ss_r T, ss_f T, ss_a T, ss_n T, ss_d T)).2)) (by omega) (sc_low hlT (by omega) c33_4) (by rw [hR]; show (if (sc_f T i).1 = true then _ else _) = _; rw [if_pos (show (sc_f T i).1 = true from c33_4)]; show (if (ss_may (sc_s T i)).1 = true then _ else _) = _; rw [if_pos (show (ss_may (sc_s T i)).1 = true from c40_5), ss_mayE]; rfl)
            · skip
              refine z_bipush (v := -2) C0 d_S_scrub_43 (by decide) ?_
              exact z_iret C0 hA hQ hr d_S_scrub_45 (by rw [hR, show ss_scs (n + 1) i a T = (-2, (ss_may (sc_s T i)).2) from (by show (if (sc_f T i).1 = true then _ else _) = _; rw [if_pos (show (sc_f T i).1 = true from c33_4)]; show (if (ss_may (sc_s T i)).1 = true then _ else _) = _; exact if_neg (by rw [show (ss_may (sc_s T i)).1 = false from c40_5]; decide)), ss_mayE]; exact ⟨rfl, rfl⟩)
    exact lp14 (bc * bp) (0) (0) (S) (by omega) (hlow) (by unfold ss_scrub; rw [if_pos c4_1])
  · skip
    refine z_bipush (v := -2) C0 d_S_scrub_7 (by decide) ?_
    exact z_iret C0 hA hQ hr d_S_scrub_9 (by rw [show ss_scrub bc bp S = (-2, S) from (by unfold ss_scrub; exact if_neg (by rw [c4_1]; decide))]; exact ⟨rfl, rfl⟩)
