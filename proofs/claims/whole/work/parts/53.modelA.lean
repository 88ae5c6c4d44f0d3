set_option maxHeartbeats 4000000 in
set_option maxRecDepth 100000 in
theorem c_M_erasePage (l : Launch) (D : va_G) (cI cZ : ClassId) (y : Nat → Nat) (bc bp : Nat) (M : zm_S) (hB : zb_ok bc bp) (pg : Nat) (hp : pg < 20) : zc_Con l y_M_erasePage b_M_erasePage 3 none { frames := 0, cells := 0, slots := 0, locals := 0 } D cI cZ [.ref (y 0), .int (nI (pg))] (zm_W cI cZ y bc bp M) (zo none (zm_W cI cZ y bc bp (sm_sf M (sm_er pg (mm_f M))))) := by
  refine zc_start (by decide) (Nat.le_of_ble_eq_true rfl) ?_
  intro p e s m args below meth c A Q hA hQ C0 hr hin
  have C0 : zc_Cx p s m args meth c b_M_erasePage 3 R_M D cI cZ A := C0
  have hB0 := hB
  obtain ⟨hB1, hB2, hB3, hB4⟩ := hB
  have hN : bc * bp ≤ 20 := Nat.mul_le_mul hB2 hB4
  refine z_lvs (lvn := [(0, .ref (y 0)), (1, .int (nI (pg)))]) rfl ?_
  refine z_iconst (v := nI 0) C0 d_M_erasePage_0 (by decide) ?_
  refine z_istore_n (lvn := [(0, .ref (y 0)), (1, .int (nI (pg))), (2, .int (nI (0)))]) C0 d_M_erasePage_1 rfl (by decide) [1, 2, 0] rfl ?_
  have lp2 : ∀ (n : Nat) (k : Nat) (f : Nat → Int32), (k + n = 5) → (sm_ers pg 5 0 (mm_f M) = sm_ers pg n k f) → zc_Pt p l e { frames := 0, cells := 0, slots := 0, locals := 0 } s m args below meth c 3 D A 0 0 Q 2 [(0, .ref (y 0)), (1, .int (nI (pg))), (2, .int (nI (k)))] [] (zm_W cI cZ y bc bp (zmk f (mm_w M) (mm_q M) (mm_s M) (mm_k M) (mm_d M) (mm_h M) (mm_x M) (mm_r M) (mm_c M) (mm_a M) (mm_n M) (mm_t M) (mm_e M))) := by
    intro n
    induction n with
    | zero =>
      intro k f hi hR
      refine z_iload_n C0 d_M_erasePage_2 rfl 2 rfl ?_
      refine z_iconst (v := nI 5) C0 d_M_erasePage_3 (by decide) ?_
      refine z_icmpN_ge (tgt := 25) C0 d_M_erasePage_4 (by decide) (by omega) (by omega) (fun (c4_1 : 5 ≤ k) => ?_) (fun (c4_1 : k < 5) => ?_)
      · skip
        refine z_aload_n C0 d_M_erasePage_25 rfl 0 rfl ?_
        refine z_get C0 gf_M_7 0 rfl rfl d_M_erasePage_26 ?_
        refine z_bipush (v := nI 6) C0 d_M_erasePage_29 (by decide) ?_
        refine z_iload_n C0 d_M_erasePage_31 rfl 1 rfl ?_
        refine z_imulN C0 d_M_erasePage_32 ?_
        refine z_iconst (v := nI 5) C0 d_M_erasePage_33 (by decide) ?_
        refine z_iaddN C0 d_M_erasePage_34 ?_
        refine z_ldc (v := 262143) C0 ck_M_60 d_M_erasePage_35 ?_
        refine z_iast C0 1 rfl (by omega) (by omega) d_M_erasePage_37 ?_
        refine z_ws (wsn := zm_W cI cZ y bc bp (zmk (upd f (6 * pg + 5) (262143)) (mm_w M) (mm_q M) (mm_s M) (mm_k M) (mm_d M) (mm_h M) (mm_x M) (mm_r M) (mm_c M) (mm_a M) (mm_n M) (mm_t M) (mm_e M))) rfl ?_
        exact z_vret C0 hA hQ hr d_M_erasePage_38 (⟨rfl, by unfold sm_er; rw [hR]; rfl⟩)
      · exact absurd c4_1 (by omega)
    | succ n ih =>
      intro k f hi hR
      refine z_iload_n C0 d_M_erasePage_2 rfl 2 rfl ?_
      refine z_iconst (v := nI 5) C0 d_M_erasePage_3 (by decide) ?_
      refine z_icmpN_ge (tgt := 25) C0 d_M_erasePage_4 (by decide) (by omega) (by omega) (fun (c4_2 : 5 ≤ k) => ?_) (fun (c4_2 : k < 5) => ?_)
      · exact absurd c4_2 (by omega)
      · skip
        refine z_aload_n C0 d_M_erasePage_7 rfl 0 rfl ?_
        refine z_get C0 gf_M_7 0 rfl rfl d_M_erasePage_8 ?_
        refine z_bipush (v := nI 6) C0 d_M_erasePage_11 (by decide) ?_
        refine z_iload_n C0 d_M_erasePage_13 rfl 1 rfl ?_
        refine z_imulN C0 d_M_erasePage_14 ?_
        refine z_iload_n C0 d_M_erasePage_15 rfl 2 rfl ?_
        refine z_iaddN C0 d_M_erasePage_16 ?_
        refine z_iconst (v := -1) C0 d_M_erasePage_17 (by decide) ?_
        refine z_iast C0 1 rfl (by omega) (by omega) d_M_erasePage_18 ?_
        refine z_iincN (q := 2) (lvn := [(0, .ref (y 0)), (1, .int (nI (pg))), (2, .int (nI (k + 1)))]) C0 d_M_erasePage_19 rfl (by decide) [1, 2, 0] rfl ?_
        refine z_gotoK (tgt := 2) C0 d_M_erasePage_22 (by decide) ?_
        refine z_ws (wsn := zm_W cI cZ y bc bp (zmk (upd f (6 * pg + k) (-1)) (mm_w M) (mm_q M) (mm_s M) (mm_k M) (mm_d M) (mm_h M) (mm_x M) (mm_r M) (mm_c M) (mm_a M) (mm_n M) (mm_t M) (mm_e M))) rfl ?_
        exact ih (k + 1) (upd f (6 * pg + k) (-1)) (by omega) (by rw [hR]; rfl)
  exact lp2 (5) (0) (mm_f M) (by omega) (rfl)

set_option maxHeartbeats 4000000 in
set_option maxRecDepth 100000 in
theorem c_M_begin (l : Launch) (D : va_G) (cI cZ : ClassId) (y : Nat → Nat) (bc bp : Nat) (M : zm_S) (hB : zb_ok bc bp)   : zc_Con l y_M_begin b_M_begin 2 none { frames := 1, cells := 0, slots := 0, locals := 22 } D cI cZ [.ref (y 0)] (zm_W cI cZ y bc bp M) (zo none (zm_W cI cZ y bc bp (sm_begin M))) := by
  refine zc_start (by decide) (Nat.le_of_ble_eq_true rfl) ?_
  intro p e s m args below meth c A Q hA hQ C0 hr hin
  have C0 : zc_Cx p s m args meth c b_M_begin 2 R_M D cI cZ A := C0
  have hB0 := hB
  obtain ⟨hB1, hB2, hB3, hB4⟩ := hB
  have hN : bc * bp ≤ 20 := Nat.mul_le_mul hB2 hB4
  refine z_lvs (lvn := [(0, .ref (y 0))]) rfl ?_
  refine z_iconst (v := nI 0) C0 d_M_begin_0 (by decide) ?_
  refine z_istore_n (lvn := [(0, .ref (y 0)), (1, .int (nI (0)))]) C0 d_M_begin_1 rfl (by decide) [1, 0] rfl ?_
  have lp2 : ∀ (n : Nat) (i : Nat) (f : Nat → Int32) (w : Nat → Bool), (i + n = 20) → (sm_bgf 20 0 (mm_f M) = sm_bgf n i f) → (sm_bgw 20 0 (mm_w M) = sm_bgw n i w) → zc_Pt p l e { frames := 1, cells := 0, slots := 0, locals := 22 } s m args below meth c 2 D A 0 0 Q 2 [(0, .ref (y 0)), (1, .int (nI (i)))] [] (zm_W cI cZ y bc bp (zmk f w (mm_q M) (mm_s M) (mm_k M) (mm_d M) (mm_h M) (mm_x M) (mm_r M) (mm_c M) (mm_a M) (mm_n M) (mm_t M) (mm_e M))) := by
    intro n
    induction n with
    | zero =>
      intro i f w hi hR hR2
      refine z_iload_n C0 d_M_begin_2 rfl 1 rfl ?_
      refine z_bipush (v := nI 20) C0 d_M_begin_3 (by decide) ?_
      refine z_icmpN_ge (tgt := 26) C0 d_M_begin_5 (by decide) (by omega) (by omega) (fun (c5_1 : 20 ≤ i) => ?_) (fun (c5_1 : i < 20) => ?_)
      · skip
        refine z_aload_n C0 d_M_begin_26 rfl 0 rfl ?_
        refine z_iconst (v := -1) C0 d_M_begin_27 (by decide) ?_
        refine z_put C0 gf_M_39 pf_M_14 0 rfl rfl rfl (Nat.le_of_ble_eq_true rfl) d_M_begin_28 ?_
        refine z_aload_n C0 d_M_begin_31 rfl 0 rfl ?_
        refine z_iconst (v := nI 1) C0 d_M_begin_32 (by decide) ?_
        refine z_topi (x := nI 1) (xn := bI true) (by decide) ?_
        refine z_put C0 gf_M_65 pf_M_10 0 rfl (bI_nar _) (bI_fit _) (Nat.le_of_ble_eq_true rfl) d_M_begin_33 ?_
        refine z_aload_n C0 d_M_begin_36 rfl 0 rfl ?_
        refine z_iconst (v := nI 0) C0 d_M_begin_37 (by decide) ?_
        refine z_topi (x := nI 0) (xn := bI false) (by decide) ?_
        refine z_put C0 gf_M_69 pf_M_11 0 rfl (bI_nar _) (bI_fit _) (Nat.le_of_ble_eq_true rfl) d_M_begin_38 ?_
        refine z_aload_n C0 d_M_begin_41 rfl 0 rfl ?_
        refine z_iconst (v := -1) C0 d_M_begin_42 (by decide) ?_
        refine z_topi (x := -1) (xn := oN none) rfl ?_
        refine z_put C0 gf_M_32 pf_M_12 0 rfl rfl rfl (Nat.le_of_ble_eq_true rfl) d_M_begin_43 ?_
        refine z_aload_n C0 d_M_begin_46 rfl 0 rfl ?_
        refine z_iconst (v := 1) C0 d_M_begin_47 (by decide) ?_
        refine z_put C0 gf_M_36 pf_M_13 0 rfl rfl rfl (Nat.le_of_ble_eq_true rfl) d_M_begin_48 ?_
        refine z_ws (wsn := zm_W cI cZ y bc bp (zmk f w (mm_q M) (mm_s M) (mm_k M) (mm_d M) none 1 true false (-1) (mm_n M) (mm_t M) (mm_e M))) rfl ?_
        exact z_vret C0 hA hQ hr d_M_begin_51 (⟨rfl, by unfold sm_begin; rw [hR, hR2]; rfl⟩)
      · exact absurd c5_1 (by omega)
    | succ n ih =>
      intro i f w hi hR hR2
      refine z_iload_n C0 d_M_begin_2 rfl 1 rfl ?_
      refine z_bipush (v := nI 20) C0 d_M_begin_3 (by decide) ?_
      refine z_icmpN_ge (tgt := 26) C0 d_M_begin_5 (by decide) (by omega) (by omega) (fun (c5_2 : 20 ≤ i) => ?_) (fun (c5_2 : i < 20) => ?_)
      · exact absurd c5_2 (by omega)
      · skip
        refine z_aload_n C0 d_M_begin_8 rfl 0 rfl ?_
        refine z_iload_n C0 d_M_begin_9 rfl 1 rfl ?_
        refine z_allV (As := [.int (nI (i))]) (rest := []) C0 (c_M_erasePage l D cI cZ y bc bp (zmk f w (mm_q M) (mm_s M) (mm_k M) (mm_d M) (mm_h M) (mm_x M) (mm_r M) (mm_c M) (mm_a M) (mm_n M) (mm_t M) (mm_e M)) hB0 (i) (by omega)) mt_M_erasePage ml_M_61 vt_M_erasePage rfl rfl ⟨Nat.le_of_ble_eq_true rfl, Nat.le_of_ble_eq_true rfl⟩ ⟨rfl, rfl⟩ ⟨Nat.zero_le _, Nat.zero_le _⟩ rfl rfl (Nat.le_of_ble_eq_true rfl) d_M_begin_10 ?_
        refine z_st (stn := []) rfl ?_
        refine z_aload_n C0 d_M_begin_13 rfl 0 rfl ?_
        refine z_get C0 gf_M_16 0 rfl rfl d_M_begin_14 ?_
        refine z_iload_n C0 d_M_begin_17 rfl 1 rfl ?_
        refine z_iconst (v := nI 0) C0 d_M_begin_18 (by decide) ?_
        refine z_topi (x := nI 0) (xn := bI false) (by decide) ?_
        refine z_zast C0 3 rfl (by omega) (by omega) d_M_begin_19 ?_
        refine z_iincN (q := 1) (lvn := [(0, .ref (y 0)), (1, .int (nI (i + 1)))]) C0 d_M_begin_20 rfl (by decide) [1, 0] rfl ?_
        refine z_gotoK (tgt := 2) C0 d_M_begin_23 (by decide) ?_
        refine z_ws (wsn := zm_W cI cZ y bc bp (zmk (sm_er i (f)) (ub w (i) (false)) (mm_q M) (mm_s M) (mm_k M) (mm_d M) (mm_h M) (mm_x M) (mm_r M) (mm_c M) (mm_a M) (mm_n M) (mm_t M) (mm_e M))) rfl ?_
        exact ih (i + 1) (sm_er i (f)) (ub w (i) (false)) (by omega) (by rw [hR]; rfl) (by rw [hR2]; rfl)
  exact lp2 (20) (0) (mm_f M) (mm_w M) (by omega) (rfl) (rfl)

set_option maxHeartbeats 4000000 in
set_option maxRecDepth 100000 in
theorem c_M_init (l : Launch) (D : va_G) (cI cZ : ClassId) (y : Nat → Nat) (bc bp : Nat) (M : zm_S) (hB : zb_ok bc bp)   : zc_Con l y_M_init b_M_init 1 none { frames := 2, cells := 0, slots := 0, locals := 43 } D cI cZ [.ref (y 0)] (zm_W cI cZ y bc bp M) (zo none (zm_W cI cZ y bc bp (sm_begin M))) := by
  refine zc_start (by decide) (Nat.le_of_ble_eq_true rfl) ?_
  intro p e s m args below meth c A Q hA hQ C0 hr hin
  have C0 : zc_Cx p s m args meth c b_M_init 1 R_M D cI cZ A := C0
  have hB0 := hB
  obtain ⟨hB1, hB2, hB3, hB4⟩ := hB
  have hN : bc * bp ≤ 20 := Nat.mul_le_mul hB2 hB4
  refine z_lvs (lvn := [(0, .ref (y 0))]) rfl ?_
  refine z_aload_n C0 d_M_init_0 rfl 0 rfl ?_
  refine z_allV (As := []) (rest := []) C0 (c_M_begin l D cI cZ y bc bp M hB0  ) mt_M_begin ml_M_57 vt_M_begin rfl rfl ⟨Nat.le_of_ble_eq_true rfl, Nat.le_of_ble_eq_true rfl⟩ ⟨rfl, rfl⟩ ⟨Nat.zero_le _, Nat.zero_le _⟩ rfl rfl (Nat.le_of_ble_eq_true rfl) d_M_init_1 ?_
  refine z_st (stn := []) rfl ?_
  exact z_vret C0 hA hQ hr d_M_init_4 (⟨rfl, rfl⟩)

set_option maxHeartbeats 4000000 in
set_option maxRecDepth 100000 in
theorem c_M_bitOf (l : Launch) (D : va_G) (cI cZ : ClassId) (y : Nat → Nat) (bc bp : Nat) (M : zm_S) (hB : zb_ok bc bp) (pg : Nat) (i : Nat) (hp : pg < 20) (hi : i < 178) : zc_Con l y_M_bitOf b_M_bitOf 3 (some .int) { frames := 0, cells := 0, slots := 0, locals := 0 } D cI cZ [.ref (y 0), .int (nI (pg)), .int (nI (i))] (zm_W cI cZ y bc bp M) (zo (some (.int (bI (sm_bit (mm_f M) pg i)))) (zm_W cI cZ y bc bp M)) := by
  refine zc_start (by decide) (Nat.le_of_ble_eq_true rfl) ?_
  intro p e s m args below meth c A Q hA hQ C0 hr hin
  have C0 : zc_Cx p s m args meth c b_M_bitOf 3 R_M D cI cZ A := C0
  have hB0 := hB
  obtain ⟨hB1, hB2, hB3, hB4⟩ := hB
  have hN : bc * bp ≤ 20 := Nat.mul_le_mul hB2 hB4
  refine z_lvs (lvn := [(0, .ref (y 0)), (1, .int (nI (pg))), (2, .int (nI (i)))]) rfl ?_
  refine z_aload_n C0 d_M_bitOf_0 rfl 0 rfl ?_
  refine z_get C0 gf_M_7 0 rfl rfl d_M_bitOf_1 ?_
  refine z_bipush (v := nI 6) C0 d_M_bitOf_4 (by decide) ?_
  refine z_iload_n C0 d_M_bitOf_6 rfl 1 rfl ?_
  refine z_imulN C0 d_M_bitOf_7 ?_
  refine z_iload_n C0 d_M_bitOf_8 rfl 2 rfl ?_
  refine z_bipush (v := nI 32) C0 d_M_bitOf_9 (by decide) ?_
  refine z_idivN C0 d_M_bitOf_11 (by omega) (by omega) (by omega) ?_
  refine z_iaddN C0 d_M_bitOf_12 ?_
  refine z_iald C0 1 rfl (by omega) (by omega) d_M_bitOf_13 ?_
  refine z_iload_n C0 d_M_bitOf_14 rfl 2 rfl ?_
  refine z_bipush (v := nI 32) C0 d_M_bitOf_15 (by decide) ?_
  refine z_iremN C0 d_M_bitOf_17 (by omega) (by omega) (by omega) ?_
  refine z_ishr C0 d_M_bitOf_18 ?_
  refine z_iconst (v := 1) C0 d_M_bitOf_19 (by decide) ?_
  refine z_iand C0 d_M_bitOf_20 ?_
  refine z_top (vn := .int (bI (sm_bit (mm_f M) pg i))) (by rw [pb_s _ (by omega)]; rfl) ?_
  exact z_iret C0 hA hQ hr d_M_bitOf_21 (⟨rfl, rfl⟩)

set_option maxHeartbeats 4000000 in
set_option maxRecDepth 100000 in
theorem c_M_turn (l : Launch) (D : va_G) (cI cZ : ClassId) (y : Nat → Nat) (bc bp : Nat) (M : zm_S) (hB : zb_ok bc bp) (i : Nat) (hi : i < 178) : zc_Con l y_M_turn b_M_turn 2 none { frames := 0, cells := 0, slots := 0, locals := 0 } D cI cZ [.ref (y 0), .int (nI (i))] (zm_W cI cZ y bc bp M) (zo none (zm_W cI cZ y bc bp (sm_se M (ptn (mm_e M) i)))) := by
  refine zc_start (by decide) (Nat.le_of_ble_eq_true rfl) ?_
  intro p e s m args below meth c A Q hA hQ C0 hr hin
  have C0 : zc_Cx p s m args meth c b_M_turn 2 R_M D cI cZ A := C0
  have hB0 := hB
  obtain ⟨hB1, hB2, hB3, hB4⟩ := hB
  have hN : bc * bp ≤ 20 := Nat.mul_le_mul hB2 hB4
  refine z_lvs (lvn := [(0, .ref (y 0)), (1, .int (nI (i)))]) rfl ?_
  refine z_aload_n C0 d_M_turn_0 rfl 0 rfl ?_
  refine z_get C0 gf_M_42 0 rfl rfl d_M_turn_1 ?_
  refine z_iload_n C0 d_M_turn_4 rfl 1 rfl ?_
  refine z_bipush (v := nI 32) C0 d_M_turn_5 (by decide) ?_
  refine z_idivN C0 d_M_turn_7 (by omega) (by omega) (by omega) ?_
  refine z_aload_n C0 d_M_turn_8 rfl 0 rfl ?_
  refine z_get C0 gf_M_42 0 rfl rfl d_M_turn_9 ?_
  refine z_iload_n C0 d_M_turn_12 rfl 1 rfl ?_
  refine z_bipush (v := nI 32) C0 d_M_turn_13 (by decide) ?_
  refine z_idivN C0 d_M_turn_15 (by omega) (by omega) (by omega) ?_
  refine z_iald C0 8 rfl (by omega) (by omega) d_M_turn_16 ?_
  refine z_iconst (v := 1) C0 d_M_turn_17 (by decide) ?_
  refine z_iload_n C0 d_M_turn_18 rfl 1 rfl ?_
  refine z_bipush (v := nI 32) C0 d_M_turn_19 (by decide) ?_
  refine z_iremN C0 d_M_turn_21 (by omega) (by omega) (by omega) ?_
  refine z_ishl C0 d_M_turn_22 ?_
  refine z_ixor C0 d_M_turn_23 ?_
  refine z_iast C0 8 rfl (by omega) (by omega) d_M_turn_24 ?_
  refine z_ws (wsn := zm_W cI cZ y bc bp (zmk (mm_f M) (mm_w M) (mm_q M) (mm_s M) (mm_k M) (mm_d M) (mm_h M) (mm_x M) (mm_r M) (mm_c M) (mm_a M) (mm_n M) (mm_t M) (upd (mm_e M) (i / 32) (((mm_e M) (i / 32)) ^^^ (1 <<< ((nI (i % 32)) &&& 31)))))) rfl ?_
  exact z_vret C0 hA hQ hr d_M_turn_25 (⟨rfl, rfl⟩)

set_option maxHeartbeats 4000000 in
set_option maxRecDepth 100000 in
theorem c_M_checkOf (l : Launch) (D : va_G) (cI cZ : ClassId)  (va : Int32) (vb : Int32) (vc : Int32) (vd : Int32)  : zc_Con l y_M_checkOf b_M_checkOf 5 (some .int) { frames := 0, cells := 0, slots := 0, locals := 0 } D cI cZ [.int (va), .int (vb), .int (vc), .int (vd)] ([]) (zo (some (.int (pchk va vb vc vd))) ([])) := by
  refine zc_start (by decide) (Nat.le_of_ble_eq_true rfl) ?_
  intro p e s m args below meth c A Q hA hQ C0 hr hin
  have C0 : zc_Cx p s m args meth c b_M_checkOf 5 R_M D cI cZ A := C0
  refine z_lvs (lvn := [(0, .int (va)), (1, .int (vb)), (2, .int (vc)), (3, .int (vd))]) rfl ?_
  refine z_iload_n C0 d_M_checkOf_0 rfl 0 rfl ?_
  refine z_bipush (v := 31) C0 d_M_checkOf_1 (by decide) ?_
  refine z_imul C0 d_M_checkOf_3 ?_
  refine z_iload_n C0 d_M_checkOf_4 rfl 1 rfl ?_
  refine z_iadd C0 d_M_checkOf_5 ?_
  refine z_istore (lvn := [(0, .int (va)), (1, .int (vb)), (2, .int (vc)), (3, .int (vd)), (4, .int ((va * 31) + vb))]) C0 d_M_checkOf_6 (by decide) [1, 2, 3, 4, 0] rfl ?_
  refine z_iload C0 d_M_checkOf_8 4 rfl ?_
  refine z_bipush (v := 31) C0 d_M_checkOf_10 (by decide) ?_
  refine z_imul C0 d_M_checkOf_12 ?_
  refine z_iload_n C0 d_M_checkOf_13 rfl 2 rfl ?_
  refine z_iadd C0 d_M_checkOf_14 ?_
  refine z_istore (lvn := [(0, .int (va)), (1, .int (vb)), (2, .int (vc)), (3, .int (vd)), (4, .int ((((va * 31) + vb) * 31) + vc))]) C0 d_M_checkOf_15 (by decide) [1, 2, 3, 4, 0] rfl ?_
  refine z_iload C0 d_M_checkOf_17 4 rfl ?_
  refine z_bipush (v := 31) C0 d_M_checkOf_19 (by decide) ?_
  refine z_imul C0 d_M_checkOf_21 ?_
  refine z_iload_n C0 d_M_checkOf_22 rfl 3 rfl ?_
  refine z_iadd C0 d_M_checkOf_23 ?_
  refine z_istore (lvn := [(0, .int (va)), (1, .int (vb)), (2, .int (vc)), (3, .int (vd)), (4, .int ((((((va * 31) + vb) * 31) + vc) * 31) + vd))]) C0 d_M_checkOf_24 (by decide) [1, 2, 3, 4, 0] rfl ?_
  refine z_iload C0 d_M_checkOf_26 4 rfl ?_
  refine z_iload C0 d_M_checkOf_28 4 rfl ?_
  refine z_bipush (v := 15) C0 d_M_checkOf_30 (by decide) ?_
  refine z_iushr C0 d_M_checkOf_32 rfl ?_
  refine z_ixor C0 d_M_checkOf_33 ?_
  exact z_iret C0 hA hQ hr d_M_checkOf_34 (⟨rfl, rfl⟩)

set_option maxHeartbeats 4000000 in
set_option maxRecDepth 100000 in
theorem c_M_mends (l : Launch) (D : va_G) (cI cZ : ClassId) (y : Nat → Nat) (bc bp : Nat) (M : zm_S) (hB : zb_ok bc bp) (r : Nat) (hr0 : r < 262144) : zc_Con l y_M_mends b_M_mends 4 (some .boolean) { frames := 1, cells := 0, slots := 0, locals := 21 } D cI cZ [.ref (y 0), .int (nI (r))] (zm_W cI cZ y bc bp M) (zo (some (.int (bI ((sm_mend (mm_e M) r).1)))) (zm_W cI cZ y bc bp (sm_se M (sm_mend (mm_e M) r).2))) := by
  refine zc_start (by decide) (Nat.le_of_ble_eq_true rfl) ?_
  intro p e s m args below meth c A Q hA hQ C0 hr hin
  have C0 : zc_Cx p s m args meth c b_M_mends 4 R_M D cI cZ A := C0
  have hB0 := hB
  obtain ⟨hB1, hB2, hB3, hB4⟩ := hB
  have hN : bc * bp ≤ 20 := Nat.mul_le_mul hB2 hB4
  refine z_lvs (lvn := [(0, .ref (y 0)), (1, .int (nI (r)))]) rfl ?_
  refine z_iconst (v := nI 0) C0 d_M_mends_0 (by decide) ?_
  refine z_istore_n (lvn := [(0, .ref (y 0)), (1, .int (nI (r))), (2, .int (nI (0)))]) C0 d_M_mends_1 rfl (by decide) [1, 2, 0] rfl ?_
  have lp2 : ∀ (n : Nat) (i : Nat), (i + n = 178) → (km1 r 178 0 = km1 r n i) → zc_Pt p l e { frames := 1, cells := 0, slots := 0, locals := 21 } s m args below meth c 4 D A 0 0 Q 2 [(0, .ref (y 0)), (1, .int (nI (r))), (2, .int (nI (i)))] [] (zm_W cI cZ y bc bp M) := by
    intro n
    induction n with
    | zero =>
      intro i hi hR
      refine z_iload_n C0 d_M_mends_2 rfl 2 rfl ?_
      refine z_sipush (v := nI 178) C0 d_M_mends_3 (by decide) ?_
      refine z_icmpN_ge (tgt := 32) C0 d_M_mends_6 (by decide) (by omega) (by omega) (fun (c6_1 : 178 ≤ i) => ?_) (fun (c6_1 : i < 178) => ?_)
      · skip
        refine z_iconst (v := nI 0) C0 d_M_mends_32 (by decide) ?_
        refine z_istore_n (lvn := [(0, .ref (y 0)), (1, .int (nI (r))), (2, .int (nI (0)))]) C0 d_M_mends_33 rfl (by decide) [1, 2, 0] rfl ?_
        have lo : ∀ (n : Nat) (i2 : Nat), (i2 + n = 178) → (km2 r 178 0 = km2 r n i2) → zc_Pt p l e { frames := 1, cells := 0, slots := 0, locals := 21 } s m args below meth c 4 D A 0 0 Q 34 [(0, .ref (y 0)), (1, .int (nI (r))), (2, .int (nI (i2)))] [] (zm_W cI cZ y bc bp M) := by
          intro n
          induction n with
          | zero =>
            intro i2 hi2 hR2
            refine z_iload_n C0 d_M_mends_34 rfl 2 rfl ?_
            refine z_sipush (v := nI 178) C0 d_M_mends_35 (by decide) ?_
            refine z_icmpN_ge (tgt := 89) C0 d_M_mends_38 (by decide) (by omega) (by omega) (fun (c38_2 : 178 ≤ i2) => ?_) (fun (c38_2 : i2 < 178) => ?_)
            · skip
              refine z_iconst (v := nI 0) C0 d_M_mends_89 (by decide) ?_
              refine z_topi (x := nI 0) (xn := bI false) (by decide) ?_
              exact z_zret C0 hA hQ hr d_M_mends_90 (by have e1 : km1 r 178 0 = none := hR; rw [show sm_mend (mm_e M) r = (false, mm_e M) from (by unfold sm_mend; rw [e1]; show sm_mend2 (mm_e M) (km2 r 178 0) = _; rw [hR2]; rfl)]; exact ⟨rfl, rfl⟩)
            · exact absurd c38_2 (by omega)
          | succ n ih =>
            intro i2 hi2 hR2
            refine z_iload_n C0 d_M_mends_34 rfl 2 rfl ?_
            refine z_sipush (v := nI 178) C0 d_M_mends_35 (by decide) ?_
            refine z_icmpN_ge (tgt := 89) C0 d_M_mends_38 (by decide) (by omega) (by omega) (fun (c38_3 : 178 ≤ i2) => ?_) (fun (c38_3 : i2 < 178) => ?_)
            · exact absurd c38_3 (by omega)
            · skip
              refine z_iconst (v := nI 0) C0 d_M_mends_41 (by decide) ?_
              refine z_istore_n (lvn := [(0, .ref (y 0)), (1, .int (nI (r))), (2, .int (nI (i2))), (3, .int (nI (0)))]) C0 d_M_mends_42 rfl (by decide) [1, 2, 3, 0] rfl ?_
              have lj : ∀ (k : Nat) (j : Nat), (j + k = i2) → (km2j r i2 i2 0 = km2j r i2 k j) → zc_Pt p l e { frames := 1, cells := 0, slots := 0, locals := 21 } s m args below meth c 4 D A 0 0 Q 43 [(0, .ref (y 0)), (1, .int (nI (r))), (2, .int (nI (i2))), (3, .int (nI (j)))] [] (zm_W cI cZ y bc bp M) := by
                intro k
                induction k with
                | zero =>
                  intro j hi3 hR3
                  refine z_iload_n C0 d_M_mends_43 rfl 3 rfl ?_
                  refine z_iload_n C0 d_M_mends_44 rfl 2 rfl ?_
                  refine z_icmpN_ge (tgt := 83) C0 d_M_mends_45 (by decide) (by omega) (by omega) (fun (c45_4 : i2 ≤ j) => ?_) (fun (c45_4 : j < i2) => ?_)
                  · skip
                    refine z_iincN (q := 2) (lvn := [(0, .ref (y 0)), (1, .int (nI (r))), (2, .int (nI (i2 + 1))), (3, .int (nI (j)))]) C0 d_M_mends_83 rfl (by decide) [1, 2, 0, 3] rfl ?_
                    refine z_gotoK (tgt := 34) C0 d_M_mends_86 (by decide) ?_
                    refine z_lv [0, 1, 2] rfl ?_
                    exact ih (i2 + 1) (by omega) (by rw [hR2]; simp only [km2]; rw [hR3]; rfl)
                  · exact absurd c45_4 (by omega)
                | succ k ih =>
                  intro j hi3 hR3
                  refine z_iload_n C0 d_M_mends_43 rfl 3 rfl ?_
                  refine z_iload_n C0 d_M_mends_44 rfl 2 rfl ?_
                  refine z_icmpN_ge (tgt := 83) C0 d_M_mends_45 (by decide) (by omega) (by omega) (fun (c45_5 : i2 ≤ j) => ?_) (fun (c45_5 : j < i2) => ?_)
                  · exact absurd c45_5 (by omega)
                  · skip
                    refine z_aload_n C0 d_M_mends_48 rfl 0 rfl ?_
                    refine z_get C0 gf_M_13 0 rfl rfl d_M_mends_49 ?_
                    refine z_iload_n C0 d_M_mends_52 rfl 2 rfl ?_
                    refine z_iald C0 2 rfl (by omega) (by omega) d_M_mends_53 ?_
                    refine z_top (vn := .int (nI (kt i2))) (rfl) ?_
                    refine z_aload_n C0 d_M_mends_54 rfl 0 rfl ?_
                    refine z_get C0 gf_M_13 0 rfl rfl d_M_mends_55 ?_
                    refine z_iload_n C0 d_M_mends_58 rfl 3 rfl ?_
                    refine z_iald C0 2 rfl (by omega) (by omega) d_M_mends_59 ?_
                    refine z_top (vn := .int (nI (kt j))) (rfl) ?_
                    refine z_ixor C0 d_M_mends_60 ?_
                    refine z_top (vn := .int (nI (kt i2 ^^^ kt j))) (by rw [nx_xor]) ?_
                    refine z_iload_n C0 d_M_mends_61 rfl 1 rfl ?_
                    refine z_icmpN_ne (tgt := 77) C0 d_M_mends_62 (by decide) (by have := kx_lt (kt_lt1 (i := i2) (by omega)).1 (kt_lt1 (i := j) (by omega)).1; omega) (by omega) (fun (c62_6 : kt i2 ^^^ kt j ≠ r) => ?_) (fun (c62_6 : kt i2 ^^^ kt j = r) => ?_)
                    · skip
                      refine z_iincN (q := 3) (lvn := [(0, .ref (y 0)), (1, .int (nI (r))), (2, .int (nI (i2))), (3, .int (nI (j + 1)))]) C0 d_M_mends_77 rfl (by decide) [1, 2, 3, 0] rfl ?_
                      refine z_gotoK (tgt := 43) C0 d_M_mends_80 (by decide) ?_
                      exact ih (j + 1) (by omega) (by rw [hR3]; simp only [km2j]; rw [if_neg c62_6])
                    · skip
                      refine z_aload_n C0 d_M_mends_65 rfl 0 rfl ?_
                      refine z_iload_n C0 d_M_mends_66 rfl 2 rfl ?_
                      refine z_allV (As := [.int (nI (i2))]) (rest := []) C0 (c_M_turn l D cI cZ y bc bp M hB0 (i2) (by omega)) mt_M_turn ml_M_72 vt_M_turn rfl rfl ⟨Nat.le_of_ble_eq_true rfl, Nat.le_of_ble_eq_true rfl⟩ ⟨rfl, rfl⟩ ⟨Nat.zero_le _, Nat.zero_le _⟩ rfl rfl (Nat.le_of_ble_eq_true rfl) d_M_mends_67 ?_
                      refine z_st (stn := []) rfl ?_
                      refine z_aload_n C0 d_M_mends_70 rfl 0 rfl ?_
                      refine z_iload_n C0 d_M_mends_71 rfl 3 rfl ?_
                      refine z_allV (As := [.int (nI (j))]) (rest := []) C0 (c_M_turn l D cI cZ y bc bp (zmk (mm_f M) (mm_w M) (mm_q M) (mm_s M) (mm_k M) (mm_d M) (mm_h M) (mm_x M) (mm_r M) (mm_c M) (mm_a M) (mm_n M) (mm_t M) (ptn (mm_e M) i2)) hB0 (j) (by omega)) mt_M_turn ml_M_72 vt_M_turn rfl rfl ⟨Nat.le_of_ble_eq_true rfl, Nat.le_of_ble_eq_true rfl⟩ ⟨rfl, rfl⟩ ⟨Nat.zero_le _, Nat.zero_le _⟩ rfl rfl (Nat.le_of_ble_eq_true rfl) d_M_mends_72 ?_
                      refine z_st (stn := []) rfl ?_
                      refine z_iconst (v := nI 1) C0 d_M_mends_75 (by decide) ?_
                      refine z_topi (x := nI 1) (xn := bI true) (by decide) ?_
                      exact z_zret C0 hA hQ hr d_M_mends_76 (by have e1 : km1 r 178 0 = none := hR; rw [show sm_mend (mm_e M) r = (true, ptn (ptn (mm_e M) i2) j) from (by unfold sm_mend; rw [e1]; show sm_mend2 (mm_e M) (km2 r 178 0) = _; rw [hR2]; simp only [km2]; rw [hR3, show km2j r i2 (k + 1) j = some j from if_pos c62_6]; rfl)]; exact ⟨rfl, rfl⟩)
              exact lj (i2) (0) (by omega) (rfl)
        exact lo (178) (0) (by omega) (rfl)
      · exact absurd c6_1 (by omega)
    | succ n ih =>
      intro i hi hR
      refine z_iload_n C0 d_M_mends_2 rfl 2 rfl ?_
      refine z_sipush (v := nI 178) C0 d_M_mends_3 (by decide) ?_
      refine z_icmpN_ge (tgt := 32) C0 d_M_mends_6 (by decide) (by omega) (by omega) (fun (c6_7 : 178 ≤ i) => ?_) (fun (c6_7 : i < 178) => ?_)
      · exact absurd c6_7 (by omega)
      · skip
        refine z_aload_n C0 d_M_mends_9 rfl 0 rfl ?_
        refine z_get C0 gf_M_13 0 rfl rfl d_M_mends_10 ?_
        refine z_iload_n C0 d_M_mends_13 rfl 2 rfl ?_
        refine z_iald C0 2 rfl (by omega) (by omega) d_M_mends_14 ?_
        refine z_top (vn := .int (nI (kt i))) (rfl) ?_
        refine z_iload_n C0 d_M_mends_15 rfl 1 rfl ?_
        refine z_icmpN_ne (tgt := 26) C0 d_M_mends_16 (by decide) (by have := (kt_lt1 (i := i) (by omega)).1; omega) (by omega) (fun (c16_8 : kt i ≠ r) => ?_) (fun (c16_8 : kt i = r) => ?_)
        · skip
          refine z_iincN (q := 2) (lvn := [(0, .ref (y 0)), (1, .int (nI (r))), (2, .int (nI (i + 1)))]) C0 d_M_mends_26 rfl (by decide) [1, 2, 0] rfl ?_
          refine z_gotoK (tgt := 2) C0 d_M_mends_29 (by decide) ?_
          exact ih (i + 1) (by omega) (by rw [hR]; simp [km1, c6_7, c16_8])
        · skip
          refine z_aload_n C0 d_M_mends_19 rfl 0 rfl ?_
          refine z_iload_n C0 d_M_mends_20 rfl 2 rfl ?_
          refine z_allV (As := [.int (nI (i))]) (rest := []) C0 (c_M_turn l D cI cZ y bc bp M hB0 (i) (by omega)) mt_M_turn ml_M_72 vt_M_turn rfl rfl ⟨Nat.le_of_ble_eq_true rfl, Nat.le_of_ble_eq_true rfl⟩ ⟨rfl, rfl⟩ ⟨Nat.zero_le _, Nat.zero_le _⟩ rfl rfl (Nat.le_of_ble_eq_true rfl) d_M_mends_21 ?_
          refine z_st (stn := []) rfl ?_
          refine z_iconst (v := nI 1) C0 d_M_mends_24 (by decide) ?_
          refine z_topi (x := nI 1) (xn := bI true) (by decide) ?_
          exact z_zret C0 hA hQ hr d_M_mends_25 (by rw [show sm_mend (mm_e M) r = (true, ptn (mm_e M) i) from (by unfold sm_mend; rw [hR, show km1 r (n + 1) i = some i from if_pos c16_8]; rfl)]; exact ⟨rfl, rfl⟩)
  exact lp2 (178) (0) (by omega) (rfl)

set_option maxHeartbeats 4000000 in
set_option maxRecDepth 100000 in
theorem c_M_isKey (l : Launch) (D : va_G) (cI cZ : ClassId)  (k : Int32)  : zc_Con l y_M_isKey b_M_isKey 1 (some .boolean) { frames := 0, cells := 0, slots := 0, locals := 0 } D cI cZ [.int (k)] ([]) (zo (some (.int (bI (pkey k)))) ([])) := by
  refine zc_start (by decide) (Nat.le_of_ble_eq_true rfl) ?_
  intro p e s m args below meth c A Q hA hQ C0 hr hin
  have C0 : zc_Cx p s m args meth c b_M_isKey 1 R_M D cI cZ A := C0
  refine z_lvs (lvn := [(0, .int (k))]) rfl ?_
  refine z_iload_n C0 d_M_isKey_0 rfl 0 rfl ?_
  refine z_if_lt (tgt := 14) C0 d_M_isKey_1 (by decide) (fun (c1_1 : k < 0) => ?_) (fun (c1_1 : ¬ k < 0) => ?_)
  · skip
    refine z_iconst (v := nI 0) C0 d_M_isKey_14 (by decide) ?_
    refine z_topi (x := nI 0) (xn := bI false) (by decide) ?_
    exact z_zret C0 hA hQ hr d_M_isKey_15 (⟨by unfold pkey; rw [decide_eq_false (Int32.not_le.mpr c1_1), Bool.false_and], rfl⟩)
  · skip
    refine z_iload_n C0 d_M_isKey_4 rfl 0 rfl ?_
    refine z_bipush (v := 15) C0 d_M_isKey_5 (by decide) ?_
    refine z_icmp_gt (tgt := 14) C0 d_M_isKey_7 (by decide) (fun (c7_2 : 15 < k) => ?_) (fun (c7_2 : ¬ 15 < k) => ?_)
    · skip
      refine z_iconst (v := nI 0) C0 d_M_isKey_14 (by decide) ?_
      refine z_topi (x := nI 0) (xn := bI false) (by decide) ?_
      exact z_zret C0 hA hQ hr d_M_isKey_15 (⟨by unfold pkey; rw [decide_eq_false (fun z => Int32.not_lt.mpr (k_15.mp z) c7_2), Bool.and_false], rfl⟩)
    · skip
      refine z_iconst (v := nI 1) C0 d_M_isKey_10 (by decide) ?_
      refine z_gotoK (tgt := 15) C0 d_M_isKey_11 (by decide) ?_
      refine z_topi (x := nI 1) (xn := bI true) (by decide) ?_
      exact z_zret C0 hA hQ hr d_M_isKey_15 (⟨by unfold pkey; rw [decide_eq_true (Int32.not_lt.mp c1_1), decide_eq_true (k_15.mpr (Int32.not_lt.mp c7_2))]; rfl, rfl⟩)

set_option maxHeartbeats 4000000 in
set_option maxRecDepth 100000 in
theorem c_M_isPage (l : Launch) (D : va_G) (cI cZ : ClassId) (y : Nat → Nat) (bc bp : Nat) (M : zm_S) (hB : zb_ok bc bp) (pg : Int32)  : zc_Con l y_M_isPage b_M_isPage 2 (some .boolean) { frames := 0, cells := 0, slots := 0, locals := 0 } D cI cZ [.ref (y 0), .int (pg)] (zm_W cI cZ y bc bp M) (zo (some (.int (bI (spg (bc * bp) pg)))) (zm_W cI cZ y bc bp M)) := by
  refine zc_start (by decide) (Nat.le_of_ble_eq_true rfl) ?_
  intro p e s m args below meth c A Q hA hQ C0 hr hin
  have C0 : zc_Cx p s m args meth c b_M_isPage 2 R_M D cI cZ A := C0
  have hB0 := hB
  obtain ⟨hB1, hB2, hB3, hB4⟩ := hB
  have hN : bc * bp ≤ 20 := Nat.mul_le_mul hB2 hB4
  refine z_lvs (lvn := [(0, .ref (y 0)), (1, .int (pg))]) rfl ?_
  refine z_iload_n C0 d_M_isPage_0 rfl 1 rfl ?_
  refine z_if_lt (tgt := 16) C0 d_M_isPage_1 (by decide) (fun (c1_1 : pg < 0) => ?_) (fun (c1_1 : ¬ pg < 0) => ?_)
  · skip
    refine z_iconst (v := nI 0) C0 d_M_isPage_16 (by decide) ?_
    refine z_topi (x := nI 0) (xn := bI false) (by decide) ?_
    exact z_zret C0 hA hQ hr d_M_isPage_17 (⟨by unfold spg; rw [decide_eq_false (Int32.not_le.mpr c1_1), Bool.false_and], rfl⟩)
  · skip
    refine z_iload_n C0 d_M_isPage_4 rfl 1 rfl ?_
    refine z_aload_n C0 d_M_isPage_5 rfl 0 rfl ?_
    refine z_get C0 gf_M_51 0 rfl rfl d_M_isPage_6 ?_
    refine z_icmp_ge (tgt := 16) C0 d_M_isPage_9 (by decide) (fun (c9_2 : (nI (bc * bp)) ≤ pg) => ?_) (fun (c9_2 : ¬ (nI (bc * bp)) ≤ pg) => ?_)
    · skip
      refine z_iconst (v := nI 0) C0 d_M_isPage_16 (by decide) ?_
      refine z_topi (x := nI 0) (xn := bI false) (by decide) ?_
      exact z_zret C0 hA hQ hr d_M_isPage_17 (⟨by unfold spg; rw [decide_eq_false (Int32.not_lt.mpr c9_2), Bool.and_false], rfl⟩)
    · skip
      refine z_iconst (v := nI 1) C0 d_M_isPage_12 (by decide) ?_
      refine z_gotoK (tgt := 17) C0 d_M_isPage_13 (by decide) ?_
      refine z_topi (x := nI 1) (xn := bI true) (by decide) ?_
      exact z_zret C0 hA hQ hr d_M_isPage_17 (⟨by unfold spg; rw [decide_eq_true (Int32.not_lt.mp c1_1), decide_eq_true (Int32.not_le.mp c9_2)]; rfl, rfl⟩)

set_option maxHeartbeats 4000000 in
set_option maxRecDepth 100000 in
theorem c_M_crashed (l : Launch) (D : va_G) (cI cZ : ClassId) (y : Nat → Nat) (bc bp : Nat) (M : zm_S) (hB : zb_ok bc bp)   : zc_Con l y_M_crashed b_M_crashed 1 (some .boolean) { frames := 0, cells := 0, slots := 0, locals := 0 } D cI cZ [.ref (y 0)] (zm_W cI cZ y bc bp M) (zo (some (.int (bI (mm_c M)))) (zm_W cI cZ y bc bp M)) := by
  refine zc_start (by decide) (Nat.le_of_ble_eq_true rfl) ?_
  intro p e s m args below meth c A Q hA hQ C0 hr hin
  have C0 : zc_Cx p s m args meth c b_M_crashed 1 R_M D cI cZ A := C0
  have hB0 := hB
  obtain ⟨hB1, hB2, hB3, hB4⟩ := hB
  have hN : bc * bp ≤ 20 := Nat.mul_le_mul hB2 hB4
  refine z_lvs (lvn := [(0, .ref (y 0))]) rfl ?_
  refine z_aload_n C0 d_M_crashed_0 rfl 0 rfl ?_
  refine z_get C0 gf_M_69 0 rfl rfl d_M_crashed_1 ?_
  exact z_zret C0 hA hQ hr d_M_crashed_4 (⟨rfl, rfl⟩)

set_option maxHeartbeats 4000000 in
set_option maxRecDepth 100000 in
theorem c_M_acts (l : Launch) (D : va_G) (cI cZ : ClassId) (y : Nat → Nat) (bc bp : Nat) (M : zm_S) (hB : zb_ok bc bp)   : zc_Con l y_M_acts b_M_acts 1 (some .int) { frames := 0, cells := 0, slots := 0, locals := 0 } D cI cZ [.ref (y 0)] (zm_W cI cZ y bc bp M) (zo (some (.int (mm_n M))) (zm_W cI cZ y bc bp M)) := by
  refine zc_start (by decide) (Nat.le_of_ble_eq_true rfl) ?_
  intro p e s m args below meth c A Q hA hQ C0 hr hin
  have C0 : zc_Cx p s m args meth c b_M_acts 1 R_M D cI cZ A := C0
  have hB0 := hB
  obtain ⟨hB1, hB2, hB3, hB4⟩ := hB
  have hN : bc * bp ≤ 20 := Nat.mul_le_mul hB2 hB4
  refine z_lvs (lvn := [(0, .ref (y 0))]) rfl ?_
  refine z_aload_n C0 d_M_acts_0 rfl 0 rfl ?_
  refine z_get C0 gf_M_104 0 rfl rfl d_M_acts_1 ?_
  exact z_iret C0 hA hQ hr d_M_acts_4 (⟨rfl, rfl⟩)

set_option maxHeartbeats 4000000 in
set_option maxRecDepth 100000 in
theorem c_M_head (l : Launch) (D : va_G) (cI cZ : ClassId) (y : Nat → Nat) (bc bp : Nat) (M : zm_S) (hB : zb_ok bc bp)   : zc_Con l y_M_head b_M_head 1 (some .int) { frames := 0, cells := 0, slots := 0, locals := 0 } D cI cZ [.ref (y 0)] (zm_W cI cZ y bc bp M) (zo (some (.int (if mm_r M = true then oN (mm_h M) else -2))) (zm_W cI cZ y bc bp M)) := by
  refine zc_start (by decide) (Nat.le_of_ble_eq_true rfl) ?_
  intro p e s m args below meth c A Q hA hQ C0 hr hin
  have C0 : zc_Cx p s m args meth c b_M_head 1 R_M D cI cZ A := C0
  have hB0 := hB
  obtain ⟨hB1, hB2, hB3, hB4⟩ := hB
  have hN : bc * bp ≤ 20 := Nat.mul_le_mul hB2 hB4
  refine z_lvs (lvn := [(0, .ref (y 0))]) rfl ?_
  refine z_aload_n C0 d_M_head_0 rfl 0 rfl ?_
  refine z_get C0 gf_M_65 0 rfl rfl d_M_head_1 ?_
  refine z_ifB_eq (tgt := 14) C0 d_M_head_4 (by decide) (fun (c4_1 : mm_r M = false) => ?_) (fun (c4_1 : mm_r M = true) => ?_)
  · skip
    refine z_bipush (v := -2) C0 d_M_head_14 (by decide) ?_
    exact z_iret C0 hA hQ hr d_M_head_16 (⟨by rw [if_neg (by rw [c4_1]; decide)], rfl⟩)
  · skip
    refine z_aload_n C0 d_M_head_7 rfl 0 rfl ?_
    refine z_get C0 gf_M_32 0 rfl rfl d_M_head_8 ?_
    refine z_gotoK (tgt := 16) C0 d_M_head_11 (by decide) ?_
    exact z_iret C0 hA hQ hr d_M_head_16 (⟨by rw [if_pos c4_1], rfl⟩)

set_option maxHeartbeats 4000000 in
set_option maxRecDepth 100000 in
theorem c_M_arm (l : Launch) (D : va_G) (cI cZ : ClassId) (y : Nat → Nat) (bc bp : Nat) (M : zm_S) (hB : zb_ok bc bp) (nv : Int32)  : zc_Con l y_M_arm b_M_arm 2 (some .boolean) { frames := 0, cells := 0, slots := 0, locals := 0 } D cI cZ [.ref (y 0), .int (nv)] (zm_W cI cZ y bc bp M) (zo (some (.int (bI ((sm_arm M nv).1)))) (zm_W cI cZ y bc bp ((sm_arm M nv).2))) := by
  refine zc_start (by decide) (Nat.le_of_ble_eq_true rfl) ?_
  intro p e s m args below meth c A Q hA hQ C0 hr hin
  have C0 : zc_Cx p s m args meth c b_M_arm 2 R_M D cI cZ A := C0
  have hB0 := hB
  obtain ⟨hB1, hB2, hB3, hB4⟩ := hB
  have hN : bc * bp ≤ 20 := Nat.mul_le_mul hB2 hB4
  refine z_lvs (lvn := [(0, .ref (y 0)), (1, .int (nv))]) rfl ?_
  refine z_iload_n C0 d_M_arm_0 rfl 1 rfl ?_
  refine z_if_ge (tgt := 6) C0 d_M_arm_1 (by decide) (fun (c1_1 : 0 ≤ nv) => ?_) (fun (c1_1 : ¬ 0 ≤ nv) => ?_)
  · skip
    refine z_aload_n C0 d_M_arm_6 rfl 0 rfl ?_
    refine z_iload_n C0 d_M_arm_7 rfl 1 rfl ?_
    refine z_put C0 gf_M_39 pf_M_14 0 rfl rfl rfl (Nat.le_of_ble_eq_true rfl) d_M_arm_8 ?_
    refine z_iconst (v := nI 1) C0 d_M_arm_11 (by decide) ?_
    refine z_ws (wsn := zm_W cI cZ y bc bp (zmk (mm_f M) (mm_w M) (mm_q M) (mm_s M) (mm_k M) (mm_d M) (mm_h M) (mm_x M) (mm_r M) (mm_c M) nv (mm_n M) (mm_t M) (mm_e M))) rfl ?_
    refine z_topi (x := nI 1) (xn := bI true) (by decide) ?_
    exact z_zret C0 hA hQ hr d_M_arm_12 (by rw [show sm_arm M nv = (true, (zmk (mm_f M) (mm_w M) (mm_q M) (mm_s M) (mm_k M) (mm_d M) (mm_h M) (mm_x M) (mm_r M) (mm_c M) nv (mm_n M) (mm_t M) (mm_e M))) from if_neg (Int32.not_lt.mpr c1_1)]; exact ⟨rfl, rfl⟩)
  · skip
    refine z_iconst (v := nI 0) C0 d_M_arm_4 (by decide) ?_
    refine z_topi (x := nI 0) (xn := bI false) (by decide) ?_
    exact z_zret C0 hA hQ hr d_M_arm_5 (by rw [show sm_arm M nv = (false, M) from if_pos (Int32.not_le.mp c1_1)]; exact ⟨rfl, rfl⟩)

set_option maxHeartbeats 4000000 in
set_option maxRecDepth 100000 in
theorem c_M_act (l : Launch) (D : va_G) (cI cZ : ClassId) (y : Nat → Nat) (bc bp : Nat) (M : zm_S) (hB : zb_ok bc bp)   : zc_Con l y_M_act b_M_act 1 (some .boolean) { frames := 0, cells := 0, slots := 0, locals := 0 } D cI cZ [.ref (y 0)] (zm_W cI cZ y bc bp M) (zo (some (.int (bI ((sm_act M).1)))) (zm_W cI cZ y bc bp ((zmk (mm_f M) (mm_w M) (mm_q M) (mm_s M) (mm_k M) (mm_d M) (mm_h M) (mm_x M) (mm_r (sm_act M).2) (mm_c (sm_act M).2) (mm_a (sm_act M).2) (mm_n (sm_act M).2) (mm_t M) (mm_e M))))) := by
  refine zc_start (by decide) (Nat.le_of_ble_eq_true rfl) ?_
  intro p e s m args below meth c A Q hA hQ C0 hr hin
  have C0 : zc_Cx p s m args meth c b_M_act 1 R_M D cI cZ A := C0
  have hB0 := hB
  obtain ⟨hB1, hB2, hB3, hB4⟩ := hB
  have hN : bc * bp ≤ 20 := Nat.mul_le_mul hB2 hB4
  refine z_lvs (lvn := [(0, .ref (y 0))]) rfl ?_
  refine z_aload_n C0 d_M_act_0 rfl 0 rfl ?_
  refine z_get C0 gf_M_39 0 rfl rfl d_M_act_1 ?_
  refine z_if_ne (tgt := 19) C0 d_M_act_4 (by decide) (fun (c4_1 : ¬ mm_a M = 0) => ?_) (fun (c4_1 : mm_a M = 0) => ?_)
  · skip
    refine z_aload_n C0 d_M_act_19 rfl 0 rfl ?_
    refine z_aload_n C0 d_M_act_20 rfl 0 rfl ?_
    refine z_get C0 gf_M_39 0 rfl rfl d_M_act_21 ?_
    refine z_if_le (tgt := 36) C0 d_M_act_24 (by decide) (fun (c24_2 : mm_a M ≤ 0) => ?_) (fun (c24_2 : ¬ mm_a M ≤ 0) => ?_)
    · skip
      refine z_aload_n C0 d_M_act_36 rfl 0 rfl ?_
      refine z_get C0 gf_M_39 0 rfl rfl d_M_act_37 ?_
      refine z_put C0 gf_M_39 pf_M_14 0 rfl rfl rfl (Nat.le_of_ble_eq_true rfl) d_M_act_40 ?_
      refine z_aload_n C0 d_M_act_43 rfl 0 rfl ?_
      refine z_dup C0 d_M_act_44 rfl ?_
      refine z_get C0 gf_M_104 0 rfl rfl d_M_act_45 ?_
      refine z_iconst (v := 1) C0 d_M_act_48 (by decide) ?_
      refine z_iadd C0 d_M_act_49 ?_
      refine z_put C0 gf_M_104 pf_M_15 0 rfl rfl rfl (Nat.le_of_ble_eq_true rfl) d_M_act_50 ?_
      refine z_iconst (v := nI 1) C0 d_M_act_53 (by decide) ?_
      refine z_ws (wsn := zm_W cI cZ y bc bp (zmk (mm_f M) (mm_w M) (mm_q M) (mm_s M) (mm_k M) (mm_d M) (mm_h M) (mm_x M) (mm_r M) (mm_c M) (mm_a M) ((mm_n M) + 1) (mm_t M) (mm_e M))) rfl ?_
      refine z_topi (x := nI 1) (xn := bI true) (by decide) ?_
      exact z_zret C0 hA hQ hr d_M_act_54 (by rw [← sm_actE, show sm_act M = (true, (zmk (mm_f M) (mm_w M) (mm_q M) (mm_s M) (mm_k M) (mm_d M) (mm_h M) (mm_x M) (mm_r M) (mm_c M) ((if 0 < mm_a M then mm_a M - 1 else mm_a M)) (mm_n M + 1) (mm_t M) (mm_e M))) from if_neg c4_1]; rw [if_neg (Int32.not_lt.mpr c24_2)]; exact ⟨rfl, rfl⟩)
    · skip
      refine z_aload_n C0 d_M_act_27 rfl 0 rfl ?_
      refine z_get C0 gf_M_39 0 rfl rfl d_M_act_28 ?_
      refine z_iconst (v := 1) C0 d_M_act_31 (by decide) ?_
      refine z_isub C0 d_M_act_32 ?_
      refine z_gotoK (tgt := 40) C0 d_M_act_33 (by decide) ?_
      refine z_put C0 gf_M_39 pf_M_14 0 rfl rfl rfl (Nat.le_of_ble_eq_true rfl) d_M_act_40 ?_
      refine z_aload_n C0 d_M_act_43 rfl 0 rfl ?_
      refine z_dup C0 d_M_act_44 rfl ?_
      refine z_get C0 gf_M_104 0 rfl rfl d_M_act_45 ?_
      refine z_iconst (v := 1) C0 d_M_act_48 (by decide) ?_
      refine z_iadd C0 d_M_act_49 ?_
      refine z_put C0 gf_M_104 pf_M_15 0 rfl rfl rfl (Nat.le_of_ble_eq_true rfl) d_M_act_50 ?_
      refine z_iconst (v := nI 1) C0 d_M_act_53 (by decide) ?_
      refine z_ws (wsn := zm_W cI cZ y bc bp (zmk (mm_f M) (mm_w M) (mm_q M) (mm_s M) (mm_k M) (mm_d M) (mm_h M) (mm_x M) (mm_r M) (mm_c M) ((mm_a M) - 1) ((mm_n M) + 1) (mm_t M) (mm_e M))) rfl ?_
      refine z_topi (x := nI 1) (xn := bI true) (by decide) ?_
      exact z_zret C0 hA hQ hr d_M_act_54 (by rw [← sm_actE, show sm_act M = (true, (zmk (mm_f M) (mm_w M) (mm_q M) (mm_s M) (mm_k M) (mm_d M) (mm_h M) (mm_x M) (mm_r M) (mm_c M) ((if 0 < mm_a M then mm_a M - 1 else mm_a M)) (mm_n M + 1) (mm_t M) (mm_e M))) from if_neg c4_1]; rw [if_pos (Int32.not_le.mp c24_2)]; exact ⟨rfl, rfl⟩)
  · skip
    refine z_aload_n C0 d_M_act_7 rfl 0 rfl ?_
    refine z_iconst (v := nI 1) C0 d_M_act_8 (by decide) ?_
    refine z_topi (x := nI 1) (xn := bI true) (by decide) ?_
    refine z_put C0 gf_M_69 pf_M_11 0 rfl (bI_nar _) (bI_fit _) (Nat.le_of_ble_eq_true rfl) d_M_act_9 ?_
    refine z_aload_n C0 d_M_act_12 rfl 0 rfl ?_
    refine z_iconst (v := nI 0) C0 d_M_act_13 (by decide) ?_
    refine z_topi (x := nI 0) (xn := bI false) (by decide) ?_
    refine z_put C0 gf_M_65 pf_M_10 0 rfl (bI_nar _) (bI_fit _) (Nat.le_of_ble_eq_true rfl) d_M_act_14 ?_
    refine z_iconst (v := nI 0) C0 d_M_act_17 (by decide) ?_
    refine z_ws (wsn := zm_W cI cZ y bc bp (zmk (mm_f M) (mm_w M) (mm_q M) (mm_s M) (mm_k M) (mm_d M) (mm_h M) (mm_x M) false true (mm_a M) (mm_n M) (mm_t M) (mm_e M))) rfl ?_
    refine z_topi (x := nI 0) (xn := bI false) (by decide) ?_
    exact z_zret C0 hA hQ hr d_M_act_18 (by rw [← sm_actE, show sm_act M = (false, (zmk (mm_f M) (mm_w M) (mm_q M) (mm_s M) (mm_k M) (mm_d M) (mm_h M) (mm_x M) false true (mm_a M) (mm_n M) (mm_t M) (mm_e M))) from if_pos c4_1]; exact ⟨rfl, rfl⟩)

set_option maxHeartbeats 4000000 in
set_option maxRecDepth 100000 in
theorem c_M_writtenOf (l : Launch) (D : va_G) (cI cZ : ClassId) (y : Nat → Nat) (bc bp : Nat) (M : zm_S) (hB : zb_ok bc bp) (b : Nat) (hb : b < bc) : zc_Con l y_M_writtenOf b_M_writtenOf 4 (some .int) { frames := 0, cells := 0, slots := 0, locals := 0 } D cI cZ [.ref (y 0), .int (nI (b))] (zm_W cI cZ y bc bp M) (zo (some (.int (nI (sm_wr bp (mm_w M) b)))) (zm_W cI cZ y bc bp M)) := by
  refine zc_start (by decide) (Nat.le_of_ble_eq_true rfl) ?_
  intro p e s m args below meth c A Q hA hQ C0 hr hin
  have C0 : zc_Cx p s m args meth c b_M_writtenOf 4 R_M D cI cZ A := C0
  have hB0 := hB
  obtain ⟨hB1, hB2, hB3, hB4⟩ := hB
  have hN : bc * bp ≤ 20 := Nat.mul_le_mul hB2 hB4
  have hblk := zq_blk (bp := bp) hb
  refine z_lvs (lvn := [(0, .ref (y 0)), (1, .int (nI (b)))]) rfl ?_
  refine z_iconst (v := nI 0) C0 d_M_writtenOf_0 (by decide) ?_
  refine z_istore_n (lvn := [(0, .ref (y 0)), (1, .int (nI (b))), (2, .int (nI (0)))]) C0 d_M_writtenOf_1 rfl (by decide) [1, 2, 0] rfl ?_
  refine z_iload_n C0 d_M_writtenOf_2 rfl 1 rfl ?_
  refine z_aload_n C0 d_M_writtenOf_3 rfl 0 rfl ?_
  refine z_get C0 gf_M_48 0 rfl rfl d_M_writtenOf_4 ?_
  refine z_imulN C0 d_M_writtenOf_7 ?_
  refine z_istore_n (lvn := [(0, .ref (y 0)), (1, .int (nI (b))), (2, .int (nI (0))), (3, .int (nI (b * bp)))]) C0 d_M_writtenOf_8 rfl (by decide) [1, 2, 3, 0] rfl ?_
  have lp9 : ∀ (n : Nat) (i : Nat) (a : Nat), (i + n = b * bp + bp) → (sm_wr bp (mm_w M) b = sm_wrs (mm_w M) n i a) → zc_Pt p l e { frames := 0, cells := 0, slots := 0, locals := 0 } s m args below meth c 4 D A 0 0 Q 9 [(0, .ref (y 0)), (1, .int (nI (b))), (2, .int (nI (a))), (3, .int (nI (i)))] [] (zm_W cI cZ y bc bp M) := by
    intro n
    induction n with
    | zero =>
      intro i a hi hR
      refine z_iload_n C0 d_M_writtenOf_9 rfl 3 rfl ?_
      refine z_iload_n C0 d_M_writtenOf_10 rfl 1 rfl ?_
      refine z_aload_n C0 d_M_writtenOf_11 rfl 0 rfl ?_
      refine z_get C0 gf_M_48 0 rfl rfl d_M_writtenOf_12 ?_
      refine z_imulN C0 d_M_writtenOf_15 ?_
      refine z_aload_n C0 d_M_writtenOf_16 rfl 0 rfl ?_
      refine z_get C0 gf_M_48 0 rfl rfl d_M_writtenOf_17 ?_
      refine z_iaddN C0 d_M_writtenOf_20 ?_
      refine z_icmpN_ge (tgt := 47) C0 d_M_writtenOf_21 (by decide) (by omega) (by omega) (fun (c21_1 : b * bp + bp ≤ i) => ?_) (fun (c21_1 : i < b * bp + bp) => ?_)
      · skip
        refine z_iload_n C0 d_M_writtenOf_47 rfl 2 rfl ?_
        exact z_iret C0 hA hQ hr d_M_writtenOf_48 (⟨by rw [hR]; rfl, rfl⟩)
      · exact absurd c21_1 (by omega)
    | succ n ih =>
      intro i a hi hR
      refine z_iload_n C0 d_M_writtenOf_9 rfl 3 rfl ?_
      refine z_iload_n C0 d_M_writtenOf_10 rfl 1 rfl ?_
      refine z_aload_n C0 d_M_writtenOf_11 rfl 0 rfl ?_
      refine z_get C0 gf_M_48 0 rfl rfl d_M_writtenOf_12 ?_
      refine z_imulN C0 d_M_writtenOf_15 ?_
      refine z_aload_n C0 d_M_writtenOf_16 rfl 0 rfl ?_
      refine z_get C0 gf_M_48 0 rfl rfl d_M_writtenOf_17 ?_
      refine z_iaddN C0 d_M_writtenOf_20 ?_
      refine z_icmpN_ge (tgt := 47) C0 d_M_writtenOf_21 (by decide) (by omega) (by omega) (fun (c21_2 : b * bp + bp ≤ i) => ?_) (fun (c21_2 : i < b * bp + bp) => ?_)
      · exact absurd c21_2 (by omega)
      · skip
        refine z_aload_n C0 d_M_writtenOf_24 rfl 0 rfl ?_
        refine z_get C0 gf_M_16 0 rfl rfl d_M_writtenOf_25 ?_
        refine z_iload_n C0 d_M_writtenOf_28 rfl 3 rfl ?_
        refine z_zald C0 3 rfl (by omega) (by omega) d_M_writtenOf_29 ?_
        refine z_ifB_eq (tgt := 39) C0 d_M_writtenOf_30 (by decide) (fun (c30_3 : (mm_w M) (i) = false) => ?_) (fun (c30_3 : (mm_w M) (i) = true) => ?_)
        · skip
          refine z_iload_n C0 d_M_writtenOf_39 rfl 2 rfl ?_
          refine z_istore_n (lvn := [(0, .ref (y 0)), (1, .int (nI (b))), (2, .int (nI (a))), (3, .int (nI (i)))]) C0 d_M_writtenOf_40 rfl (by decide) [1, 2, 0, 3] rfl ?_
          refine z_iincN (q := 3) (lvn := [(0, .ref (y 0)), (1, .int (nI (b))), (2, .int (nI (a))), (3, .int (nI (i + 1)))]) C0 d_M_writtenOf_41 rfl (by decide) [1, 2, 3, 0] rfl ?_
          refine z_gotoK (tgt := 9) C0 d_M_writtenOf_44 (by decide) ?_
          exact ih (i + 1) (a) (by omega) (by rw [hR]; simp [sm_wrs, c21_2, c30_3])
        · skip
          refine z_iload_n C0 d_M_writtenOf_33 rfl 2 rfl ?_
          refine z_iconst (v := nI 1) C0 d_M_writtenOf_34 (by decide) ?_
          refine z_iaddN C0 d_M_writtenOf_35 ?_
          refine z_gotoK (tgt := 40) C0 d_M_writtenOf_36 (by decide) ?_
          refine z_istore_n (lvn := [(0, .ref (y 0)), (1, .int (nI (b))), (2, .int (nI (a + 1))), (3, .int (nI (i)))]) C0 d_M_writtenOf_40 rfl (by decide) [1, 2, 0, 3] rfl ?_
          refine z_iincN (q := 3) (lvn := [(0, .ref (y 0)), (1, .int (nI (b))), (2, .int (nI (a + 1))), (3, .int (nI (i + 1)))]) C0 d_M_writtenOf_41 rfl (by decide) [1, 2, 3, 0] rfl ?_
          refine z_gotoK (tgt := 9) C0 d_M_writtenOf_44 (by decide) ?_
          exact ih (i + 1) (a + 1) (by omega) (by rw [hR]; simp [sm_wrs, c21_2, c30_3])
  exact lp9 (bp) (b * bp) (0) (by omega) (rfl)

set_option maxHeartbeats 4000000 in
set_option maxRecDepth 100000 in
theorem c_M_frees (l : Launch) (D : va_G) (cI cZ : ClassId) (y : Nat → Nat) (bc bp : Nat) (M : zm_S) (hB : zb_ok bc bp)   : zc_Con l y_M_frees b_M_frees 3 (some .int) { frames := 1, cells := 0, slots := 0, locals := 23 } D cI cZ [.ref (y 0)] (zm_W cI cZ y bc bp M) (zo (some (.int (nI (sm_fr bc bp (mm_w M))))) (zm_W cI cZ y bc bp M)) := by
  refine zc_start (by decide) (Nat.le_of_ble_eq_true rfl) ?_
  intro p e s m args below meth c A Q hA hQ C0 hr hin
  have C0 : zc_Cx p s m args meth c b_M_frees 3 R_M D cI cZ A := C0
  have hB0 := hB
  obtain ⟨hB1, hB2, hB3, hB4⟩ := hB
  have hN : bc * bp ≤ 20 := Nat.mul_le_mul hB2 hB4
  refine z_lvs (lvn := [(0, .ref (y 0))]) rfl ?_
  refine z_iconst (v := nI 0) C0 d_M_frees_0 (by decide) ?_
  refine z_istore_n (lvn := [(0, .ref (y 0)), (1, .int (nI (0)))]) C0 d_M_frees_1 rfl (by decide) [1, 0] rfl ?_
  refine z_iconst (v := nI 0) C0 d_M_frees_2 (by decide) ?_
  refine z_istore_n (lvn := [(0, .ref (y 0)), (1, .int (nI (0))), (2, .int (nI (0)))]) C0 d_M_frees_3 rfl (by decide) [1, 2, 0] rfl ?_
  have lp4 : ∀ (n : Nat) (b : Nat) (a : Nat), (b + n = bc) → (sm_fr bc bp (mm_w M) = sm_frs bp (mm_w M) n b a) → zc_Pt p l e { frames := 1, cells := 0, slots := 0, locals := 23 } s m args below meth c 3 D A 0 0 Q 4 [(0, .ref (y 0)), (1, .int (nI (a))), (2, .int (nI (b)))] [] (zm_W cI cZ y bc bp M) := by
    intro n
    induction n with
    | zero =>
      intro b a hi hR
      refine z_iload_n C0 d_M_frees_4 rfl 2 rfl ?_
      refine z_aload_n C0 d_M_frees_5 rfl 0 rfl ?_
      refine z_get C0 gf_M_45 0 rfl rfl d_M_frees_6 ?_
      refine z_icmpN_ge (tgt := 34) C0 d_M_frees_9 (by decide) (by omega) (by omega) (fun (c9_1 : bc ≤ b) => ?_) (fun (c9_1 : b < bc) => ?_)
      · skip
        refine z_iload_n C0 d_M_frees_34 rfl 1 rfl ?_
        exact z_iret C0 hA hQ hr d_M_frees_35 (⟨by rw [hR]; rfl, rfl⟩)
      · exact absurd c9_1 (by omega)
    | succ n ih =>
      intro b a hi hR
      refine z_iload_n C0 d_M_frees_4 rfl 2 rfl ?_
      refine z_aload_n C0 d_M_frees_5 rfl 0 rfl ?_
      refine z_get C0 gf_M_45 0 rfl rfl d_M_frees_6 ?_
      refine z_icmpN_ge (tgt := 34) C0 d_M_frees_9 (by decide) (by omega) (by omega) (fun (c9_2 : bc ≤ b) => ?_) (fun (c9_2 : b < bc) => ?_)
      · exact absurd c9_2 (by omega)
      · skip
        refine z_aload_n C0 d_M_frees_12 rfl 0 rfl ?_
        refine z_iload_n C0 d_M_frees_13 rfl 2 rfl ?_
        refine z_allV (As := [.int (nI (b))]) (rest := []) C0 (c_M_writtenOf l D cI cZ y bc bp M hB0 (b) (by omega)) mt_M_writtenOf ml_M_101 vt_M_writtenOf rfl rfl ⟨Nat.le_of_ble_eq_true rfl, Nat.le_of_ble_eq_true rfl⟩ ⟨rfl, rfl⟩ ⟨Nat.zero_le _, Nat.zero_le _⟩ rfl rfl (Nat.le_of_ble_eq_true rfl) d_M_frees_14 ?_
        refine z_st (stn := [.int (nI (sm_wr bp (mm_w M) b))]) rfl ?_
        refine z_ifN_ne (tgt := 26) C0 d_M_frees_17 (by decide) (Nat.lt_of_le_of_lt (sm_wrLe _ _ _) (by omega)) (fun c17_3 => ?_) (fun c17_3 => ?_)
        · skip
          refine z_iload_n C0 d_M_frees_26 rfl 1 rfl ?_
          refine z_istore_n (lvn := [(0, .ref (y 0)), (1, .int (nI (a))), (2, .int (nI (b)))]) C0 d_M_frees_27 rfl (by decide) [1, 0, 2] rfl ?_
          refine z_iincN (q := 2) (lvn := [(0, .ref (y 0)), (1, .int (nI (a))), (2, .int (nI (b + 1)))]) C0 d_M_frees_28 rfl (by decide) [1, 2, 0] rfl ?_
          refine z_gotoK (tgt := 4) C0 d_M_frees_31 (by decide) ?_
          exact ih (b + 1) (a) (by omega) (by rw [hR]; simp only [sm_frs]; rw [if_neg (Nat.pos_iff_ne_zero.mp c17_3)])
        · skip
          refine z_iload_n C0 d_M_frees_20 rfl 1 rfl ?_
          refine z_iconst (v := nI 1) C0 d_M_frees_21 (by decide) ?_
          refine z_iaddN C0 d_M_frees_22 ?_
          refine z_gotoK (tgt := 27) C0 d_M_frees_23 (by decide) ?_
          refine z_istore_n (lvn := [(0, .ref (y 0)), (1, .int (nI (a + 1))), (2, .int (nI (b)))]) C0 d_M_frees_27 rfl (by decide) [1, 0, 2] rfl ?_
          refine z_iincN (q := 2) (lvn := [(0, .ref (y 0)), (1, .int (nI (a + 1))), (2, .int (nI (b + 1)))]) C0 d_M_frees_28 rfl (by decide) [1, 2, 0] rfl ?_
          refine z_gotoK (tgt := 4) C0 d_M_frees_31 (by decide) ?_
          exact ih (b + 1) (a + 1) (by omega) (by rw [hR]; simp only [sm_frs]; rw [if_pos c17_3])
  exact lp4 (bc) (0) (0) (by omega) (rfl)

set_option maxHeartbeats 4000000 in
set_option maxRecDepth 100000 in
theorem c_M_lowestFree (l : Launch) (D : va_G) (cI cZ : ClassId) (y : Nat → Nat) (bc bp : Nat) (M : zm_S) (hB : zb_ok bc bp)   : zc_Con l y_M_lowestFree b_M_lowestFree 3 (some .int) { frames := 1, cells := 0, slots := 0, locals := 23 } D cI cZ [.ref (y 0)] (zm_W cI cZ y bc bp M) (zo (some (.int (oN (sm_low bc bp (mm_w M))))) (zm_W cI cZ y bc bp M)) := by
  refine zc_start (by decide) (Nat.le_of_ble_eq_true rfl) ?_
  intro p e s m args below meth c A Q hA hQ C0 hr hin
  have C0 : zc_Cx p s m args meth c b_M_lowestFree 3 R_M D cI cZ A := C0
  have hB0 := hB
  obtain ⟨hB1, hB2, hB3, hB4⟩ := hB
  have hN : bc * bp ≤ 20 := Nat.mul_le_mul hB2 hB4
  refine z_lvs (lvn := [(0, .ref (y 0))]) rfl ?_
  refine z_iconst (v := -1) C0 d_M_lowestFree_0 (by decide) ?_
  refine z_istore_n (lvn := [(0, .ref (y 0)), (1, .int (-1))]) C0 d_M_lowestFree_1 rfl (by decide) [1, 0] rfl ?_
  refine z_aload_n C0 d_M_lowestFree_2 rfl 0 rfl ?_
  refine z_get C0 gf_M_45 0 rfl rfl d_M_lowestFree_3 ?_
  refine z_iconst (v := 1) C0 d_M_lowestFree_6 (by decide) ?_
  refine z_isub C0 d_M_lowestFree_7 ?_
  refine z_istore_n (lvn := [(0, .ref (y 0)), (1, .int (-1)), (2, .int ((nI (bc)) - 1))]) C0 d_M_lowestFree_8 rfl (by decide) [1, 2, 0] rfl ?_
  have lp9 : ∀ (n : Nat) (best : Option Nat), (n ≤ bc) → (sm_low bc bp (mm_w M) = sm_lows bp (mm_w M) n best) → zc_Pt p l e { frames := 1, cells := 0, slots := 0, locals := 23 } s m args below meth c 3 D A 0 0 Q 9 [(0, .ref (y 0)), (1, .int (oN (best))), (2, .int (nI n - 1))] [] (zm_W cI cZ y bc bp M) := by
    intro n
    induction n with
    | zero =>
      intro best hi hR
      refine z_lvs (lvn := [(0, .ref (y 0)), (1, .int (oN (best))), (2, .int (-1))]) (by rw [show nI 0 - 1 = (-1 : Int32) by decide]) ?_
      refine z_iload_n C0 d_M_lowestFree_9 rfl 2 rfl ?_
      refine z_if_lt (tgt := 33) C0 d_M_lowestFree_10 (by decide) (fun c10_1 => ?_) (fun c10_1 => ?_)
      · skip
        refine z_iload_n C0 d_M_lowestFree_33 rfl 1 rfl ?_
        exact z_iret C0 hA hQ hr d_M_lowestFree_34 (⟨by rw [hR]; rfl, rfl⟩)
      · exact absurd (by decide) c10_1
    | succ n ih =>
      intro best hi hR
      refine z_lvs (lvn := [(0, .ref (y 0)), (1, .int (oN (best))), (2, .int (nI (n)))]) (by rw [nI_pred]) ?_
      refine z_iload_n C0 d_M_lowestFree_9 rfl 2 rfl ?_
      refine z_if_lt (tgt := 33) C0 d_M_lowestFree_10 (by decide) (fun c10_2 => ?_) (fun c10_2 => ?_)
      · exact absurd c10_2 (nI_pos (by omega))
      · skip
        refine z_aload_n C0 d_M_lowestFree_13 rfl 0 rfl ?_
        refine z_iload_n C0 d_M_lowestFree_14 rfl 2 rfl ?_
        refine z_allV (As := [.int (nI (n))]) (rest := []) C0 (c_M_writtenOf l D cI cZ y bc bp M hB0 (n) (by omega)) mt_M_writtenOf ml_M_101 vt_M_writtenOf rfl rfl ⟨Nat.le_of_ble_eq_true rfl, Nat.le_of_ble_eq_true rfl⟩ ⟨rfl, rfl⟩ ⟨Nat.zero_le _, Nat.zero_le _⟩ rfl rfl (Nat.le_of_ble_eq_true rfl) d_M_lowestFree_15 ?_
        refine z_st (stn := [.int (nI (sm_wr bp (mm_w M) n))]) rfl ?_
        refine z_ifN_ne (tgt := 25) C0 d_M_lowestFree_18 (by decide) (Nat.lt_of_le_of_lt (sm_wrLe _ _ _) (by omega)) (fun c18_3 => ?_) (fun c18_3 => ?_)
        · skip
          refine z_iload_n C0 d_M_lowestFree_25 rfl 1 rfl ?_
          refine z_istore_n (lvn := [(0, .ref (y 0)), (1, .int (oN (best))), (2, .int (nI (n)))]) C0 d_M_lowestFree_26 rfl (by decide) [1, 0, 2] rfl ?_
          refine z_iinc (q := 2) (lvn := [(0, .ref (y 0)), (1, .int (oN (best))), (2, .int (nI (n) - 1))]) C0 d_M_lowestFree_27 rfl (i_dec _) (by decide) [1, 2, 0] rfl ?_
          refine z_gotoK (tgt := 9) C0 d_M_lowestFree_30 (by decide) ?_
          exact ih (best) (by omega) (by rw [hR]; simp only [sm_lows]; rw [if_neg (Nat.pos_iff_ne_zero.mp c18_3)])
        · skip
          refine z_iload_n C0 d_M_lowestFree_21 rfl 2 rfl ?_
          refine z_gotoK (tgt := 26) C0 d_M_lowestFree_22 (by decide) ?_
          refine z_istore_n (lvn := [(0, .ref (y 0)), (1, .int (nI (n))), (2, .int (nI (n)))]) C0 d_M_lowestFree_26 rfl (by decide) [1, 0, 2] rfl ?_
          refine z_iinc (q := 2) (lvn := [(0, .ref (y 0)), (1, .int (nI (n))), (2, .int (nI (n) - 1))]) C0 d_M_lowestFree_27 rfl (i_dec _) (by decide) [1, 2, 0] rfl ?_
          refine z_gotoK (tgt := 9) C0 d_M_lowestFree_30 (by decide) ?_
          exact ih (some (n)) (by omega) (by rw [hR]; simp only [sm_lows]; rw [if_pos c18_3])
  exact lp9 (bc) none (by omega) (rfl)

set_option maxHeartbeats 4000000 in
set_option maxRecDepth 100000 in
theorem c_M_headless (l : Launch) (D : va_G) (cI cZ : ClassId) (y : Nat → Nat) (bc bp : Nat) (M : zm_S) (hB : zb_ok bc bp)  (hh : zh_ok bc (mm_h M)) : zc_Con l y_M_headless b_M_headless 1 (some .boolean) { frames := 1, cells := 0, slots := 0, locals := 23 } D cI cZ [.ref (y 0)] (zm_W cI cZ y bc bp M) (zo (some (.int (bI (sm_hl bp (mm_w M) (mm_h M))))) (zm_W cI cZ y bc bp M)) := by
  refine zc_start (by decide) (Nat.le_of_ble_eq_true rfl) ?_
  intro p e s m args below meth c A Q hA hQ C0 hr hin
  have C0 : zc_Cx p s m args meth c b_M_headless 1 R_M D cI cZ A := C0
  have hB0 := hB
  obtain ⟨hB1, hB2, hB3, hB4⟩ := hB
  have hN : bc * bp ≤ 20 := Nat.mul_le_mul hB2 hB4
  refine z_lvs (lvn := [(0, .ref (y 0))]) rfl ?_
  rcases hhd : mm_h M with _ | hd
  · refine z_lvs (lvn := [(0, .ref (y 0))]) (by first | rfl | (rw [hhd]; rfl)) ?_
    refine z_aload_n C0 d_M_headless_0 rfl 0 rfl ?_
    refine z_get C0 gf_M_32 0 rfl rfl d_M_headless_1 ?_
    refine z_top (vn := .int (-1)) (by first | rfl | (rw [hhd]; rfl)) ?_
    refine z_if_lt (tgt := 22) C0 d_M_headless_4 (by decide) (fun c4_1 => ?_) (fun c4_1 => ?_)
    · skip
      refine z_iconst (v := nI 1) C0 d_M_headless_22 (by decide) ?_
      refine z_gotoK (tgt := 27) C0 d_M_headless_23 (by decide) ?_
      refine z_topi (x := nI 1) (xn := bI true) (by decide) ?_
      exact z_zret C0 hA hQ hr d_M_headless_27 (⟨by rw [hhd]; simp [sm_hl, hhd], rfl⟩)
    · exact absurd (by decide) c4_1
  · refine z_lvs (lvn := [(0, .ref (y 0))]) (by first | rfl | (rw [hhd]; rfl)) ?_
    have hlt : hd < bc := hh hd hhd
    refine z_aload_n C0 d_M_headless_0 rfl 0 rfl ?_
    refine z_get C0 gf_M_32 0 rfl rfl d_M_headless_1 ?_
    refine z_top (vn := .int (nI (hd))) (by first | rfl | (rw [hhd]; rfl)) ?_
    refine z_if_lt (tgt := 22) C0 d_M_headless_4 (by decide) (fun c4_2 => ?_) (fun c4_2 => ?_)
    · exact absurd c4_2 (nI_pos (by omega))
    · skip
      refine z_aload_n C0 d_M_headless_7 rfl 0 rfl ?_
      refine z_aload_n C0 d_M_headless_8 rfl 0 rfl ?_
      refine z_get C0 gf_M_32 0 rfl rfl d_M_headless_9 ?_
      refine z_top (vn := .int (nI (hd))) (by first | rfl | (rw [hhd]; rfl)) ?_
      refine z_allV (As := [.int (nI (hd))]) (rest := []) C0 (c_M_writtenOf l D cI cZ y bc bp M hB0 (hd) (by omega)) mt_M_writtenOf ml_M_101 vt_M_writtenOf rfl rfl ⟨Nat.le_of_ble_eq_true rfl, Nat.le_of_ble_eq_true rfl⟩ ⟨rfl, rfl⟩ ⟨Nat.zero_le _, Nat.zero_le _⟩ rfl rfl (Nat.le_of_ble_eq_true rfl) d_M_headless_12 ?_
      refine z_st (stn := [.int (nI (sm_wr bp (mm_w M) hd))]) rfl ?_
      refine z_aload_n C0 d_M_headless_15 rfl 0 rfl ?_
      refine z_get C0 gf_M_48 0 rfl rfl d_M_headless_16 ?_
      refine z_icmpN_ne (tgt := 26) C0 d_M_headless_19 (by decide) (Nat.lt_of_le_of_lt (sm_wrLe _ _ _) (by omega)) (by omega) (fun (c19_3 : sm_wr bp (mm_w M) hd ≠ bp) => ?_) (fun (c19_3 : sm_wr bp (mm_w M) hd = bp) => ?_)
      · skip
        refine z_iconst (v := nI 0) C0 d_M_headless_26 (by decide) ?_
        refine z_topi (x := nI 0) (xn := bI false) (by decide) ?_
        exact z_zret C0 hA hQ hr d_M_headless_27 (⟨by rw [hhd]; simp [sm_hl, hhd, c19_3], rfl⟩)
      · skip
        refine z_iconst (v := nI 1) C0 d_M_headless_22 (by decide) ?_
        refine z_gotoK (tgt := 27) C0 d_M_headless_23 (by decide) ?_
        refine z_topi (x := nI 1) (xn := bI true) (by decide) ?_
        exact z_zret C0 hA hQ hr d_M_headless_27 (⟨by rw [hhd]; simp [sm_hl, hhd, c19_3], rfl⟩)

set_option maxHeartbeats 4000000 in
set_option maxRecDepth 100000 in
theorem c_M_before (l : Launch) (D : va_G) (cI cZ : ClassId) (y : Nat → Nat) (bc bp : Nat) (M : zm_S) (hB : zb_ok bc bp) (a : Nat) (b : Nat) (hh : zh_ok bc (mm_h M)) (ha : a < bc * bp) (hb : b < bc * bp) : zc_Con l y_M_before b_M_before 5 (some .boolean) { frames := 0, cells := 0, slots := 0, locals := 0 } D cI cZ [.ref (y 0), .int (nI (a)), .int (nI (b))] (zm_W cI cZ y bc bp M) (zo (some (.int (bI (sm_bef bp (mm_h M) (mm_s M) a b)))) (zm_W cI cZ y bc bp M)) := by
  refine zc_start (by decide) (Nat.le_of_ble_eq_true rfl) ?_
  intro p e s m args below meth c A Q hA hQ C0 hr hin
  have C0 : zc_Cx p s m args meth c b_M_before 5 R_M D cI cZ A := C0
  have hB0 := hB
  obtain ⟨hB1, hB2, hB3, hB4⟩ := hB
  have hN : bc * bp ≤ 20 := Nat.mul_le_mul hB2 hB4
  refine z_lvs (lvn := [(0, .ref (y 0)), (1, .int (nI (a))), (2, .int (nI (b)))]) rfl ?_
  rcases hhd : mm_h M with _ | hd
  · refine z_lvs (lvn := [(0, .ref (y 0)), (1, .int (nI (a))), (2, .int (nI (b)))]) (by first | rfl | (rw [hhd]; rfl)) ?_
    refine z_aload_n C0 d_M_before_0 rfl 0 rfl ?_
    refine z_get C0 gf_M_20 0 rfl rfl d_M_before_1 ?_
    refine z_iload_n C0 d_M_before_4 rfl 1 rfl ?_
    refine z_iald C0 4 rfl (by omega) (by omega) d_M_before_5 ?_
    refine z_aload_n C0 d_M_before_6 rfl 0 rfl ?_
    refine z_get C0 gf_M_20 0 rfl rfl d_M_before_7 ?_
    refine z_iload_n C0 d_M_before_10 rfl 2 rfl ?_
    refine z_iald C0 4 rfl (by omega) (by omega) d_M_before_11 ?_
    refine z_icmp_eq (tgt := 36) C0 d_M_before_12 (by decide) (fun (c12_1 : ((mm_s M) (a)) = ((mm_s M) (b))) => ?_) (fun (c12_1 : ¬ ((mm_s M) (a)) = ((mm_s M) (b))) => ?_)
    · skip
      have hda : a / bp ≤ a := Nat.div_le_self _ _
      have hdb : b / bp ≤ b := Nat.div_le_self _ _
      refine z_iload_n C0 d_M_before_36 rfl 1 rfl ?_
      refine z_aload_n C0 d_M_before_37 rfl 0 rfl ?_
      refine z_get C0 gf_M_48 0 rfl rfl d_M_before_38 ?_
      refine z_idivN C0 d_M_before_41 (by omega) (by omega) (by omega) ?_
      refine z_aload_n C0 d_M_before_42 rfl 0 rfl ?_
      refine z_get C0 gf_M_32 0 rfl rfl d_M_before_43 ?_
      refine z_top (vn := .int (-1)) (by first | rfl | (rw [hhd]; rfl)) ?_
      refine z_icmp_ne (tgt := 53) C0 d_M_before_46 (by decide) (fun c46_2 => ?_) (fun c46_2 => ?_)
      · skip
        refine z_iconst (v := nI 0) C0 d_M_before_53 (by decide) ?_
        refine z_istore_n (lvn := [(0, .ref (y 0)), (1, .int (nI (a))), (2, .int (nI (b))), (3, .int (nI (0)))]) C0 d_M_before_54 rfl (by decide) [1, 2, 3, 0] rfl ?_
        refine z_iload_n C0 d_M_before_55 rfl 2 rfl ?_
        refine z_aload_n C0 d_M_before_56 rfl 0 rfl ?_
        refine z_get C0 gf_M_48 0 rfl rfl d_M_before_57 ?_
        refine z_idivN C0 d_M_before_60 (by omega) (by omega) (by omega) ?_
        refine z_aload_n C0 d_M_before_61 rfl 0 rfl ?_
        refine z_get C0 gf_M_32 0 rfl rfl d_M_before_62 ?_
        refine z_top (vn := .int (-1)) (by first | rfl | (rw [hhd]; rfl)) ?_
        refine z_icmp_ne (tgt := 72) C0 d_M_before_65 (by decide) (fun c65_3 => ?_) (fun c65_3 => ?_)
        · skip
          refine z_iconst (v := nI 0) C0 d_M_before_72 (by decide) ?_
          refine z_istore (lvn := [(0, .ref (y 0)), (1, .int (nI (a))), (2, .int (nI (b))), (3, .int (nI (0))), (4, .int (nI (0)))]) C0 d_M_before_73 (by decide) [1, 2, 3, 4, 0] rfl ?_
          refine z_iload_n C0 d_M_before_75 rfl 3 rfl ?_
          refine z_iload C0 d_M_before_76 4 rfl ?_
          refine z_icmpN_eq (tgt := 85) C0 d_M_before_78 (by decide) (by omega) (by omega) (fun (c78_4 : 0 = 0) => ?_) (fun (c78_4 : 0 ≠ 0) => ?_)
          · skip
            refine z_iload_n C0 d_M_before_85 rfl 1 rfl ?_
            refine z_iload_n C0 d_M_before_86 rfl 2 rfl ?_
            refine z_icmpN_ge (tgt := 94) C0 d_M_before_87 (by decide) (by omega) (by omega) (fun (c87_5 : b ≤ a) => ?_) (fun (c87_5 : a < b) => ?_)
            · skip
              refine z_iconst (v := nI 0) C0 d_M_before_94 (by decide) ?_
              refine z_topi (x := nI 0) (xn := bI false) (by decide) ?_
              exact z_zret C0 hA hQ hr d_M_before_95 (⟨by rw [show sm_bef bp (mm_h M) (mm_s M) a b = false from (by have h1 : sm_isH bp (mm_h M) a = false := (by unfold sm_isH; rw [hhd]; simp); have h2 : sm_isH bp (mm_h M) b = false := (by unfold sm_isH; rw [hhd]; simp); unfold sm_bef; rw [if_pos c12_1, h1, h2]; rw [if_pos rfl]; exact decide_eq_false (Nat.not_lt.mpr c87_5))], rfl⟩)
            · skip
              refine z_iconst (v := nI 1) C0 d_M_before_90 (by decide) ?_
              refine z_gotoK (tgt := 95) C0 d_M_before_91 (by decide) ?_
              refine z_topi (x := nI 1) (xn := bI true) (by decide) ?_
              exact z_zret C0 hA hQ hr d_M_before_95 (⟨by rw [show sm_bef bp (mm_h M) (mm_s M) a b = true from (by have h1 : sm_isH bp (mm_h M) a = false := (by unfold sm_isH; rw [hhd]; simp); have h2 : sm_isH bp (mm_h M) b = false := (by unfold sm_isH; rw [hhd]; simp); unfold sm_bef; rw [if_pos c12_1, h1, h2]; rw [if_pos rfl]; exact decide_eq_true c87_5)], rfl⟩)
          · exact absurd c78_4 (by decide)
        · exact absurd c65_3 (nI_m1 (by omega))
      · exact absurd c46_2 (nI_m1 (by omega))
    · skip
      refine z_aload_n C0 d_M_before_15 rfl 0 rfl ?_
      refine z_get C0 gf_M_20 0 rfl rfl d_M_before_16 ?_
      refine z_iload_n C0 d_M_before_19 rfl 1 rfl ?_
      refine z_iald C0 4 rfl (by omega) (by omega) d_M_before_20 ?_
      refine z_aload_n C0 d_M_before_21 rfl 0 rfl ?_
      refine z_get C0 gf_M_20 0 rfl rfl d_M_before_22 ?_
      refine z_iload_n C0 d_M_before_25 rfl 2 rfl ?_
      refine z_iald C0 4 rfl (by omega) (by omega) d_M_before_26 ?_
      refine z_icmp_le (tgt := 34) C0 d_M_before_27 (by decide) (fun (c27_6 : ((mm_s M) (a)) ≤ ((mm_s M) (b))) => ?_) (fun (c27_6 : ¬ ((mm_s M) (a)) ≤ ((mm_s M) (b))) => ?_)
      · skip
        refine z_iconst (v := nI 0) C0 d_M_before_34 (by decide) ?_
        refine z_topi (x := nI 0) (xn := bI false) (by decide) ?_
        exact z_zret C0 hA hQ hr d_M_before_35 (⟨by rw [show sm_bef bp (mm_h M) (mm_s M) a b = false from (by unfold sm_bef; rw [if_neg c12_1]; exact decide_eq_false (Int32.not_lt.mpr c27_6))], rfl⟩)
      · skip
        refine z_iconst (v := nI 1) C0 d_M_before_30 (by decide) ?_
        refine z_gotoK (tgt := 35) C0 d_M_before_31 (by decide) ?_
        refine z_topi (x := nI 1) (xn := bI true) (by decide) ?_
        exact z_zret C0 hA hQ hr d_M_before_35 (⟨by rw [show sm_bef bp (mm_h M) (mm_s M) a b = true from (by unfold sm_bef; rw [if_neg c12_1]; exact decide_eq_true (Int32.not_le.mp c27_6))], rfl⟩)
  · refine z_lvs (lvn := [(0, .ref (y 0)), (1, .int (nI (a))), (2, .int (nI (b)))]) (by first | rfl | (rw [hhd]; rfl)) ?_
    have hlt : hd < bc := hh hd hhd
    refine z_aload_n C0 d_M_before_0 rfl 0 rfl ?_
    refine z_get C0 gf_M_20 0 rfl rfl d_M_before_1 ?_
    refine z_iload_n C0 d_M_before_4 rfl 1 rfl ?_
    refine z_iald C0 4 rfl (by omega) (by omega) d_M_before_5 ?_
    refine z_aload_n C0 d_M_before_6 rfl 0 rfl ?_
    refine z_get C0 gf_M_20 0 rfl rfl d_M_before_7 ?_
    refine z_iload_n C0 d_M_before_10 rfl 2 rfl ?_
    refine z_iald C0 4 rfl (by omega) (by omega) d_M_before_11 ?_
    refine z_icmp_eq (tgt := 36) C0 d_M_before_12 (by decide) (fun (c12_7 : ((mm_s M) (a)) = ((mm_s M) (b))) => ?_) (fun (c12_7 : ¬ ((mm_s M) (a)) = ((mm_s M) (b))) => ?_)
    · skip
      have hda : a / bp ≤ a := Nat.div_le_self _ _
      have hdb : b / bp ≤ b := Nat.div_le_self _ _
      refine z_iload_n C0 d_M_before_36 rfl 1 rfl ?_
      refine z_aload_n C0 d_M_before_37 rfl 0 rfl ?_
      refine z_get C0 gf_M_48 0 rfl rfl d_M_before_38 ?_
      refine z_idivN C0 d_M_before_41 (by omega) (by omega) (by omega) ?_
      refine z_aload_n C0 d_M_before_42 rfl 0 rfl ?_
      refine z_get C0 gf_M_32 0 rfl rfl d_M_before_43 ?_
      refine z_top (vn := .int (nI (hd))) (by first | rfl | (rw [hhd]; rfl)) ?_
      refine z_icmpN_ne (tgt := 53) C0 d_M_before_46 (by decide) (by omega) (by omega) (fun (c46_8 : a / bp ≠ hd) => ?_) (fun (c46_8 : a / bp = hd) => ?_)
      · skip
        refine z_iconst (v := nI 0) C0 d_M_before_53 (by decide) ?_
        refine z_istore_n (lvn := [(0, .ref (y 0)), (1, .int (nI (a))), (2, .int (nI (b))), (3, .int (nI (0)))]) C0 d_M_before_54 rfl (by decide) [1, 2, 3, 0] rfl ?_
        refine z_iload_n C0 d_M_before_55 rfl 2 rfl ?_
        refine z_aload_n C0 d_M_before_56 rfl 0 rfl ?_
        refine z_get C0 gf_M_48 0 rfl rfl d_M_before_57 ?_
        refine z_idivN C0 d_M_before_60 (by omega) (by omega) (by omega) ?_
        refine z_aload_n C0 d_M_before_61 rfl 0 rfl ?_
        refine z_get C0 gf_M_32 0 rfl rfl d_M_before_62 ?_
        refine z_top (vn := .int (nI (hd))) (by first | rfl | (rw [hhd]; rfl)) ?_
        refine z_icmpN_ne (tgt := 72) C0 d_M_before_65 (by decide) (by omega) (by omega) (fun (c65_9 : b / bp ≠ hd) => ?_) (fun (c65_9 : b / bp = hd) => ?_)
        · skip
          refine z_iconst (v := nI 0) C0 d_M_before_72 (by decide) ?_
          refine z_istore (lvn := [(0, .ref (y 0)), (1, .int (nI (a))), (2, .int (nI (b))), (3, .int (nI (0))), (4, .int (nI (0)))]) C0 d_M_before_73 (by decide) [1, 2, 3, 4, 0] rfl ?_
          refine z_iload_n C0 d_M_before_75 rfl 3 rfl ?_
          refine z_iload C0 d_M_before_76 4 rfl ?_
          refine z_icmpN_eq (tgt := 85) C0 d_M_before_78 (by decide) (by omega) (by omega) (fun (c78_10 : 0 = 0) => ?_) (fun (c78_10 : 0 ≠ 0) => ?_)
          · skip
            refine z_iload_n C0 d_M_before_85 rfl 1 rfl ?_
            refine z_iload_n C0 d_M_before_86 rfl 2 rfl ?_
            refine z_icmpN_ge (tgt := 94) C0 d_M_before_87 (by decide) (by omega) (by omega) (fun (c87_11 : b ≤ a) => ?_) (fun (c87_11 : a < b) => ?_)
            · skip
              refine z_iconst (v := nI 0) C0 d_M_before_94 (by decide) ?_
              refine z_topi (x := nI 0) (xn := bI false) (by decide) ?_
              exact z_zret C0 hA hQ hr d_M_before_95 (⟨by rw [show sm_bef bp (mm_h M) (mm_s M) a b = false from (by have h1 : sm_isH bp (mm_h M) a = false := (decide_eq_false (by rw [hhd]; intro z; exact c46_8 (Option.some.inj z).symm)); have h2 : sm_isH bp (mm_h M) b = false := (decide_eq_false (by rw [hhd]; intro z; exact c65_9 (Option.some.inj z).symm)); unfold sm_bef; rw [if_pos c12_7, h1, h2]; rw [if_pos rfl]; exact decide_eq_false (Nat.not_lt.mpr c87_11))], rfl⟩)
            · skip
              refine z_iconst (v := nI 1) C0 d_M_before_90 (by decide) ?_
              refine z_gotoK (tgt := 95) C0 d_M_before_91 (by decide) ?_
              refine z_topi (x := nI 1) (xn := bI true) (by decide) ?_
              exact z_zret C0 hA hQ hr d_M_before_95 (⟨by rw [show sm_bef bp (mm_h M) (mm_s M) a b = true from (by have h1 : sm_isH bp (mm_h M) a = false := (decide_eq_false (by rw [hhd]; intro z; exact c46_8 (Option.some.inj z).symm)); have h2 : sm_isH bp (mm_h M) b = false := (decide_eq_false (by rw [hhd]; intro z; exact c65_9 (Option.some.inj z).symm)); unfold sm_bef; rw [if_pos c12_7, h1, h2]; rw [if_pos rfl]; exact decide_eq_true c87_11)], rfl⟩)
          · exact absurd c78_10 (by decide)
        · skip
          refine z_iconst (v := nI 1) C0 d_M_before_68 (by decide) ?_
          refine z_gotoK (tgt := 73) C0 d_M_before_69 (by decide) ?_
          refine z_istore (lvn := [(0, .ref (y 0)), (1, .int (nI (a))), (2, .int (nI (b))), (3, .int (nI (0))), (4, .int (nI (1)))]) C0 d_M_before_73 (by decide) [1, 2, 3, 4, 0] rfl ?_
          refine z_iload_n C0 d_M_before_75 rfl 3 rfl ?_
          refine z_iload C0 d_M_before_76 4 rfl ?_
          refine z_icmpN_eq (tgt := 85) C0 d_M_before_78 (by decide) (by omega) (by omega) (fun (c78_12 : 0 = 1) => ?_) (fun (c78_12 : 0 ≠ 1) => ?_)
          · exact absurd c78_12 (by decide)
          · skip
            refine z_iload_n C0 d_M_before_81 rfl 3 rfl ?_
            refine z_gotoK (tgt := 95) C0 d_M_before_82 (by decide) ?_
            refine z_topi (x := nI 0) (xn := bI false) (by decide) ?_
            exact z_zret C0 hA hQ hr d_M_before_95 (⟨by rw [show sm_bef bp (mm_h M) (mm_s M) a b = false from (by have h1 : sm_isH bp (mm_h M) a = false := (decide_eq_false (by rw [hhd]; intro z; exact c46_8 (Option.some.inj z).symm)); have h2 : sm_isH bp (mm_h M) b = true := (decide_eq_true (by rw [hhd, c65_9])); unfold sm_bef; rw [if_pos c12_7, h1, h2]; rw [if_neg (by decide)])], rfl⟩)
      · skip
        refine z_iconst (v := nI 1) C0 d_M_before_49 (by decide) ?_
        refine z_gotoK (tgt := 54) C0 d_M_before_50 (by decide) ?_
        refine z_istore_n (lvn := [(0, .ref (y 0)), (1, .int (nI (a))), (2, .int (nI (b))), (3, .int (nI (1)))]) C0 d_M_before_54 rfl (by decide) [1, 2, 3, 0] rfl ?_
        refine z_iload_n C0 d_M_before_55 rfl 2 rfl ?_
        refine z_aload_n C0 d_M_before_56 rfl 0 rfl ?_
        refine z_get C0 gf_M_48 0 rfl rfl d_M_before_57 ?_
        refine z_idivN C0 d_M_before_60 (by omega) (by omega) (by omega) ?_
        refine z_aload_n C0 d_M_before_61 rfl 0 rfl ?_
        refine z_get C0 gf_M_32 0 rfl rfl d_M_before_62 ?_
        refine z_top (vn := .int (nI (hd))) (by first | rfl | (rw [hhd]; rfl)) ?_
        refine z_icmpN_ne (tgt := 72) C0 d_M_before_65 (by decide) (by omega) (by omega) (fun (c65_13 : b / bp ≠ hd) => ?_) (fun (c65_13 : b / bp = hd) => ?_)
        · skip
          refine z_iconst (v := nI 0) C0 d_M_before_72 (by decide) ?_
          refine z_istore (lvn := [(0, .ref (y 0)), (1, .int (nI (a))), (2, .int (nI (b))), (3, .int (nI (1))), (4, .int (nI (0)))]) C0 d_M_before_73 (by decide) [1, 2, 3, 4, 0] rfl ?_
          refine z_iload_n C0 d_M_before_75 rfl 3 rfl ?_
          refine z_iload C0 d_M_before_76 4 rfl ?_
          refine z_icmpN_eq (tgt := 85) C0 d_M_before_78 (by decide) (by omega) (by omega) (fun (c78_14 : 1 = 0) => ?_) (fun (c78_14 : 1 ≠ 0) => ?_)
          · exact absurd c78_14 (by decide)
          · skip
            refine z_iload_n C0 d_M_before_81 rfl 3 rfl ?_
            refine z_gotoK (tgt := 95) C0 d_M_before_82 (by decide) ?_
            refine z_topi (x := nI 1) (xn := bI true) (by decide) ?_
            exact z_zret C0 hA hQ hr d_M_before_95 (⟨by rw [show sm_bef bp (mm_h M) (mm_s M) a b = true from (by have h1 : sm_isH bp (mm_h M) a = true := (decide_eq_true (by rw [hhd, c46_8])); have h2 : sm_isH bp (mm_h M) b = false := (decide_eq_false (by rw [hhd]; intro z; exact c65_13 (Option.some.inj z).symm)); unfold sm_bef; rw [if_pos c12_7, h1, h2]; rw [if_neg (by decide)])], rfl⟩)
        · skip
          refine z_iconst (v := nI 1) C0 d_M_before_68 (by decide) ?_
          refine z_gotoK (tgt := 73) C0 d_M_before_69 (by decide) ?_
          refine z_istore (lvn := [(0, .ref (y 0)), (1, .int (nI (a))), (2, .int (nI (b))), (3, .int (nI (1))), (4, .int (nI (1)))]) C0 d_M_before_73 (by decide) [1, 2, 3, 4, 0] rfl ?_
          refine z_iload_n C0 d_M_before_75 rfl 3 rfl ?_
          refine z_iload C0 d_M_before_76 4 rfl ?_
          refine z_icmpN_eq (tgt := 85) C0 d_M_before_78 (by decide) (by omega) (by omega) (fun (c78_15 : 1 = 1) => ?_) (fun (c78_15 : 1 ≠ 1) => ?_)
          · skip
            refine z_iload_n C0 d_M_before_85 rfl 1 rfl ?_
            refine z_iload_n C0 d_M_before_86 rfl 2 rfl ?_
            refine z_icmpN_ge (tgt := 94) C0 d_M_before_87 (by decide) (by omega) (by omega) (fun (c87_16 : b ≤ a) => ?_) (fun (c87_16 : a < b) => ?_)
            · skip
              refine z_iconst (v := nI 0) C0 d_M_before_94 (by decide) ?_
              refine z_topi (x := nI 0) (xn := bI false) (by decide) ?_
              exact z_zret C0 hA hQ hr d_M_before_95 (⟨by rw [show sm_bef bp (mm_h M) (mm_s M) a b = false from (by have h1 : sm_isH bp (mm_h M) a = true := (decide_eq_true (by rw [hhd, c46_8])); have h2 : sm_isH bp (mm_h M) b = true := (decide_eq_true (by rw [hhd, c65_13])); unfold sm_bef; rw [if_pos c12_7, h1, h2]; rw [if_pos rfl]; exact decide_eq_false (Nat.not_lt.mpr c87_16))], rfl⟩)
            · skip
              refine z_iconst (v := nI 1) C0 d_M_before_90 (by decide) ?_
              refine z_gotoK (tgt := 95) C0 d_M_before_91 (by decide) ?_
              refine z_topi (x := nI 1) (xn := bI true) (by decide) ?_
              exact z_zret C0 hA hQ hr d_M_before_95 (⟨by rw [show sm_bef bp (mm_h M) (mm_s M) a b = true from (by have h1 : sm_isH bp (mm_h M) a = true := (decide_eq_true (by rw [hhd, c46_8])); have h2 : sm_isH bp (mm_h M) b = true := (decide_eq_true (by rw [hhd, c65_13])); unfold sm_bef; rw [if_pos c12_7, h1, h2]; rw [if_pos rfl]; exact decide_eq_true c87_16)], rfl⟩)
          · exact absurd c78_15 (by decide)
    · skip
      refine z_aload_n C0 d_M_before_15 rfl 0 rfl ?_
      refine z_get C0 gf_M_20 0 rfl rfl d_M_before_16 ?_
      refine z_iload_n C0 d_M_before_19 rfl 1 rfl ?_
      refine z_iald C0 4 rfl (by omega) (by omega) d_M_before_20 ?_
      refine z_aload_n C0 d_M_before_21 rfl 0 rfl ?_
      refine z_get C0 gf_M_20 0 rfl rfl d_M_before_22 ?_
      refine z_iload_n C0 d_M_before_25 rfl 2 rfl ?_
      refine z_iald C0 4 rfl (by omega) (by omega) d_M_before_26 ?_
      refine z_icmp_le (tgt := 34) C0 d_M_before_27 (by decide) (fun (c27_17 : ((mm_s M) (a)) ≤ ((mm_s M) (b))) => ?_) (fun (c27_17 : ¬ ((mm_s M) (a)) ≤ ((mm_s M) (b))) => ?_)
      · skip
        refine z_iconst (v := nI 0) C0 d_M_before_34 (by decide) ?_
        refine z_topi (x := nI 0) (xn := bI false) (by decide) ?_
        exact z_zret C0 hA hQ hr d_M_before_35 (⟨by rw [show sm_bef bp (mm_h M) (mm_s M) a b = false from (by unfold sm_bef; rw [if_neg c12_7]; exact decide_eq_false (Int32.not_lt.mpr c27_17))], rfl⟩)
      · skip
        refine z_iconst (v := nI 1) C0 d_M_before_30 (by decide) ?_
        refine z_gotoK (tgt := 35) C0 d_M_before_31 (by decide) ?_
        refine z_topi (x := nI 1) (xn := bI true) (by decide) ?_
        exact z_zret C0 hA hQ hr d_M_before_35 (⟨by rw [show sm_bef bp (mm_h M) (mm_s M) a b = true from (by unfold sm_bef; rw [if_neg c12_7]; exact decide_eq_true (Int32.not_le.mp c27_17))], rfl⟩)
