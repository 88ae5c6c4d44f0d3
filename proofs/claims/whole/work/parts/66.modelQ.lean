set_option maxHeartbeats 4000000 in
set_option maxRecDepth 100000 in
theorem c_M_put (l : Launch) (D : va_G) (cI cZ : ClassId) (y : Nat → Nat) (bc bp : Nat) (M : zm_S) (hB : zb_ok bc bp) (kv : Int32) (vv : Int32) (hh : zh_ok bc (mm_h M)) (hok : sm_appOk bc bp M) : zc_Con l y_M_put b_M_put 3 (some .int) { frames := 6, cells := 0, slots := 0, locals := 144 } D cI cZ [.ref (y 0), .int (kv), .int (vv)] (zm_W cI cZ y bc bp M) (zo (some (.int ((sm_put bc bp M kv vv).1))) (zm_W cI cZ y bc bp ((sm_put bc bp M kv vv).2))) := by
  refine zc_start (by decide) (Nat.le_of_ble_eq_true rfl) ?_
  intro p e s m args below meth c A Q hA hQ C0 hr hin
  have C0 : zc_Cx p s m args meth c b_M_put 3 R_M D cI cZ A := C0
  have hB0 := hB
  obtain ⟨hB1, hB2, hB3, hB4⟩ := hB
  have hN : bc * bp ≤ 20 := Nat.mul_le_mul hB2 hB4
  refine z_lvs (lvn := [(0, .ref (y 0)), (1, .int (kv)), (2, .int (vv))]) rfl ?_
  refine z_iload_n C0 d_M_put_0 rfl 1 rfl ?_
  refine z_nilS (As := [.int (kv)]) (rest := []) C0 (c_M_isKey l D cI cZ    (kv) ) mt_M_isKey ml_M_145 vt_M_isKey ⟨Nat.le_of_ble_eq_true rfl, Nat.le_of_ble_eq_true rfl⟩ ⟨rfl, rfl⟩ ⟨Nat.zero_le _, Nat.zero_le _⟩ rfl rfl (Nat.le_of_ble_eq_true rfl) d_M_put_1 ?_
  refine z_st (stn := [.int (bI (pkey kv))]) rfl ?_
  refine z_ifB_ne (tgt := 10) C0 d_M_put_4 (by decide) (fun (c4_1 : pkey kv = true) => ?_) (fun (c4_1 : pkey kv = false) => ?_)
  · skip
    refine z_aload_n C0 d_M_put_10 rfl 0 rfl ?_
    refine z_get C0 gf_M_65 0 rfl rfl d_M_put_11 ?_
    refine z_ifB_eq (tgt := 27) C0 d_M_put_14 (by decide) (fun (c14_2 : mm_r M = false) => ?_) (fun (c14_2 : mm_r M = true) => ?_)
    · skip
      refine z_bipush (v := -2) C0 d_M_put_27 (by decide) ?_
      exact z_iret C0 hA hQ hr d_M_put_29 (by rw [show sm_put bc bp M kv vv = (-2, M) from (by unfold sm_put; rw [if_pos c4_1]; exact if_neg (by rw [c14_2]; decide))]; exact ⟨rfl, rfl⟩)
    · skip
      refine z_aload_n C0 d_M_put_17 rfl 0 rfl ?_
      refine z_iload_n C0 d_M_put_18 rfl 1 rfl ?_
      refine z_iload_n C0 d_M_put_19 rfl 2 rfl ?_
      refine z_iconst (v := 1) C0 d_M_put_20 (by decide) ?_
      refine z_allV (As := [.int (kv), .int (vv), .int (1)]) (rest := []) C0 (c_M_append l D cI cZ y bc bp M hB0 (kv) (vv) (1) (hh) (hok)) mt_M_append ml_M_148 vt_M_append rfl rfl ⟨Nat.le_of_ble_eq_true rfl, Nat.le_of_ble_eq_true rfl⟩ ⟨rfl, rfl⟩ ⟨Nat.zero_le _, Nat.zero_le _⟩ rfl rfl (Nat.le_of_ble_eq_true rfl) d_M_put_21 ?_
      refine z_st (stn := [.int ((sm_app bc bp M kv vv 1).1)]) rfl ?_
      refine z_gotoK (tgt := 29) C0 d_M_put_24 (by decide) ?_
      exact z_iret C0 hA hQ hr d_M_put_29 (by rw [show sm_put bc bp M kv vv = sm_app bc bp M kv vv 1 from (by unfold sm_put; rw [if_pos c4_1]; exact if_pos c14_2)]; exact ⟨rfl, rfl⟩)
  · skip
    refine z_bipush (v := -3) C0 d_M_put_7 (by decide) ?_
    exact z_iret C0 hA hQ hr d_M_put_9 (by rw [show sm_put bc bp M kv vv = (-3, M) from (if_neg (by rw [c4_1]; decide))]; exact ⟨rfl, rfl⟩)

set_option maxHeartbeats 4000000 in
set_option maxRecDepth 100000 in
theorem c_M_remove (l : Launch) (D : va_G) (cI cZ : ClassId) (y : Nat → Nat) (bc bp : Nat) (M : zm_S) (hB : zb_ok bc bp) (kv : Int32) (hh : zh_ok bc (mm_h M)) (hok : sm_appOk bc bp M) : zc_Con l y_M_remove b_M_remove 2 (some .int) { frames := 6, cells := 0, slots := 0, locals := 144 } D cI cZ [.ref (y 0), .int (kv)] (zm_W cI cZ y bc bp M) (zo (some (.int ((sm_rem bc bp M kv).1))) (zm_W cI cZ y bc bp ((sm_rem bc bp M kv).2))) := by
  refine zc_start (by decide) (Nat.le_of_ble_eq_true rfl) ?_
  intro p e s m args below meth c A Q hA hQ C0 hr hin
  have C0 : zc_Cx p s m args meth c b_M_remove 2 R_M D cI cZ A := C0
  have hB0 := hB
  obtain ⟨hB1, hB2, hB3, hB4⟩ := hB
  have hN : bc * bp ≤ 20 := Nat.mul_le_mul hB2 hB4
  refine z_lvs (lvn := [(0, .ref (y 0)), (1, .int (kv))]) rfl ?_
  refine z_iload_n C0 d_M_remove_0 rfl 1 rfl ?_
  refine z_nilS (As := [.int (kv)]) (rest := []) C0 (c_M_isKey l D cI cZ    (kv) ) mt_M_isKey ml_M_145 vt_M_isKey ⟨Nat.le_of_ble_eq_true rfl, Nat.le_of_ble_eq_true rfl⟩ ⟨rfl, rfl⟩ ⟨Nat.zero_le _, Nat.zero_le _⟩ rfl rfl (Nat.le_of_ble_eq_true rfl) d_M_remove_1 ?_
  refine z_st (stn := [.int (bI (pkey kv))]) rfl ?_
  refine z_ifB_ne (tgt := 10) C0 d_M_remove_4 (by decide) (fun (c4_1 : pkey kv = true) => ?_) (fun (c4_1 : pkey kv = false) => ?_)
  · skip
    refine z_aload_n C0 d_M_remove_10 rfl 0 rfl ?_
    refine z_get C0 gf_M_65 0 rfl rfl d_M_remove_11 ?_
    refine z_ifB_ne (tgt := 20) C0 d_M_remove_14 (by decide) (fun (c14_2 : mm_r M = true) => ?_) (fun (c14_2 : mm_r M = false) => ?_)
    · skip
      refine z_aload_n C0 d_M_remove_20 rfl 0 rfl ?_
      refine z_iload_n C0 d_M_remove_21 rfl 1 rfl ?_
      refine z_allV (As := [.int (kv)]) (rest := []) C0 (c_M_held l D cI cZ y bc bp M hB0 (kv) (hh)) mt_M_held ml_M_139 vt_M_held rfl rfl ⟨Nat.le_of_ble_eq_true rfl, Nat.le_of_ble_eq_true rfl⟩ ⟨rfl, rfl⟩ ⟨Nat.zero_le _, Nat.zero_le _⟩ rfl rfl (Nat.le_of_ble_eq_true rfl) d_M_remove_22 ?_
      refine z_st (stn := [.int (bI (sm_held bc bp M kv))]) rfl ?_
      refine z_ifB_eq (tgt := 38) C0 d_M_remove_25 (by decide) (fun (c25_3 : sm_held bc bp M kv = false) => ?_) (fun (c25_3 : sm_held bc bp M kv = true) => ?_)
      · skip
        refine z_iconst (v := 1) C0 d_M_remove_38 (by decide) ?_
        exact z_iret C0 hA hQ hr d_M_remove_39 (by rw [show sm_rem bc bp M kv = (1, M) from (by unfold sm_rem; rw [if_pos c4_1, if_pos c14_2]; exact if_neg (by rw [c25_3]; decide))]; exact ⟨rfl, rfl⟩)
      · skip
        refine z_aload_n C0 d_M_remove_28 rfl 0 rfl ?_
        refine z_iload_n C0 d_M_remove_29 rfl 1 rfl ?_
        refine z_iconst (v := 0) C0 d_M_remove_30 (by decide) ?_
        refine z_iconst (v := 2) C0 d_M_remove_31 (by decide) ?_
        refine z_allV (As := [.int (kv), .int (0), .int (2)]) (rest := []) C0 (c_M_append l D cI cZ y bc bp M hB0 (kv) (0) (2) (hh) (hok)) mt_M_append ml_M_148 vt_M_append rfl rfl ⟨Nat.le_of_ble_eq_true rfl, Nat.le_of_ble_eq_true rfl⟩ ⟨rfl, rfl⟩ ⟨Nat.zero_le _, Nat.zero_le _⟩ rfl rfl (Nat.le_of_ble_eq_true rfl) d_M_remove_32 ?_
        refine z_st (stn := [.int ((sm_app bc bp M kv 0 2).1)]) rfl ?_
        refine z_gotoK (tgt := 39) C0 d_M_remove_35 (by decide) ?_
        exact z_iret C0 hA hQ hr d_M_remove_39 (by rw [show sm_rem bc bp M kv = sm_app bc bp M kv 0 2 from (by unfold sm_rem; rw [if_pos c4_1, if_pos c14_2]; exact if_pos c25_3)]; exact ⟨rfl, rfl⟩)
    · skip
      refine z_bipush (v := -2) C0 d_M_remove_17 (by decide) ?_
      exact z_iret C0 hA hQ hr d_M_remove_19 (by rw [show sm_rem bc bp M kv = (-2, M) from (by unfold sm_rem; rw [if_pos c4_1]; exact if_neg (by rw [c14_2]; decide))]; exact ⟨rfl, rfl⟩)
  · skip
    refine z_bipush (v := -3) C0 d_M_remove_7 (by decide) ?_
    exact z_iret C0 hA hQ hr d_M_remove_9 (by rw [show sm_rem bc bp M kv = (-3, M) from (if_neg (by rw [c4_1]; decide))]; exact ⟨rfl, rfl⟩)

set_option maxHeartbeats 4000000 in
set_option maxRecDepth 100000 in
theorem c_M_get (l : Launch) (D : va_G) (cI cZ : ClassId) (y : Nat → Nat) (bc bp : Nat) (M : zm_S) (hB : zb_ok bc bp) (kv : Int32) (hh : zh_ok bc (mm_h M)) : zc_Con l y_M_get b_M_get 3 (some .int) { frames := 4, cells := 0, slots := 0, locals := 90 } D cI cZ [.ref (y 0), .int (kv)] (zm_W cI cZ y bc bp M) (zo (some (.int ((sm_get bc bp M kv).1))) (zm_W cI cZ y bc bp ((sm_get bc bp M kv).2))) := by
  refine zc_start (by decide) (Nat.le_of_ble_eq_true rfl) ?_
  intro p e s m args below meth c A Q hA hQ C0 hr hin
  have C0 : zc_Cx p s m args meth c b_M_get 3 R_M D cI cZ A := C0
  have hB0 := hB
  obtain ⟨hB1, hB2, hB3, hB4⟩ := hB
  have hN : bc * bp ≤ 20 := Nat.mul_le_mul hB2 hB4
  refine z_lvs (lvn := [(0, .ref (y 0)), (1, .int (kv))]) rfl ?_
  refine z_aload_n C0 d_M_get_0 rfl 0 rfl ?_
  refine z_iload_n C0 d_M_get_1 rfl 1 rfl ?_
  refine z_allV (As := [.int (kv)]) (rest := []) C0 (c_M_has l D cI cZ y bc bp M hB0 (kv) (hh)) mt_M_has ml_M_152 vt_M_has rfl rfl ⟨Nat.le_of_ble_eq_true rfl, Nat.le_of_ble_eq_true rfl⟩ ⟨rfl, rfl⟩ ⟨Nat.zero_le _, Nat.zero_le _⟩ rfl rfl (Nat.le_of_ble_eq_true rfl) d_M_get_2 ?_
  refine z_st (stn := [.int (bI (mm_r M && (pkey kv && sm_held bc bp M kv)))]) rfl ?_
  refine z_ifB_ne (tgt := 10) C0 d_M_get_5 (by decide) (fun (c5_1 : (mm_r M && (pkey kv && sm_held bc bp M kv)) = true) => ?_) (fun (c5_1 : (mm_r M && (pkey kv && sm_held bc bp M kv)) = false) => ?_)
  · obtain ⟨q, hq⟩ := sm_held_some (bc := bc) (bp := bp) (M := M) (k := kv) (by have z := c5_1; simp only [Bool.and_eq_true] at z; exact z.2.2); have hq1 := sm_latLt hq
    refine z_aload_n C0 d_M_get_10 rfl 0 rfl ?_
    refine z_iload_n C0 d_M_get_11 rfl 1 rfl ?_
    refine z_allV (As := [.int (kv)]) (rest := []) C0 (c_M_latest l D cI cZ y bc bp M hB0 (kv) (hh)) mt_M_latest ml_M_94 vt_M_latest rfl rfl ⟨Nat.le_of_ble_eq_true rfl, Nat.le_of_ble_eq_true rfl⟩ ⟨rfl, rfl⟩ ⟨Nat.zero_le _, Nat.zero_le _⟩ rfl rfl (Nat.le_of_ble_eq_true rfl) d_M_get_12 ?_
    refine z_st (stn := [.int (oN (sm_lat bc bp M kv))]) rfl ?_
    refine z_top (vn := .int (nI (q))) (by rw [hq]; rfl) ?_
    refine z_istore_n (lvn := [(0, .ref (y 0)), (1, .int (kv)), (2, .int (nI (q)))]) C0 d_M_get_15 rfl (by decide) [1, 2, 0] rfl ?_
    refine z_aload_n C0 d_M_get_16 rfl 0 rfl ?_
    refine z_iload_n C0 d_M_get_17 rfl 2 rfl ?_
    refine z_allV (As := [.int (nI (q))]) (rest := []) C0 (c_M_read l D cI cZ y bc bp M hB0 (q) (by omega)) mt_M_read ml_M_124 vt_M_read rfl rfl ⟨Nat.le_of_ble_eq_true rfl, Nat.le_of_ble_eq_true rfl⟩ ⟨rfl, rfl⟩ ⟨Nat.zero_le _, Nat.zero_le _⟩ rfl rfl (Nat.le_of_ble_eq_true rfl) d_M_get_18 ?_
    refine z_st (stn := []) rfl ?_
    refine z_aload_n C0 d_M_get_21 rfl 0 rfl ?_
    refine z_get C0 gf_M_79 0 rfl rfl d_M_get_22 ?_
    refine z_iconst (v := nI 1) C0 d_M_get_25 (by decide) ?_
    refine z_icmpN_eq (tgt := 37) C0 d_M_get_26 (by decide) (sm_rd31 _ _ _) (by decide) (fun (c26_2 : (sm_rd (mm_f M) (mm_e M) q).1 = 1) => ?_) (fun (c26_2 : (sm_rd (mm_f M) (mm_e M) q).1 ≠ 1) => ?_)
    · skip
      refine z_aload_n C0 d_M_get_37 rfl 0 rfl ?_
      refine z_get C0 gf_M_42 0 rfl rfl d_M_get_38 ?_
      refine z_iconst (v := nI 2) C0 d_M_get_41 (by decide) ?_
      refine z_iald C0 8 rfl (by omega) (by omega) d_M_get_42 ?_
      refine z_gotoK (tgt := 47) C0 d_M_get_43 (by decide) ?_
      exact z_iret C0 hA hQ hr d_M_get_47 (by have hw := (show sm_mw (sm_rd (mm_f M) (mm_e M) q).1 = true from (by unfold sm_mw; rw [decide_eq_true (show (sm_rd (mm_f M) (mm_e M) q).1 = 1 from c26_2)]; rfl)); rw [show sm_get bc bp M kv = ((sm_rd (mm_f M) (mm_e M) q).2 2, sm_read M q) from (by unfold sm_get; rw [if_pos c5_1, hq]; show ((if sm_mw (sm_rd (mm_f M) (mm_e M) q).1 = true then (sm_rd (mm_f M) (mm_e M) q).2 2 else 0), sm_read M q) = _; rw [show (if sm_mw (sm_rd (mm_f M) (mm_e M) q).1 = true then (sm_rd (mm_f M) (mm_e M) q).2 2 else 0) = (sm_rd (mm_f M) (mm_e M) q).2 2 from if_pos hw])]; exact ⟨rfl, rfl⟩)
    · skip
      refine z_aload_n C0 d_M_get_29 rfl 0 rfl ?_
      refine z_get C0 gf_M_79 0 rfl rfl d_M_get_30 ?_
      refine z_iconst (v := nI 2) C0 d_M_get_33 (by decide) ?_
      refine z_icmpN_ne (tgt := 46) C0 d_M_get_34 (by decide) (sm_rd31 _ _ _) (by decide) (fun (c34_3 : (sm_rd (mm_f M) (mm_e M) q).1 ≠ 2) => ?_) (fun (c34_3 : (sm_rd (mm_f M) (mm_e M) q).1 = 2) => ?_)
      · skip
        refine z_iconst (v := 0) C0 d_M_get_46 (by decide) ?_
        exact z_iret C0 hA hQ hr d_M_get_47 (by have hw := (show sm_mw (sm_rd (mm_f M) (mm_e M) q).1 = false from (by unfold sm_mw; rw [decide_eq_false (show ¬ (sm_rd (mm_f M) (mm_e M) q).1 = 1 from c26_2), decide_eq_false (show ¬ (sm_rd (mm_f M) (mm_e M) q).1 = 2 from c34_3)]; rfl)); rw [show sm_get bc bp M kv = (0, sm_read M q) from (by unfold sm_get; rw [if_pos c5_1, hq]; show ((if sm_mw (sm_rd (mm_f M) (mm_e M) q).1 = true then (sm_rd (mm_f M) (mm_e M) q).2 2 else 0), sm_read M q) = _; rw [show (if sm_mw (sm_rd (mm_f M) (mm_e M) q).1 = true then (sm_rd (mm_f M) (mm_e M) q).2 2 else 0) = 0 from if_neg (by rw [hw]; decide)])]; exact ⟨rfl, rfl⟩)
      · skip
        refine z_aload_n C0 d_M_get_37 rfl 0 rfl ?_
        refine z_get C0 gf_M_42 0 rfl rfl d_M_get_38 ?_
        refine z_iconst (v := nI 2) C0 d_M_get_41 (by decide) ?_
        refine z_iald C0 8 rfl (by omega) (by omega) d_M_get_42 ?_
        refine z_gotoK (tgt := 47) C0 d_M_get_43 (by decide) ?_
        exact z_iret C0 hA hQ hr d_M_get_47 (by have hw := (show sm_mw (sm_rd (mm_f M) (mm_e M) q).1 = true from (by unfold sm_mw; rw [decide_eq_true (show (sm_rd (mm_f M) (mm_e M) q).1 = 2 from c34_3), Bool.or_true])); rw [show sm_get bc bp M kv = ((sm_rd (mm_f M) (mm_e M) q).2 2, sm_read M q) from (by unfold sm_get; rw [if_pos c5_1, hq]; show ((if sm_mw (sm_rd (mm_f M) (mm_e M) q).1 = true then (sm_rd (mm_f M) (mm_e M) q).2 2 else 0), sm_read M q) = _; rw [show (if sm_mw (sm_rd (mm_f M) (mm_e M) q).1 = true then (sm_rd (mm_f M) (mm_e M) q).2 2 else 0) = (sm_rd (mm_f M) (mm_e M) q).2 2 from if_pos hw])]; exact ⟨rfl, rfl⟩)
  · skip
    refine z_iconst (v := 0) C0 d_M_get_8 (by decide) ?_
    exact z_iret C0 hA hQ hr d_M_get_9 (by rw [show sm_get bc bp M kv = (0, M) from (if_neg (by rw [c5_1]; decide))]; exact ⟨rfl, rfl⟩)

set_option maxHeartbeats 4000000 in
set_option maxRecDepth 100000 in
theorem c_M_condition (l : Launch) (D : va_G) (cI cZ : ClassId) (y : Nat → Nat) (bc bp : Nat) (M : zm_S) (hB : zb_ok bc bp) (pv : Int32)  : zc_Con l y_M_condition b_M_condition 2 (some .int) { frames := 3, cells := 0, slots := 0, locals := 69 } D cI cZ [.ref (y 0), .int (pv)] (zm_W cI cZ y bc bp M) (zo (some (.int ((sm_cnd (bc * bp) M pv).1))) (zm_W cI cZ y bc bp ((sm_cnd (bc * bp) M pv).2))) := by
  refine zc_start (by decide) (Nat.le_of_ble_eq_true rfl) ?_
  intro p e s m args below meth c A Q hA hQ C0 hr hin
  have C0 : zc_Cx p s m args meth c b_M_condition 2 R_M D cI cZ A := C0
  have hB0 := hB
  obtain ⟨hB1, hB2, hB3, hB4⟩ := hB
  have hN : bc * bp ≤ 20 := Nat.mul_le_mul hB2 hB4
  refine z_lvs (lvn := [(0, .ref (y 0)), (1, .int (pv))]) rfl ?_
  refine z_aload_n C0 d_M_condition_0 rfl 0 rfl ?_
  refine z_iload_n C0 d_M_condition_1 rfl 1 rfl ?_
  refine z_allV (As := [.int (pv)]) (rest := []) C0 (c_M_isPage l D cI cZ y bc bp M hB0 (pv) ) mt_M_isPage ml_M_155 vt_M_isPage rfl rfl ⟨Nat.le_of_ble_eq_true rfl, Nat.le_of_ble_eq_true rfl⟩ ⟨rfl, rfl⟩ ⟨Nat.zero_le _, Nat.zero_le _⟩ rfl rfl (Nat.le_of_ble_eq_true rfl) d_M_condition_2 ?_
  refine z_st (stn := [.int (bI (spg (bc * bp) pv))]) rfl ?_
  refine z_ifB_ne (tgt := 11) C0 d_M_condition_5 (by decide) (fun (c5_1 : spg (bc * bp) pv = true) => ?_) (fun (c5_1 : spg (bc * bp) pv = false) => ?_)
  · obtain ⟨j, hj, rfl⟩ := spg_true (by omega) c5_1
    refine z_lvs (lvn := [(0, .ref (y 0)), (1, .int (nI (j)))]) rfl ?_
    refine z_aload_n C0 d_M_condition_11 rfl 0 rfl ?_
    refine z_iload_n C0 d_M_condition_12 rfl 1 rfl ?_
    refine z_allV (As := [.int (nI (j))]) (rest := []) C0 (c_M_read l D cI cZ y bc bp M hB0 (j) (by omega)) mt_M_read ml_M_124 vt_M_read rfl rfl ⟨Nat.le_of_ble_eq_true rfl, Nat.le_of_ble_eq_true rfl⟩ ⟨rfl, rfl⟩ ⟨Nat.zero_le _, Nat.zero_le _⟩ rfl rfl (Nat.le_of_ble_eq_true rfl) d_M_condition_13 ?_
    refine z_st (stn := []) rfl ?_
    refine z_aload_n C0 d_M_condition_16 rfl 0 rfl ?_
    refine z_get C0 gf_M_79 0 rfl rfl d_M_condition_17 ?_
    exact z_iret C0 hA hQ hr d_M_condition_20 (by rw [show sm_cnd (bc * bp) M (nI j) = (nI (sm_rd (mm_f M) (mm_e M) j).1, sm_read M j) from (by unfold sm_cnd; rw [sidx_nI (by omega) hj])]; exact ⟨rfl, rfl⟩)
  · skip
    refine z_bipush (v := -3) C0 d_M_condition_8 (by decide) ?_
    exact z_iret C0 hA hQ hr d_M_condition_10 (by rw [show sm_cnd (bc * bp) M pv = (-3, M) from (by unfold sm_cnd; rw [sidx_no c5_1])]; exact ⟨rfl, rfl⟩)
