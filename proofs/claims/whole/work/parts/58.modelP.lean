set_option maxHeartbeats 4000000 in
set_option maxRecDepth 100000 in
theorem c_M_has (l : Launch) (D : va_G) (cI cZ : ClassId) (y : Nat → Nat) (bc bp : Nat) (M : zm_S) (hB : zb_ok bc bp) (kv : Int32) (hh : zh_ok bc (mm_h M)) : zc_Con l y_M_has b_M_has 2 (some .boolean) { frames := 3, cells := 0, slots := 0, locals := 69 } D cI cZ [.ref (y 0), .int (kv)] (zm_W cI cZ y bc bp M) (zo (some (.int (bI (mm_r M && (pkey kv && sm_held bc bp M kv))))) (zm_W cI cZ y bc bp M)) := by
  refine zc_start (by decide) (Nat.le_of_ble_eq_true rfl) ?_
  intro p e s m args below meth c A Q hA hQ C0 hr hin
  have C0 : zc_Cx p s m args meth c b_M_has 2 R_M D cI cZ A := C0
  have hB0 := hB
  obtain ⟨hB1, hB2, hB3, hB4⟩ := hB
  have hN : bc * bp ≤ 20 := Nat.mul_le_mul hB2 hB4
  refine z_lvs (lvn := [(0, .ref (y 0)), (1, .int (kv))]) rfl ?_
  refine z_aload_n C0 d_M_has_0 rfl 0 rfl ?_
  refine z_get C0 gf_M_65 0 rfl rfl d_M_has_1 ?_
  refine z_ifB_eq (tgt := 26) C0 d_M_has_4 (by decide) (fun (c4_1 : mm_r M = false) => ?_) (fun (c4_1 : mm_r M = true) => ?_)
  · skip
    refine z_iconst (v := nI 0) C0 d_M_has_26 (by decide) ?_
    refine z_topi (x := nI 0) (xn := bI false) (by decide) ?_
    exact z_zret C0 hA hQ hr d_M_has_27 (⟨by simp [c4_1], rfl⟩)
  · skip
    refine z_iload_n C0 d_M_has_7 rfl 1 rfl ?_
    refine z_nilS (As := [.int (kv)]) (rest := []) C0 (c_M_isKey l D cI cZ    (kv) ) mt_M_isKey ml_M_145 vt_M_isKey ⟨Nat.le_of_ble_eq_true rfl, Nat.le_of_ble_eq_true rfl⟩ ⟨rfl, rfl⟩ ⟨Nat.zero_le _, Nat.zero_le _⟩ rfl rfl (Nat.le_of_ble_eq_true rfl) d_M_has_8 ?_
    refine z_st (stn := [.int (bI (pkey kv))]) rfl ?_
    refine z_ifB_eq (tgt := 26) C0 d_M_has_11 (by decide) (fun (c11_2 : pkey kv = false) => ?_) (fun (c11_2 : pkey kv = true) => ?_)
    · skip
      refine z_iconst (v := nI 0) C0 d_M_has_26 (by decide) ?_
      refine z_topi (x := nI 0) (xn := bI false) (by decide) ?_
      exact z_zret C0 hA hQ hr d_M_has_27 (⟨by simp [c4_1, c11_2], rfl⟩)
    · skip
      refine z_aload_n C0 d_M_has_14 rfl 0 rfl ?_
      refine z_iload_n C0 d_M_has_15 rfl 1 rfl ?_
      refine z_allV (As := [.int (kv)]) (rest := []) C0 (c_M_held l D cI cZ y bc bp M hB0 (kv) (hh)) mt_M_held ml_M_139 vt_M_held rfl rfl ⟨Nat.le_of_ble_eq_true rfl, Nat.le_of_ble_eq_true rfl⟩ ⟨rfl, rfl⟩ ⟨Nat.zero_le _, Nat.zero_le _⟩ rfl rfl (Nat.le_of_ble_eq_true rfl) d_M_has_16 ?_
      refine z_st (stn := [.int (bI (sm_held bc bp M kv))]) rfl ?_
      refine z_ifB_eq (tgt := 26) C0 d_M_has_19 (by decide) (fun (c19_3 : sm_held bc bp M kv = false) => ?_) (fun (c19_3 : sm_held bc bp M kv = true) => ?_)
      · skip
        refine z_iconst (v := nI 0) C0 d_M_has_26 (by decide) ?_
        refine z_topi (x := nI 0) (xn := bI false) (by decide) ?_
        exact z_zret C0 hA hQ hr d_M_has_27 (⟨by simp [c4_1, c11_2, c19_3], rfl⟩)
      · skip
        refine z_iconst (v := nI 1) C0 d_M_has_22 (by decide) ?_
        refine z_gotoK (tgt := 27) C0 d_M_has_23 (by decide) ?_
        refine z_topi (x := nI 1) (xn := bI true) (by decide) ?_
        exact z_zret C0 hA hQ hr d_M_has_27 (⟨by simp [c4_1, c11_2, c19_3], rfl⟩)

set_option maxHeartbeats 4000000 in
set_option maxRecDepth 100000 in
theorem c_M_size (l : Launch) (D : va_G) (cI cZ : ClassId) (y : Nat → Nat) (bc bp : Nat) (M : zm_S) (hB : zb_ok bc bp)  (hh : zh_ok bc (mm_h M)) : zc_Con l y_M_size b_M_size 1 (some .int) { frames := 4, cells := 0, slots := 0, locals := 91 } D cI cZ [.ref (y 0)] (zm_W cI cZ y bc bp M) (zo (some (.int (if mm_r M = true then nI (sm_hks bc bp M 16 0 0) else -2))) (zm_W cI cZ y bc bp M)) := by
  refine zc_start (by decide) (Nat.le_of_ble_eq_true rfl) ?_
  intro p e s m args below meth c A Q hA hQ C0 hr hin
  have C0 : zc_Cx p s m args meth c b_M_size 1 R_M D cI cZ A := C0
  have hB0 := hB
  obtain ⟨hB1, hB2, hB3, hB4⟩ := hB
  have hN : bc * bp ≤ 20 := Nat.mul_le_mul hB2 hB4
  refine z_lvs (lvn := [(0, .ref (y 0))]) rfl ?_
  refine z_aload_n C0 d_M_size_0 rfl 0 rfl ?_
  refine z_get C0 gf_M_65 0 rfl rfl d_M_size_1 ?_
  refine z_ifB_eq (tgt := 14) C0 d_M_size_4 (by decide) (fun (c4_1 : mm_r M = false) => ?_) (fun (c4_1 : mm_r M = true) => ?_)
  · skip
    refine z_bipush (v := -2) C0 d_M_size_14 (by decide) ?_
    exact z_iret C0 hA hQ hr d_M_size_16 (⟨by rw [if_neg (by rw [c4_1]; decide)], rfl⟩)
  · skip
    refine z_aload_n C0 d_M_size_7 rfl 0 rfl ?_
    refine z_allV (As := []) (rest := []) C0 (c_M_heldKeys l D cI cZ y bc bp M hB0  (hh)) mt_M_heldKeys ml_M_142 vt_M_heldKeys rfl rfl ⟨Nat.le_of_ble_eq_true rfl, Nat.le_of_ble_eq_true rfl⟩ ⟨rfl, rfl⟩ ⟨Nat.zero_le _, Nat.zero_le _⟩ rfl rfl (Nat.le_of_ble_eq_true rfl) d_M_size_8 ?_
    refine z_st (stn := [.int (nI (sm_hks bc bp M 16 0 0))]) rfl ?_
    refine z_gotoK (tgt := 16) C0 d_M_size_11 (by decide) ?_
    exact z_iret C0 hA hQ hr d_M_size_16 (⟨by rw [if_pos c4_1], rfl⟩)

set_option maxHeartbeats 4000000 in
set_option maxRecDepth 100000 in
theorem c_M_needed (l : Launch) (D : va_G) (cI cZ : ClassId) (y : Nat → Nat) (bc bp : Nat) (M : zm_S) (hB : zb_ok bc bp) (bv : Int32) (hh : zh_ok bc (mm_h M)) : zc_Con l y_M_needed b_M_needed 2 (some .int) { frames := 4, cells := 0, slots := 0, locals := 93 } D cI cZ [.ref (y 0), .int (bv)] (zm_W cI cZ y bc bp M) (zo (some (.int (sm_needed bc bp M bv))) (zm_W cI cZ y bc bp M)) := by
  refine zc_start (by decide) (Nat.le_of_ble_eq_true rfl) ?_
  intro p e s m args below meth c A Q hA hQ C0 hr hin
  have C0 : zc_Cx p s m args meth c b_M_needed 2 R_M D cI cZ A := C0
  have hB0 := hB
  obtain ⟨hB1, hB2, hB3, hB4⟩ := hB
  have hN : bc * bp ≤ 20 := Nat.mul_le_mul hB2 hB4
  refine z_lvs (lvn := [(0, .ref (y 0)), (1, .int (bv))]) rfl ?_
  refine z_iload_n C0 d_M_needed_0 rfl 1 rfl ?_
  refine z_if_lt (tgt := 12) C0 d_M_needed_1 (by decide) (fun (c1_1 : bv < 0) => ?_) (fun (c1_1 : ¬ bv < 0) => ?_)
  · skip
    refine z_bipush (v := -3) C0 d_M_needed_12 (by decide) ?_
    exact z_iret C0 hA hQ hr d_M_needed_14 (⟨by rw [show sm_needed bc bp M bv = -3 from (by unfold sm_needed; rw [sidx_no (spg_lt c1_1)])], rfl⟩)
  · have c1h := c1_1
    refine z_iload_n C0 d_M_needed_4 rfl 1 rfl ?_
    refine z_aload_n C0 d_M_needed_5 rfl 0 rfl ?_
    refine z_get C0 gf_M_45 0 rfl rfl d_M_needed_6 ?_
    refine z_icmp_lt (tgt := 15) C0 d_M_needed_9 (by decide) (fun (c9_2 : bv < (nI (bc))) => ?_) (fun (c9_2 : ¬ bv < (nI (bc))) => ?_)
    · obtain ⟨j, hj, rfl⟩ := spg_true (by omega) (spg_in c1h c9_2)
      refine z_lvs (lvn := [(0, .ref (y 0)), (1, .int (nI (j)))]) rfl ?_
      refine z_aload_n C0 d_M_needed_15 rfl 0 rfl ?_
      refine z_get C0 gf_M_65 0 rfl rfl d_M_needed_16 ?_
      refine z_ifB_eq (tgt := 30) C0 d_M_needed_19 (by decide) (fun (c19_3 : mm_r M = false) => ?_) (fun (c19_3 : mm_r M = true) => ?_)
      · skip
        refine z_bipush (v := -2) C0 d_M_needed_30 (by decide) ?_
        exact z_iret C0 hA hQ hr d_M_needed_32 (⟨by rw [show sm_needed bc bp M (nI j) = -2 from (by unfold sm_needed; rw [sidx_nI (by omega) hj]; exact if_neg (by rw [c19_3]; decide))], rfl⟩)
      · skip
        refine z_aload_n C0 d_M_needed_22 rfl 0 rfl ?_
        refine z_iload_n C0 d_M_needed_23 rfl 1 rfl ?_
        refine z_allV (As := [.int (nI (j))]) (rest := []) C0 (c_M_neededOf l D cI cZ y bc bp M hB0 (j) (hh) (hj)) mt_M_neededOf ml_M_111 vt_M_neededOf rfl rfl ⟨Nat.le_of_ble_eq_true rfl, Nat.le_of_ble_eq_true rfl⟩ ⟨rfl, rfl⟩ ⟨Nat.zero_le _, Nat.zero_le _⟩ rfl rfl (Nat.le_of_ble_eq_true rfl) d_M_needed_24 ?_
        refine z_st (stn := [.int (nI (sm_nd bc bp M j))]) rfl ?_
        refine z_gotoK (tgt := 32) C0 d_M_needed_27 (by decide) ?_
        exact z_iret C0 hA hQ hr d_M_needed_32 (⟨by rw [show sm_needed bc bp M (nI j) = nI (sm_nd bc bp M j) from (by unfold sm_needed; rw [sidx_nI (by omega) hj]; exact if_pos c19_3)], rfl⟩)
    · skip
      refine z_bipush (v := -3) C0 d_M_needed_12 (by decide) ?_
      exact z_iret C0 hA hQ hr d_M_needed_14 (⟨by rw [show sm_needed bc bp M bv = -3 from (by unfold sm_needed; rw [sidx_no (spg_ge c9_2)])], rfl⟩)

set_option maxHeartbeats 4000000 in
set_option maxRecDepth 100000 in
theorem c_M_word (l : Launch) (D : va_G) (cI cZ : ClassId) (y : Nat → Nat) (bc bp : Nat) (M : zm_S) (hB : zb_ok bc bp) (pv : Int32) (kv : Int32)  : zc_Con l y_M_word b_M_word 3 (some .int) { frames := 1, cells := 0, slots := 0, locals := 21 } D cI cZ [.ref (y 0), .int (pv), .int (kv)] (zm_W cI cZ y bc bp M) (zo (some (.int (sm_word (bc * bp) M pv kv))) (zm_W cI cZ y bc bp M)) := by
  refine zc_start (by decide) (Nat.le_of_ble_eq_true rfl) ?_
  intro p e s m args below meth c A Q hA hQ C0 hr hin
  have C0 : zc_Cx p s m args meth c b_M_word 3 R_M D cI cZ A := C0
  have hB0 := hB
  obtain ⟨hB1, hB2, hB3, hB4⟩ := hB
  have hN : bc * bp ≤ 20 := Nat.mul_le_mul hB2 hB4
  refine z_lvs (lvn := [(0, .ref (y 0)), (1, .int (pv)), (2, .int (kv))]) rfl ?_
  refine z_aload_n C0 d_M_word_0 rfl 0 rfl ?_
  refine z_iload_n C0 d_M_word_1 rfl 1 rfl ?_
  refine z_allV (As := [.int (pv)]) (rest := []) C0 (c_M_isPage l D cI cZ y bc bp M hB0 (pv) ) mt_M_isPage ml_M_155 vt_M_isPage rfl rfl ⟨Nat.le_of_ble_eq_true rfl, Nat.le_of_ble_eq_true rfl⟩ ⟨rfl, rfl⟩ ⟨Nat.zero_le _, Nat.zero_le _⟩ rfl rfl (Nat.le_of_ble_eq_true rfl) d_M_word_2 ?_
  refine z_st (stn := [.int (bI (spg (bc * bp) pv))]) rfl ?_
  refine z_ifB_eq (tgt := 32) C0 d_M_word_5 (by decide) (fun (c5_1 : spg (bc * bp) pv = false) => ?_) (fun (c5_1 : spg (bc * bp) pv = true) => ?_)
  · skip
    refine z_iconst (v := nI 0) C0 d_M_word_32 (by decide) ?_
    exact z_iret C0 hA hQ hr d_M_word_33 (⟨by rw [show sm_word (bc * bp) M pv kv = 0 from (by unfold sm_word; rw [sidx_no c5_1]; try rfl)]; rfl, rfl⟩)
  · obtain ⟨j, hj, rfl⟩ := spg_true (by omega) c5_1
    refine z_lvs (lvn := [(0, .ref (y 0)), (1, .int (nI (j))), (2, .int (kv))]) rfl ?_
    refine z_iload_n C0 d_M_word_8 rfl 2 rfl ?_
    refine z_if_lt (tgt := 32) C0 d_M_word_9 (by decide) (fun (c9_2 : kv < 0) => ?_) (fun (c9_2 : ¬ kv < 0) => ?_)
    · skip
      refine z_iconst (v := nI 0) C0 d_M_word_32 (by decide) ?_
      exact z_iret C0 hA hQ hr d_M_word_33 (⟨by rw [show sm_word (bc * bp) M (nI j) kv = 0 from (by unfold sm_word; rw [sidx_nI (by omega) hj, sidx_no (spg_lt c9_2)])]; rfl, rfl⟩)
    · have c9h := c9_2
      refine z_iload_n C0 d_M_word_12 rfl 2 rfl ?_
      refine z_bipush (v := nI 6) C0 d_M_word_13 (by decide) ?_
      refine z_topi (x := nI 6) (xn := 6) (by decide) ?_
      refine z_icmp_ge (tgt := 32) C0 d_M_word_15 (by decide) (fun (c15_3 : 6 ≤ kv) => ?_) (fun (c15_3 : ¬ 6 ≤ kv) => ?_)
      · skip
        refine z_iconst (v := nI 0) C0 d_M_word_32 (by decide) ?_
        exact z_iret C0 hA hQ hr d_M_word_33 (⟨by rw [show sm_word (bc * bp) M (nI j) kv = 0 from (by unfold sm_word; rw [sidx_nI (by omega) hj, sidx_no (spg_ge (Int32.not_lt.mpr c15_3))])]; rfl, rfl⟩)
      · obtain ⟨k, hk, rfl⟩ := spg_true (by decide) (spg_in (n := 6) c9h (Int32.not_le.mp c15_3))
        refine z_lvs (lvn := [(0, .ref (y 0)), (1, .int (nI (j))), (2, .int (nI (k)))]) rfl ?_
        refine z_aload_n C0 d_M_word_18 rfl 0 rfl ?_
        refine z_get C0 gf_M_7 0 rfl rfl d_M_word_19 ?_
        refine z_bipush (v := nI 6) C0 d_M_word_22 (by decide) ?_
        refine z_iload_n C0 d_M_word_24 rfl 1 rfl ?_
        refine z_imulN C0 d_M_word_25 ?_
        refine z_iload_n C0 d_M_word_26 rfl 2 rfl ?_
        refine z_iaddN C0 d_M_word_27 ?_
        refine z_iald C0 1 rfl (by omega) (by omega) d_M_word_28 ?_
        refine z_gotoK (tgt := 33) C0 d_M_word_29 (by decide) ?_
        exact z_iret C0 hA hQ hr d_M_word_33 (⟨by rw [show sm_word (bc * bp) M (nI j) (nI k) = mm_f M (6 * j + k) from (by unfold sm_word; rw [sidx_nI (by omega) hj, sidx_nI (by decide) hk])], rfl⟩)

set_option maxHeartbeats 4000000 in
set_option maxRecDepth 100000 in
theorem c_M_rot (l : Launch) (D : va_G) (cI cZ : ClassId) (y : Nat → Nat) (bc bp : Nat) (M : zm_S) (hB : zb_ok bc bp) (pv : Int32) (iv : Int32)  : zc_Con l y_M_rot b_M_rot 3 (some .boolean) { frames := 1, cells := 0, slots := 0, locals := 21 } D cI cZ [.ref (y 0), .int (pv), .int (iv)] (zm_W cI cZ y bc bp M) (zo (some (.int (bI ((sm_rot (bc * bp) M pv iv).1)))) (zm_W cI cZ y bc bp ((sm_rot (bc * bp) M pv iv).2))) := by
  refine zc_start (by decide) (Nat.le_of_ble_eq_true rfl) ?_
  intro p e s m args below meth c A Q hA hQ C0 hr hin
  have C0 : zc_Cx p s m args meth c b_M_rot 3 R_M D cI cZ A := C0
  have hB0 := hB
  obtain ⟨hB1, hB2, hB3, hB4⟩ := hB
  have hN : bc * bp ≤ 20 := Nat.mul_le_mul hB2 hB4
  refine z_lvs (lvn := [(0, .ref (y 0)), (1, .int (pv)), (2, .int (iv))]) rfl ?_
  refine z_aload_n C0 d_M_rot_0 rfl 0 rfl ?_
  refine z_iload_n C0 d_M_rot_1 rfl 1 rfl ?_
  refine z_allV (As := [.int (pv)]) (rest := []) C0 (c_M_isPage l D cI cZ y bc bp M hB0 (pv) ) mt_M_isPage ml_M_155 vt_M_isPage rfl rfl ⟨Nat.le_of_ble_eq_true rfl, Nat.le_of_ble_eq_true rfl⟩ ⟨rfl, rfl⟩ ⟨Nat.zero_le _, Nat.zero_le _⟩ rfl rfl (Nat.le_of_ble_eq_true rfl) d_M_rot_2 ?_
  refine z_st (stn := [.int (bI (spg (bc * bp) pv))]) rfl ?_
  refine z_ifB_eq (tgt := 19) C0 d_M_rot_5 (by decide) (fun (c5_1 : spg (bc * bp) pv = false) => ?_) (fun (c5_1 : spg (bc * bp) pv = true) => ?_)
  · skip
    refine z_iconst (v := nI 0) C0 d_M_rot_19 (by decide) ?_
    refine z_topi (x := nI 0) (xn := bI false) (by decide) ?_
    exact z_zret C0 hA hQ hr d_M_rot_20 (by rw [show sm_rot (bc * bp) M pv iv = (false, M) from (by unfold sm_rot; rw [sidx_no c5_1]; try rfl)]; exact ⟨rfl, rfl⟩)
  · obtain ⟨j, hj, rfl⟩ := spg_true (by omega) c5_1
    refine z_lvs (lvn := [(0, .ref (y 0)), (1, .int (nI (j))), (2, .int (iv))]) rfl ?_
    refine z_iload_n C0 d_M_rot_8 rfl 2 rfl ?_
    refine z_if_lt (tgt := 19) C0 d_M_rot_9 (by decide) (fun (c9_2 : iv < 0) => ?_) (fun (c9_2 : ¬ iv < 0) => ?_)
    · skip
      refine z_iconst (v := nI 0) C0 d_M_rot_19 (by decide) ?_
      refine z_topi (x := nI 0) (xn := bI false) (by decide) ?_
      exact z_zret C0 hA hQ hr d_M_rot_20 (by rw [show sm_rot (bc * bp) M (nI j) iv = (false, M) from (by unfold sm_rot; rw [sidx_nI (by omega) hj, sidx_no (spg_lt c9_2)])]; exact ⟨rfl, rfl⟩)
    · have c9h := c9_2
      refine z_iload_n C0 d_M_rot_12 rfl 2 rfl ?_
      refine z_sipush (v := nI 177) C0 d_M_rot_13 (by decide) ?_
      refine z_topi (x := nI 177) (xn := 177) (by decide) ?_
      refine z_icmp_le (tgt := 21) C0 d_M_rot_16 (by decide) (fun (c16_3 : iv ≤ 177) => ?_) (fun (c16_3 : ¬ iv ≤ 177) => ?_)
      · obtain ⟨k, hk, rfl⟩ := spg_true (by decide) (spg_in (n := 178) c9h (lt_178 c16_3))
        refine z_lvs (lvn := [(0, .ref (y 0)), (1, .int (nI (j))), (2, .int (nI (k)))]) rfl ?_
        refine z_aload_n C0 d_M_rot_21 rfl 0 rfl ?_
        refine z_get C0 gf_M_7 0 rfl rfl d_M_rot_22 ?_
        refine z_bipush (v := nI 6) C0 d_M_rot_25 (by decide) ?_
        refine z_iload_n C0 d_M_rot_27 rfl 1 rfl ?_
        refine z_imulN C0 d_M_rot_28 ?_
        refine z_iload_n C0 d_M_rot_29 rfl 2 rfl ?_
        refine z_bipush (v := nI 32) C0 d_M_rot_30 (by decide) ?_
        refine z_idivN C0 d_M_rot_32 (by omega) (by omega) (by omega) ?_
        refine z_iaddN C0 d_M_rot_33 ?_
        refine z_aload_n C0 d_M_rot_34 rfl 0 rfl ?_
        refine z_get C0 gf_M_7 0 rfl rfl d_M_rot_35 ?_
        refine z_bipush (v := nI 6) C0 d_M_rot_38 (by decide) ?_
        refine z_iload_n C0 d_M_rot_40 rfl 1 rfl ?_
        refine z_imulN C0 d_M_rot_41 ?_
        refine z_iload_n C0 d_M_rot_42 rfl 2 rfl ?_
        refine z_bipush (v := nI 32) C0 d_M_rot_43 (by decide) ?_
        refine z_idivN C0 d_M_rot_45 (by omega) (by omega) (by omega) ?_
        refine z_iaddN C0 d_M_rot_46 ?_
        refine z_iald C0 1 rfl (by omega) (by omega) d_M_rot_47 ?_
        refine z_iconst (v := 1) C0 d_M_rot_48 (by decide) ?_
        refine z_iload_n C0 d_M_rot_49 rfl 2 rfl ?_
        refine z_bipush (v := nI 32) C0 d_M_rot_50 (by decide) ?_
        refine z_iremN C0 d_M_rot_52 (by omega) (by omega) (by omega) ?_
        refine z_ishl C0 d_M_rot_53 ?_
        refine z_ixor C0 d_M_rot_54 ?_
        refine z_iast C0 1 rfl (by omega) (by omega) d_M_rot_55 ?_
        refine z_iconst (v := nI 1) C0 d_M_rot_56 (by decide) ?_
        refine z_ws (wsn := zm_W cI cZ y bc bp (zmk (upd (mm_f M) (6 * j + (k / 32)) (((mm_f M) (6 * j + (k / 32))) ^^^ (1 <<< ((nI (k % 32)) &&& 31)))) (mm_w M) (mm_q M) (mm_s M) (mm_k M) (mm_d M) (mm_h M) (mm_x M) (mm_r M) (mm_c M) (mm_a M) (mm_n M) (mm_t M) (mm_e M))) rfl ?_
        refine z_topi (x := nI 1) (xn := bI true) (by decide) ?_
        exact z_zret C0 hA hQ hr d_M_rot_57 (by rw [show sm_rot (bc * bp) M (nI j) (nI k) = (true, sm_sf M (upd (mm_f M) (6 * j + k / 32) (mm_f M (6 * j + k / 32) ^^^ ((1 : Int32) <<< (nI (k % 32) &&& 31))))) from (by unfold sm_rot; rw [sidx_nI (by omega) hj, sidx_nI (by decide) hk])]; exact ⟨rfl, rfl⟩)
      · skip
        refine z_iconst (v := nI 0) C0 d_M_rot_19 (by decide) ?_
        refine z_topi (x := nI 0) (xn := bI false) (by decide) ?_
        exact z_zret C0 hA hQ hr d_M_rot_20 (by rw [show sm_rot (bc * bp) M (nI j) iv = (false, M) from (by unfold sm_rot; rw [sidx_nI (by omega) hj, sidx_no (spg_ge (ge_178 c16_3))])]; exact ⟨rfl, rfl⟩)
