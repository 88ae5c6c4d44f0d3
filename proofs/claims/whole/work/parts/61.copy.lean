set_option maxHeartbeats 4000000 in
set_option maxRecDepth 100000 in
theorem c_M_copy (l : Launch) (D : va_G) (cI cZ : ClassId) (y : Nat → Nat) (bc bp : Nat) (M : zm_S) (hB : zb_ok bc bp) (pg : Nat) (hp : pg < bc * bp) (hg : ∃ hd, mm_h M = some hd ∧ hd < bc ∧ ∃ q, hd * bp ≤ q ∧ q < hd * bp + bp ∧ mm_w M q = false) : zc_Con l y_M_copy b_M_copy 4 (some .boolean) { frames := 3, cells := 0, slots := 0, locals := 69 } D cI cZ [.ref (y 0), .int (nI (pg))] (zm_W cI cZ y bc bp M) (zo (some (.int (bI ((sm_copy bp M pg).1)))) (zm_W cI cZ y bc bp ((sm_copy bp M pg).2))) := by
  refine zc_start (by decide) (Nat.le_of_ble_eq_true rfl) ?_
  intro p e s m args below meth c A Q hA hQ C0 hr hin
  have C0 : zc_Cx p s m args meth c b_M_copy 4 R_M D cI cZ A := C0
  have hB0 := hB
  obtain ⟨hB1, hB2, hB3, hB4⟩ := hB
  have hN : bc * bp ≤ 20 := Nat.mul_le_mul hB2 hB4
  have hto := sm_pl_lt hg
  refine z_lvs (lvn := [(0, .ref (y 0)), (1, .int (nI (pg)))]) rfl ?_
  refine z_aload_n C0 d_M_copy_0 rfl 0 rfl ?_
  refine z_allV (As := []) (rest := []) C0 (c_M_act l D cI cZ y bc bp M hB0  ) mt_M_act ml_M_118 vt_M_act rfl rfl ⟨Nat.le_of_ble_eq_true rfl, Nat.le_of_ble_eq_true rfl⟩ ⟨rfl, rfl⟩ ⟨Nat.zero_le _, Nat.zero_le _⟩ rfl rfl (Nat.le_of_ble_eq_true rfl) d_M_copy_1 ?_
  refine z_st (stn := [.int (bI ((sm_act M).1))]) rfl ?_
  refine z_ifB_ne (tgt := 9) C0 d_M_copy_4 (by decide) (fun (c4_1 : (sm_act M).1 = true) => ?_) (fun (c4_1 : (sm_act M).1 = false) => ?_)
  · skip
    refine z_aload_n C0 d_M_copy_9 rfl 0 rfl ?_
    refine z_allV (As := []) (rest := []) C0 (c_M_placeInHead l D cI cZ y bc bp (zmk (mm_f M) (mm_w M) (mm_q M) (mm_s M) (mm_k M) (mm_d M) (mm_h M) (mm_x M) (mm_r (sm_act M).2) (mm_c (sm_act M).2) (mm_a (sm_act M).2) (mm_n (sm_act M).2) (mm_t M) (mm_e M)) hB0  (hg)) mt_M_placeInHead ml_M_121 vt_M_placeInHead rfl rfl ⟨Nat.le_of_ble_eq_true rfl, Nat.le_of_ble_eq_true rfl⟩ ⟨rfl, rfl⟩ ⟨Nat.zero_le _, Nat.zero_le _⟩ rfl rfl (Nat.le_of_ble_eq_true rfl) d_M_copy_10 ?_
    refine z_st (stn := [.int (nI (sm_plO bp (mm_w M) (mm_h M)))]) rfl ?_
    refine z_istore_n (lvn := [(0, .ref (y 0)), (1, .int (nI (pg))), (2, .int (nI (sm_plO bp (mm_w M) (mm_h M))))]) C0 d_M_copy_13 rfl (by decide) [1, 2, 0] rfl ?_
    refine z_aload_n C0 d_M_copy_14 rfl 0 rfl ?_
    refine z_iload_n C0 d_M_copy_15 rfl 1 rfl ?_
    refine z_allV (As := [.int (nI (pg))]) (rest := []) C0 (c_M_read l D cI cZ y bc bp (zmk (mm_f M) (mm_w M) (mm_q M) (mm_s M) (mm_k M) (mm_d M) (mm_h M) (mm_x M) (mm_r (sm_act M).2) (mm_c (sm_act M).2) (mm_a (sm_act M).2) (mm_n (sm_act M).2) (mm_t M) (mm_e M)) hB0 (pg) (by omega)) mt_M_read ml_M_124 vt_M_read rfl rfl ⟨Nat.le_of_ble_eq_true rfl, Nat.le_of_ble_eq_true rfl⟩ ⟨rfl, rfl⟩ ⟨Nat.zero_le _, Nat.zero_le _⟩ rfl rfl (Nat.le_of_ble_eq_true rfl) d_M_copy_16 ?_
    refine z_st (stn := []) rfl ?_
    refine z_iconst (v := nI 0) C0 d_M_copy_19 (by decide) ?_
    refine z_istore_n (lvn := [(0, .ref (y 0)), (1, .int (nI (pg))), (2, .int (nI (sm_plO bp (mm_w M) (mm_h M)))), (3, .int (nI (0)))]) C0 d_M_copy_20 rfl (by decide) [1, 2, 3, 0] rfl ?_
    have lp21 : ∀ (n : Nat) (k : Nat) (f : Nat → Int32), (k + n = 6) → (sm_wls (sm_rd (mm_f M) (mm_e M) pg).2 (sm_plO bp (mm_w M) (mm_h M)) 6 0 (mm_f M) = sm_wls (sm_rd (mm_f M) (mm_e M) pg).2 (sm_plO bp (mm_w M) (mm_h M)) n k f) → zc_Pt p l e { frames := 3, cells := 0, slots := 0, locals := 69 } s m args below meth c 4 D A 0 0 Q 21 [(0, .ref (y 0)), (1, .int (nI (pg))), (2, .int (nI (sm_plO bp (mm_w M) (mm_h M)))), (3, .int (nI (k)))] [] (zm_W cI cZ y bc bp (zmk f (mm_w M) (mm_q M) (mm_s M) (mm_k M) (mm_d M) (mm_h M) (mm_x M) (mm_r (sm_act M).2) (mm_c (sm_act M).2) (mm_a (sm_act M).2) (mm_n (sm_act M).2) ((sm_rd (mm_f M) (mm_e M) pg).1) ((sm_rd (mm_f M) (mm_e M) pg).2))) := by
      intro n
      induction n with
      | zero =>
        intro k f hi hR
        refine z_iload_n C0 d_M_copy_21 rfl 3 rfl ?_
        refine z_bipush (v := nI 6) C0 d_M_copy_22 (by decide) ?_
        refine z_icmpN_ge (tgt := 50) C0 d_M_copy_24 (by decide) (by omega) (by omega) (fun (c24_2 : 6 ≤ k) => ?_) (fun (c24_2 : k < 6) => ?_)
        · skip
          refine z_aload_n C0 d_M_copy_50 rfl 0 rfl ?_
          refine z_get C0 gf_M_79 0 rfl rfl d_M_copy_51 ?_
          refine z_iconst (v := nI 3) C0 d_M_copy_54 (by decide) ?_
          refine z_icmpN_ne (tgt := 94) C0 d_M_copy_55 (by decide) (Nat.lt_of_le_of_lt (sm_rdM_le _ _ _) (by decide)) (by decide) (fun (c55_3 : (sm_rd (mm_f M) (mm_e M) pg).1 ≠ 3) => ?_) (fun (c55_3 : (sm_rd (mm_f M) (mm_e M) pg).1 = 3) => ?_)
          · skip
            refine z_aload_n C0 d_M_copy_94 rfl 0 rfl ?_
            refine z_get C0 gf_M_16 0 rfl rfl d_M_copy_95 ?_
            refine z_iload_n C0 d_M_copy_98 rfl 2 rfl ?_
            refine z_iconst (v := nI 1) C0 d_M_copy_99 (by decide) ?_
            refine z_topi (x := nI 1) (xn := bI true) (by decide) ?_
            refine z_zast C0 3 rfl (by omega) (by omega) d_M_copy_100 ?_
            refine z_aload_n C0 d_M_copy_101 rfl 0 rfl ?_
            refine z_get C0 gf_M_20 0 rfl rfl d_M_copy_102 ?_
            refine z_iload_n C0 d_M_copy_105 rfl 2 rfl ?_
            refine z_aload_n C0 d_M_copy_106 rfl 0 rfl ?_
            refine z_get C0 gf_M_20 0 rfl rfl d_M_copy_107 ?_
            refine z_iload_n C0 d_M_copy_110 rfl 1 rfl ?_
            refine z_iald C0 4 rfl (by omega) (by omega) d_M_copy_111 ?_
            refine z_iast C0 4 rfl (by omega) (by omega) d_M_copy_112 ?_
            refine z_aload_n C0 d_M_copy_113 rfl 0 rfl ?_
            refine z_get C0 gf_M_23 0 rfl rfl d_M_copy_114 ?_
            refine z_iload_n C0 d_M_copy_117 rfl 2 rfl ?_
            refine z_aload_n C0 d_M_copy_118 rfl 0 rfl ?_
            refine z_get C0 gf_M_23 0 rfl rfl d_M_copy_119 ?_
            refine z_iload_n C0 d_M_copy_122 rfl 1 rfl ?_
            refine z_iald C0 5 rfl (by omega) (by omega) d_M_copy_123 ?_
            refine z_iast C0 5 rfl (by omega) (by omega) d_M_copy_124 ?_
            refine z_aload_n C0 d_M_copy_125 rfl 0 rfl ?_
            refine z_get C0 gf_M_26 0 rfl rfl d_M_copy_126 ?_
            refine z_iload_n C0 d_M_copy_129 rfl 2 rfl ?_
            refine z_aload_n C0 d_M_copy_130 rfl 0 rfl ?_
            refine z_get C0 gf_M_26 0 rfl rfl d_M_copy_131 ?_
            refine z_iload_n C0 d_M_copy_134 rfl 1 rfl ?_
            refine z_iald C0 6 rfl (by omega) (by omega) d_M_copy_135 ?_
            refine z_iast C0 6 rfl (by omega) (by omega) d_M_copy_136 ?_
            refine z_iconst (v := nI 1) C0 d_M_copy_137 (by decide) ?_
            refine z_ws (wsn := zm_W cI cZ y bc bp (zmk f (ub (mm_w M) (sm_plO bp (mm_w M) (mm_h M)) (true)) (mm_q M) (upd (mm_s M) (sm_plO bp (mm_w M) (mm_h M)) ((mm_s M) (pg))) (upd (mm_k M) (sm_plO bp (mm_w M) (mm_h M)) ((mm_k M) (pg))) (upd (mm_d M) (sm_plO bp (mm_w M) (mm_h M)) ((mm_d M) (pg))) (mm_h M) (mm_x M) (mm_r (sm_act M).2) (mm_c (sm_act M).2) (mm_a (sm_act M).2) (mm_n (sm_act M).2) ((sm_rd (mm_f M) (mm_e M) pg).1) ((sm_rd (mm_f M) (mm_e M) pg).2))) rfl ?_
            refine z_topi (x := nI 1) (xn := bI true) (by decide) ?_
            exact z_zret C0 hA hQ hr d_M_copy_138 (by have e1 : sm_copy bp M pg = (true, sm_cp1 (sm_read ((zmk (mm_f M) (mm_w M) (mm_q M) (mm_s M) (mm_k M) (mm_d M) (mm_h M) (mm_x M) (mm_r (sm_act M).2) (mm_c (sm_act M).2) (mm_a (sm_act M).2) (mm_n (sm_act M).2) (mm_t M) (mm_e M))) pg) pg (sm_plO bp (mm_w M) (mm_h M))) := (by unfold sm_copy; rw [show sm_act M = (true, (zmk (mm_f M) (mm_w M) (mm_q M) (mm_s M) (mm_k M) (mm_d M) (mm_h M) (mm_x M) (mm_r (sm_act M).2) (mm_c (sm_act M).2) (mm_a (sm_act M).2) (mm_n (sm_act M).2) (mm_t M) (mm_e M))) from by rw [← sm_actE, ← c4_1]]; rfl); have e2 : sm_cpF (mm_f M) (sm_rd (mm_f M) (mm_e M) pg).2 (sm_rd (mm_f M) (mm_e M) pg).1 pg (sm_plO bp (mm_w M) (mm_h M)) = f := (by unfold sm_cpF; rw [if_neg c55_3]; exact hR); rw [e1, ← e2]; exact ⟨rfl, rfl⟩)
          · skip
            refine z_iconst (v := nI 0) C0 d_M_copy_58 (by decide) ?_
            refine z_istore_n (lvn := [(0, .ref (y 0)), (1, .int (nI (pg))), (2, .int (nI (sm_plO bp (mm_w M) (mm_h M)))), (3, .int (nI (0)))]) C0 d_M_copy_59 rfl (by decide) [1, 2, 3, 0] rfl ?_
            have lq : ∀ (n : Nat) (k2 : Nat) (g : Nat → Int32), (k2 + n = 6) → (sm_wcs pg (sm_plO bp (mm_w M) (mm_h M)) 6 0 f = sm_wcs pg (sm_plO bp (mm_w M) (mm_h M)) n k2 g) → zc_Pt p l e { frames := 3, cells := 0, slots := 0, locals := 69 } s m args below meth c 4 D A 0 0 Q 60 [(0, .ref (y 0)), (1, .int (nI (pg))), (2, .int (nI (sm_plO bp (mm_w M) (mm_h M)))), (3, .int (nI (k2)))] [] (zm_W cI cZ y bc bp (zmk g (mm_w M) (mm_q M) (mm_s M) (mm_k M) (mm_d M) (mm_h M) (mm_x M) (mm_r (sm_act M).2) (mm_c (sm_act M).2) (mm_a (sm_act M).2) (mm_n (sm_act M).2) ((sm_rd (mm_f M) (mm_e M) pg).1) ((sm_rd (mm_f M) (mm_e M) pg).2))) := by
              intro n
              induction n with
              | zero =>
                intro k2 g hi2 hR2
                refine z_iload_n C0 d_M_copy_60 rfl 3 rfl ?_
                refine z_bipush (v := nI 6) C0 d_M_copy_61 (by decide) ?_
                refine z_icmpN_ge (tgt := 94) C0 d_M_copy_63 (by decide) (by omega) (by omega) (fun (c63_4 : 6 ≤ k2) => ?_) (fun (c63_4 : k2 < 6) => ?_)
                · skip
                  refine z_aload_n C0 d_M_copy_94 rfl 0 rfl ?_
                  refine z_get C0 gf_M_16 0 rfl rfl d_M_copy_95 ?_
                  refine z_iload_n C0 d_M_copy_98 rfl 2 rfl ?_
                  refine z_iconst (v := nI 1) C0 d_M_copy_99 (by decide) ?_
                  refine z_topi (x := nI 1) (xn := bI true) (by decide) ?_
                  refine z_zast C0 3 rfl (by omega) (by omega) d_M_copy_100 ?_
                  refine z_aload_n C0 d_M_copy_101 rfl 0 rfl ?_
                  refine z_get C0 gf_M_20 0 rfl rfl d_M_copy_102 ?_
                  refine z_iload_n C0 d_M_copy_105 rfl 2 rfl ?_
                  refine z_aload_n C0 d_M_copy_106 rfl 0 rfl ?_
                  refine z_get C0 gf_M_20 0 rfl rfl d_M_copy_107 ?_
                  refine z_iload_n C0 d_M_copy_110 rfl 1 rfl ?_
                  refine z_iald C0 4 rfl (by omega) (by omega) d_M_copy_111 ?_
                  refine z_iast C0 4 rfl (by omega) (by omega) d_M_copy_112 ?_
                  refine z_aload_n C0 d_M_copy_113 rfl 0 rfl ?_
                  refine z_get C0 gf_M_23 0 rfl rfl d_M_copy_114 ?_
                  refine z_iload_n C0 d_M_copy_117 rfl 2 rfl ?_
                  refine z_aload_n C0 d_M_copy_118 rfl 0 rfl ?_
                  refine z_get C0 gf_M_23 0 rfl rfl d_M_copy_119 ?_
                  refine z_iload_n C0 d_M_copy_122 rfl 1 rfl ?_
                  refine z_iald C0 5 rfl (by omega) (by omega) d_M_copy_123 ?_
                  refine z_iast C0 5 rfl (by omega) (by omega) d_M_copy_124 ?_
                  refine z_aload_n C0 d_M_copy_125 rfl 0 rfl ?_
                  refine z_get C0 gf_M_26 0 rfl rfl d_M_copy_126 ?_
                  refine z_iload_n C0 d_M_copy_129 rfl 2 rfl ?_
                  refine z_aload_n C0 d_M_copy_130 rfl 0 rfl ?_
                  refine z_get C0 gf_M_26 0 rfl rfl d_M_copy_131 ?_
                  refine z_iload_n C0 d_M_copy_134 rfl 1 rfl ?_
                  refine z_iald C0 6 rfl (by omega) (by omega) d_M_copy_135 ?_
                  refine z_iast C0 6 rfl (by omega) (by omega) d_M_copy_136 ?_
                  refine z_iconst (v := nI 1) C0 d_M_copy_137 (by decide) ?_
                  refine z_ws (wsn := zm_W cI cZ y bc bp (zmk g (ub (mm_w M) (sm_plO bp (mm_w M) (mm_h M)) (true)) (mm_q M) (upd (mm_s M) (sm_plO bp (mm_w M) (mm_h M)) ((mm_s M) (pg))) (upd (mm_k M) (sm_plO bp (mm_w M) (mm_h M)) ((mm_k M) (pg))) (upd (mm_d M) (sm_plO bp (mm_w M) (mm_h M)) ((mm_d M) (pg))) (mm_h M) (mm_x M) (mm_r (sm_act M).2) (mm_c (sm_act M).2) (mm_a (sm_act M).2) (mm_n (sm_act M).2) ((sm_rd (mm_f M) (mm_e M) pg).1) ((sm_rd (mm_f M) (mm_e M) pg).2))) rfl ?_
                  refine z_topi (x := nI 1) (xn := bI true) (by decide) ?_
                  exact z_zret C0 hA hQ hr d_M_copy_138 (by have e1 : sm_copy bp M pg = (true, sm_cp1 (sm_read ((zmk (mm_f M) (mm_w M) (mm_q M) (mm_s M) (mm_k M) (mm_d M) (mm_h M) (mm_x M) (mm_r (sm_act M).2) (mm_c (sm_act M).2) (mm_a (sm_act M).2) (mm_n (sm_act M).2) (mm_t M) (mm_e M))) pg) pg (sm_plO bp (mm_w M) (mm_h M))) := (by unfold sm_copy; rw [show sm_act M = (true, (zmk (mm_f M) (mm_w M) (mm_q M) (mm_s M) (mm_k M) (mm_d M) (mm_h M) (mm_x M) (mm_r (sm_act M).2) (mm_c (sm_act M).2) (mm_a (sm_act M).2) (mm_n (sm_act M).2) (mm_t M) (mm_e M))) from by rw [← sm_actE, ← c4_1]]; rfl); have e2 : sm_cpF (mm_f M) (sm_rd (mm_f M) (mm_e M) pg).2 (sm_rd (mm_f M) (mm_e M) pg).1 pg (sm_plO bp (mm_w M) (mm_h M)) = g := (by unfold sm_cpF; rw [if_pos c55_3, hR]; exact hR2); rw [e1, ← e2]; exact ⟨rfl, rfl⟩)
                · exact absurd c63_4 (by omega)
              | succ n ih =>
                intro k2 g hi2 hR2
                refine z_iload_n C0 d_M_copy_60 rfl 3 rfl ?_
                refine z_bipush (v := nI 6) C0 d_M_copy_61 (by decide) ?_
                refine z_icmpN_ge (tgt := 94) C0 d_M_copy_63 (by decide) (by omega) (by omega) (fun (c63_5 : 6 ≤ k2) => ?_) (fun (c63_5 : k2 < 6) => ?_)
                · exact absurd c63_5 (by omega)
                · skip
                  refine z_aload_n C0 d_M_copy_66 rfl 0 rfl ?_
                  refine z_get C0 gf_M_7 0 rfl rfl d_M_copy_67 ?_
                  refine z_bipush (v := nI 6) C0 d_M_copy_70 (by decide) ?_
                  refine z_iload_n C0 d_M_copy_72 rfl 2 rfl ?_
                  refine z_imulN C0 d_M_copy_73 ?_
                  refine z_iload_n C0 d_M_copy_74 rfl 3 rfl ?_
                  refine z_iaddN C0 d_M_copy_75 ?_
                  refine z_aload_n C0 d_M_copy_76 rfl 0 rfl ?_
                  refine z_get C0 gf_M_7 0 rfl rfl d_M_copy_77 ?_
                  refine z_bipush (v := nI 6) C0 d_M_copy_80 (by decide) ?_
                  refine z_iload_n C0 d_M_copy_82 rfl 1 rfl ?_
                  refine z_imulN C0 d_M_copy_83 ?_
                  refine z_iload_n C0 d_M_copy_84 rfl 3 rfl ?_
                  refine z_iaddN C0 d_M_copy_85 ?_
                  refine z_iald C0 1 rfl (by omega) (by omega) d_M_copy_86 ?_
                  refine z_iast C0 1 rfl (by omega) (by omega) d_M_copy_87 ?_
                  refine z_iincN (q := 3) (lvn := [(0, .ref (y 0)), (1, .int (nI (pg))), (2, .int (nI (sm_plO bp (mm_w M) (mm_h M)))), (3, .int (nI (k2 + 1)))]) C0 d_M_copy_88 rfl (by decide) [1, 2, 3, 0] rfl ?_
                  refine z_gotoK (tgt := 60) C0 d_M_copy_91 (by decide) ?_
                  refine z_ws (wsn := zm_W cI cZ y bc bp (zmk (upd g (6 * (sm_plO bp (mm_w M) (mm_h M)) + k2) (g (6 * pg + k2))) (mm_w M) (mm_q M) (mm_s M) (mm_k M) (mm_d M) (mm_h M) (mm_x M) (mm_r (sm_act M).2) (mm_c (sm_act M).2) (mm_a (sm_act M).2) (mm_n (sm_act M).2) ((sm_rd (mm_f M) (mm_e M) pg).1) ((sm_rd (mm_f M) (mm_e M) pg).2))) rfl ?_
                  exact ih (k2 + 1) (upd g (6 * (sm_plO bp (mm_w M) (mm_h M)) + k2) (g (6 * pg + k2))) (by omega) (by rw [hR2]; rfl)
            exact lq (6) (0) (f) (by omega) (rfl)
        · exact absurd c24_2 (by omega)
      | succ n ih =>
        intro k f hi hR
        refine z_iload_n C0 d_M_copy_21 rfl 3 rfl ?_
        refine z_bipush (v := nI 6) C0 d_M_copy_22 (by decide) ?_
        refine z_icmpN_ge (tgt := 50) C0 d_M_copy_24 (by decide) (by omega) (by omega) (fun (c24_6 : 6 ≤ k) => ?_) (fun (c24_6 : k < 6) => ?_)
        · exact absurd c24_6 (by omega)
        · skip
          refine z_aload_n C0 d_M_copy_27 rfl 0 rfl ?_
          refine z_get C0 gf_M_7 0 rfl rfl d_M_copy_28 ?_
          refine z_bipush (v := nI 6) C0 d_M_copy_31 (by decide) ?_
          refine z_iload_n C0 d_M_copy_33 rfl 2 rfl ?_
          refine z_imulN C0 d_M_copy_34 ?_
          refine z_iload_n C0 d_M_copy_35 rfl 3 rfl ?_
          refine z_iaddN C0 d_M_copy_36 ?_
          refine z_aload_n C0 d_M_copy_37 rfl 0 rfl ?_
          refine z_get C0 gf_M_42 0 rfl rfl d_M_copy_38 ?_
          refine z_iload_n C0 d_M_copy_41 rfl 3 rfl ?_
          refine z_iald C0 8 rfl (by omega) (by omega) d_M_copy_42 ?_
          refine z_iast C0 1 rfl (by omega) (by omega) d_M_copy_43 ?_
          refine z_iincN (q := 3) (lvn := [(0, .ref (y 0)), (1, .int (nI (pg))), (2, .int (nI (sm_plO bp (mm_w M) (mm_h M)))), (3, .int (nI (k + 1)))]) C0 d_M_copy_44 rfl (by decide) [1, 2, 3, 0] rfl ?_
          refine z_gotoK (tgt := 21) C0 d_M_copy_47 (by decide) ?_
          refine z_ws (wsn := zm_W cI cZ y bc bp (zmk (upd f (6 * (sm_plO bp (mm_w M) (mm_h M)) + k) (((sm_rd (mm_f M) (mm_e M) pg).2) (k))) (mm_w M) (mm_q M) (mm_s M) (mm_k M) (mm_d M) (mm_h M) (mm_x M) (mm_r (sm_act M).2) (mm_c (sm_act M).2) (mm_a (sm_act M).2) (mm_n (sm_act M).2) ((sm_rd (mm_f M) (mm_e M) pg).1) ((sm_rd (mm_f M) (mm_e M) pg).2))) rfl ?_
          exact ih (k + 1) (upd f (6 * (sm_plO bp (mm_w M) (mm_h M)) + k) (((sm_rd (mm_f M) (mm_e M) pg).2) (k))) (by omega) (by rw [hR]; rfl)
    exact lp21 (6) (0) (mm_f M) (by omega) (rfl)
  · skip
    refine z_iconst (v := nI 0) C0 d_M_copy_7 (by decide) ?_
    refine z_topi (x := nI 0) (xn := bI false) (by decide) ?_
    exact z_zret C0 hA hQ hr d_M_copy_8 (by rw [show sm_copy bp M pg = (false, (sm_act M).2) from (by unfold sm_copy; rw [show sm_act M = (false, (sm_act M).2) from by rw [← c4_1]]; rfl), sm_actE]; exact ⟨rfl, rfl⟩)
