set_option maxHeartbeats 4000000 in
set_option maxRecDepth 100000 in
theorem c_M_clean (l : Launch) (D : va_G) (cI cZ : ClassId) (y : Nat → Nat) (bc bp : Nat) (M : zm_S) (hB : zb_ok bc bp) (b : Nat) (hh : zh_ok bc (mm_h M)) (hb : b < bc) (hc : sm_clOk bc bp M b) : zc_Con l y_M_clean b_M_clean 3 (some .boolean) { frames := 4, cells := 0, slots := 0, locals := 92 } D cI cZ [.ref (y 0), .int (nI (b))] (zm_W cI cZ y bc bp M) (zo (some (.int (bI ((sm_clean bc bp M b).1)))) (zm_W cI cZ y bc bp ((sm_clean bc bp M b).2))) := by
  refine zc_start (by decide) (Nat.le_of_ble_eq_true rfl) ?_
  intro p e s m args below meth c A Q hA hQ C0 hr hin
  have C0 : zc_Cx p s m args meth c b_M_clean 3 R_M D cI cZ A := C0
  have hB0 := hB
  obtain ⟨hB1, hB2, hB3, hB4⟩ := hB
  have hN : bc * bp ≤ 20 := Nat.mul_le_mul hB2 hB4
  have hblk := zq_blk (bp := bp) hb
  refine z_lvs (lvn := [(0, .ref (y 0)), (1, .int (nI (b)))]) rfl ?_
  refine z_iconst (v := nI 0) C0 d_M_clean_0 (by decide) ?_
  refine z_istore_n (lvn := [(0, .ref (y 0)), (1, .int (nI (b))), (2, .int (nI (0)))]) C0 d_M_clean_1 rfl (by decide) [1, 2, 0] rfl ?_
  have lp2 : ∀ (n : Nat) (i : Nat) (q : Nat → Bool), (i + n = bc * bp) → (sm_wts bc bp M b (bc * bp) 0 (mm_q M) = sm_wts bc bp M b n i q) → zc_Pt p l e { frames := 4, cells := 0, slots := 0, locals := 92 } s m args below meth c 3 D A 0 0 Q 2 [(0, .ref (y 0)), (1, .int (nI (b))), (2, .int (nI (i)))] [] (zm_W cI cZ y bc bp (zmk (mm_f M) (mm_w M) q (mm_s M) (mm_k M) (mm_d M) (mm_h M) (mm_x M) (mm_r M) (mm_c M) (mm_a M) (mm_n M) (mm_t M) (mm_e M))) := by
    intro n
    induction n with
    | zero =>
      intro i q hi hQ1
      refine z_iload_n C0 d_M_clean_2 rfl 2 rfl ?_
      refine z_aload_n C0 d_M_clean_3 rfl 0 rfl ?_
      refine z_get C0 gf_M_51 0 rfl rfl d_M_clean_4 ?_
      refine z_icmpN_ge (tgt := 45) C0 d_M_clean_7 (by decide) (by omega) (by omega) (fun (c7_1 : bc * bp ≤ i) => ?_) (fun (c7_1 : i < bc * bp) => ?_)
      · skip
        refine z_aload_n C0 d_M_clean_45 rfl 0 rfl ?_
        refine z_allV (As := []) (rest := []) C0 (c_M_headless l D cI cZ y bc bp (zmk (mm_f M) (mm_w M) q (mm_s M) (mm_k M) (mm_d M) (mm_h M) (mm_x M) (mm_r M) (mm_c M) (mm_a M) (mm_n M) (mm_t M) (mm_e M)) hB0  (hh)) mt_M_headless ml_M_107 vt_M_headless rfl rfl ⟨Nat.le_of_ble_eq_true rfl, Nat.le_of_ble_eq_true rfl⟩ ⟨rfl, rfl⟩ ⟨Nat.zero_le _, Nat.zero_le _⟩ rfl rfl (Nat.le_of_ble_eq_true rfl) d_M_clean_46 ?_
        refine z_st (stn := [.int (bI (sm_hl bp (mm_w M) (mm_h M)))]) rfl ?_
        refine z_ifB_eq (tgt := 60) C0 d_M_clean_49 (by decide) (fun (c49_2 : sm_hl bp (mm_w M) (mm_h M) = false) => ?_) (fun (c49_2 : sm_hl bp (mm_w M) (mm_h M) = true) => ?_)
        · skip
          refine z_iconst (v := nI 0) C0 d_M_clean_60 (by decide) ?_
          refine z_istore_n (lvn := [(0, .ref (y 0)), (1, .int (nI (b))), (2, .int (nI (0)))]) C0 d_M_clean_61 rfl (by decide) [1, 2, 0] rfl ?_
          have lc : ∀ (n : Nat) (j : Nat) (T : zm_S), (j + n = bc * bp) → (zh_ok bc (mm_h T)) → (sm_clsOk bc bp n j T) → (sm_clean bc bp M b = sm_cl2 bp b (sm_cls bp n j T)) → zc_Pt p l e { frames := 4, cells := 0, slots := 0, locals := 92 } s m args below meth c 3 D A 0 0 Q 62 [(0, .ref (y 0)), (1, .int (nI (b))), (2, .int (nI (j)))] [] (zm_W cI cZ y bc bp T) := by
            intro n
            induction n with
            | zero =>
              intro j T hj hhT hOk hR
              refine z_iload_n C0 d_M_clean_62 rfl 2 rfl ?_
              refine z_aload_n C0 d_M_clean_63 rfl 0 rfl ?_
              refine z_get C0 gf_M_51 0 rfl rfl d_M_clean_64 ?_
              refine z_icmpN_ge (tgt := 95) C0 d_M_clean_67 (by decide) (by omega) (by omega) (fun (c67_3 : bc * bp ≤ j) => ?_) (fun (c67_3 : j < bc * bp) => ?_)
              · skip
                refine z_aload_n C0 d_M_clean_95 rfl 0 rfl ?_
                refine z_allV (As := []) (rest := []) C0 (c_M_act l D cI cZ y bc bp T hB0  ) mt_M_act ml_M_118 vt_M_act rfl rfl ⟨Nat.le_of_ble_eq_true rfl, Nat.le_of_ble_eq_true rfl⟩ ⟨rfl, rfl⟩ ⟨Nat.zero_le _, Nat.zero_le _⟩ rfl rfl (Nat.le_of_ble_eq_true rfl) d_M_clean_96 ?_
                refine z_st (stn := [.int (bI ((sm_act T).1))]) rfl ?_
                refine z_ifB_ne (tgt := 104) C0 d_M_clean_99 (by decide) (fun (c99_4 : (sm_act T).1 = true) => ?_) (fun (c99_4 : (sm_act T).1 = false) => ?_)
                · skip
                  refine z_iload_n C0 d_M_clean_104 rfl 1 rfl ?_
                  refine z_aload_n C0 d_M_clean_105 rfl 0 rfl ?_
                  refine z_get C0 gf_M_48 0 rfl rfl d_M_clean_106 ?_
                  refine z_imulN C0 d_M_clean_109 ?_
                  refine z_istore_n (lvn := [(0, .ref (y 0)), (1, .int (nI (b))), (2, .int (nI (b * bp)))]) C0 d_M_clean_110 rfl (by decide) [1, 2, 0] rfl ?_
                  have le : ∀ (n : Nat) (k : Nat) (f : Nat → Int32) (w : Nat → Bool), (k + n = b * bp + bp) → (sm_bgf bp (b * bp) (mm_f T) = sm_bgf n k f) → (sm_bgw bp (b * bp) (mm_w T) = sm_bgw n k w) → zc_Pt p l e { frames := 4, cells := 0, slots := 0, locals := 92 } s m args below meth c 3 D A 0 0 Q 111 [(0, .ref (y 0)), (1, .int (nI (b))), (2, .int (nI (k)))] [] (zm_W cI cZ y bc bp (zmk f w (mm_q T) (mm_s T) (mm_k T) (mm_d T) (mm_h T) (mm_x T) (mm_r (sm_act T).2) (mm_c (sm_act T).2) (mm_a (sm_act T).2) (mm_n (sm_act T).2) (mm_t T) (mm_e T))) := by
                    intro n
                    induction n with
                    | zero =>
                      intro k f w hk hF hW
                      refine z_iload_n C0 d_M_clean_111 rfl 2 rfl ?_
                      refine z_iload_n C0 d_M_clean_112 rfl 1 rfl ?_
                      refine z_aload_n C0 d_M_clean_113 rfl 0 rfl ?_
                      refine z_get C0 gf_M_48 0 rfl rfl d_M_clean_114 ?_
                      refine z_imulN C0 d_M_clean_117 ?_
                      refine z_aload_n C0 d_M_clean_118 rfl 0 rfl ?_
                      refine z_get C0 gf_M_48 0 rfl rfl d_M_clean_119 ?_
                      refine z_iaddN C0 d_M_clean_122 ?_
                      refine z_icmpN_ge (tgt := 144) C0 d_M_clean_123 (by decide) (by omega) (by omega) (fun (c123_5 : b * bp + bp ≤ k) => ?_) (fun (c123_5 : k < b * bp + bp) => ?_)
                      · skip
                        refine z_iconst (v := nI 1) C0 d_M_clean_144 (by decide) ?_
                        refine z_topi (x := nI 1) (xn := bI true) (by decide) ?_
                        exact z_zret C0 hA hQ hr d_M_clean_145 (by rw [hR, show sm_cl2 bp b (sm_cls bp 0 j T) = (true, (zmk f w (mm_q T) (mm_s T) (mm_k T) (mm_d T) (mm_h T) (mm_x T) (mm_r (sm_act T).2) (mm_c (sm_act T).2) (mm_a (sm_act T).2) (mm_n (sm_act T).2) (mm_t T) (mm_e T))) from (by show sm_cl3 bp b (sm_act T) = _; rw [show sm_act T = (true, (zmk (mm_f T) (mm_w T) (mm_q T) (mm_s T) (mm_k T) (mm_d T) (mm_h T) (mm_x T) (mm_r (sm_act T).2) (mm_c (sm_act T).2) (mm_a (sm_act T).2) (mm_n (sm_act T).2) (mm_t T) (mm_e T))) from by rw [← sm_actE, ← c99_4]]; show (true, zmk (sm_bgf bp (b * bp) (mm_f T)) (sm_bgw bp (b * bp) (mm_w T)) _ _ _ _ _ _ _ _ _ _ _ _) = _; rw [hF, hW]; rfl)]; exact ⟨rfl, rfl⟩)
                      · exact absurd c123_5 (by omega)
                    | succ n ih =>
                      intro k f w hk hF hW
                      refine z_iload_n C0 d_M_clean_111 rfl 2 rfl ?_
                      refine z_iload_n C0 d_M_clean_112 rfl 1 rfl ?_
                      refine z_aload_n C0 d_M_clean_113 rfl 0 rfl ?_
                      refine z_get C0 gf_M_48 0 rfl rfl d_M_clean_114 ?_
                      refine z_imulN C0 d_M_clean_117 ?_
                      refine z_aload_n C0 d_M_clean_118 rfl 0 rfl ?_
                      refine z_get C0 gf_M_48 0 rfl rfl d_M_clean_119 ?_
                      refine z_iaddN C0 d_M_clean_122 ?_
                      refine z_icmpN_ge (tgt := 144) C0 d_M_clean_123 (by decide) (by omega) (by omega) (fun (c123_6 : b * bp + bp ≤ k) => ?_) (fun (c123_6 : k < b * bp + bp) => ?_)
                      · exact absurd c123_6 (by omega)
                      · skip
                        refine z_aload_n C0 d_M_clean_126 rfl 0 rfl ?_
                        refine z_iload_n C0 d_M_clean_127 rfl 2 rfl ?_
                        refine z_allV (As := [.int (nI (k))]) (rest := []) C0 (c_M_erasePage l D cI cZ y bc bp (zmk f w (mm_q T) (mm_s T) (mm_k T) (mm_d T) (mm_h T) (mm_x T) (mm_r (sm_act T).2) (mm_c (sm_act T).2) (mm_a (sm_act T).2) (mm_n (sm_act T).2) (mm_t T) (mm_e T)) hB0 (k) (by omega)) mt_M_erasePage ml_M_61 vt_M_erasePage rfl rfl ⟨Nat.le_of_ble_eq_true rfl, Nat.le_of_ble_eq_true rfl⟩ ⟨rfl, rfl⟩ ⟨Nat.zero_le _, Nat.zero_le _⟩ rfl rfl (Nat.le_of_ble_eq_true rfl) d_M_clean_128 ?_
                        refine z_st (stn := []) rfl ?_
                        refine z_aload_n C0 d_M_clean_131 rfl 0 rfl ?_
                        refine z_get C0 gf_M_16 0 rfl rfl d_M_clean_132 ?_
                        refine z_iload_n C0 d_M_clean_135 rfl 2 rfl ?_
                        refine z_iconst (v := nI 0) C0 d_M_clean_136 (by decide) ?_
                        refine z_topi (x := nI 0) (xn := bI false) (by decide) ?_
                        refine z_zast C0 3 rfl (by omega) (by omega) d_M_clean_137 ?_
                        refine z_iincN (q := 2) (lvn := [(0, .ref (y 0)), (1, .int (nI (b))), (2, .int (nI (k + 1)))]) C0 d_M_clean_138 rfl (by decide) [1, 2, 0] rfl ?_
                        refine z_gotoK (tgt := 111) C0 d_M_clean_141 (by decide) ?_
                        refine z_ws (wsn := zm_W cI cZ y bc bp (zmk (sm_er k (f)) (ub w (k) (false)) (mm_q T) (mm_s T) (mm_k T) (mm_d T) (mm_h T) (mm_x T) (mm_r (sm_act T).2) (mm_c (sm_act T).2) (mm_a (sm_act T).2) (mm_n (sm_act T).2) (mm_t T) (mm_e T))) rfl ?_
                        exact ih (k + 1) (sm_er k (f)) (ub w (k) (false)) (by omega) (by rw [hF]; rfl) (by rw [hW]; rfl)
                  exact le (bp) (b * bp) (mm_f T) (mm_w T) (by omega) (rfl) (rfl)
                · skip
                  refine z_iconst (v := nI 0) C0 d_M_clean_102 (by decide) ?_
                  refine z_topi (x := nI 0) (xn := bI false) (by decide) ?_
                  exact z_zret C0 hA hQ hr d_M_clean_103 (by rw [hR, show sm_cl2 bp b (sm_cls bp 0 j T) = (false, (sm_act T).2) from (by show sm_cl3 bp b (sm_act T) = _; rw [show sm_act T = (false, (sm_act T).2) from by rw [← c99_4]]; rfl), sm_actE]; exact ⟨rfl, rfl⟩)
              · exact absurd c67_3 (by omega)
            | succ n ih =>
              intro j T hj hhT hOk hR
              refine z_iload_n C0 d_M_clean_62 rfl 2 rfl ?_
              refine z_aload_n C0 d_M_clean_63 rfl 0 rfl ?_
              refine z_get C0 gf_M_51 0 rfl rfl d_M_clean_64 ?_
              refine z_icmpN_ge (tgt := 95) C0 d_M_clean_67 (by decide) (by omega) (by omega) (fun (c67_7 : bc * bp ≤ j) => ?_) (fun (c67_7 : j < bc * bp) => ?_)
              · exact absurd c67_7 (by omega)
              · skip
                refine z_aload_n C0 d_M_clean_70 rfl 0 rfl ?_
                refine z_get C0 gf_M_29 0 rfl rfl d_M_clean_71 ?_
                refine z_iload_n C0 d_M_clean_74 rfl 2 rfl ?_
                refine z_zald C0 7 rfl (by omega) (by omega) d_M_clean_75 ?_
                refine z_ifB_eq (tgt := 89) C0 d_M_clean_76 (by decide) (fun (c76_8 : (mm_q T) (j) = false) => ?_) (fun (c76_8 : (mm_q T) (j) = true) => ?_)
                · skip
                  refine z_iincN (q := 2) (lvn := [(0, .ref (y 0)), (1, .int (nI (b))), (2, .int (nI (j + 1)))]) C0 d_M_clean_89 rfl (by decide) [1, 2, 0] rfl ?_
                  refine z_gotoK (tgt := 62) C0 d_M_clean_92 (by decide) ?_
                  exact ih (j + 1) (T) (by omega) (hhT) (hOk.2 c76_8) (by rw [hR]; show sm_cl2 bp b (if mm_q T j = true then _ else _) = _; rw [if_neg (by rw [c76_8]; decide)])
                · skip
                  refine z_aload_n C0 d_M_clean_79 rfl 0 rfl ?_
                  refine z_iload_n C0 d_M_clean_80 rfl 2 rfl ?_
                  refine z_allV (As := [.int (nI (j))]) (rest := []) C0 (c_M_copy l D cI cZ y bc bp T hB0 (j) (by omega) ((hOk.1 c76_8).1)) mt_M_copy ml_M_130 vt_M_copy rfl rfl ⟨Nat.le_of_ble_eq_true rfl, Nat.le_of_ble_eq_true rfl⟩ ⟨rfl, rfl⟩ ⟨Nat.zero_le _, Nat.zero_le _⟩ rfl rfl (Nat.le_of_ble_eq_true rfl) d_M_clean_81 ?_
                  refine z_st (stn := [.int (bI ((sm_copy bp T j).1))]) rfl ?_
                  refine z_ifB_ne (tgt := 89) C0 d_M_clean_84 (by decide) (fun (c84_9 : (sm_copy bp T j).1 = true) => ?_) (fun (c84_9 : (sm_copy bp T j).1 = false) => ?_)
                  · skip
                    refine z_iincN (q := 2) (lvn := [(0, .ref (y 0)), (1, .int (nI (b))), (2, .int (nI (j + 1)))]) C0 d_M_clean_89 rfl (by decide) [1, 2, 0] rfl ?_
                    refine z_gotoK (tgt := 62) C0 d_M_clean_92 (by decide) ?_
                    exact ih (j + 1) (((sm_copy bp T j).2)) (by omega) (by rw [sm_copy_h]; exact hhT) ((hOk.1 c76_8).2 c84_9) (by rw [hR]; show sm_cl2 bp b (if mm_q T j = true then _ else _) = _; rw [if_pos c76_8, if_pos c84_9])
                  · skip
                    refine z_iconst (v := nI 0) C0 d_M_clean_87 (by decide) ?_
                    refine z_topi (x := nI 0) (xn := bI false) (by decide) ?_
                    exact z_zret C0 hA hQ hr d_M_clean_88 (by rw [hR, show sm_cls bp (n + 1) j T = (false, (sm_copy bp T j).2) from (by show (if mm_q T j = true then _ else _) = _; rw [if_pos c76_8]; exact if_neg (by rw [c84_9]; decide))]; exact ⟨rfl, rfl⟩)
          exact lc (bc * bp) (0) ((zmk (mm_f M) (mm_w M) q (mm_s M) (mm_k M) (mm_d M) (mm_h M) (mm_x M) (mm_r M) (mm_c M) (mm_a M) (mm_n M) (mm_t M) (mm_e M))) (by omega) (hh) (by have z := hc; unfold sm_clOk sm_cl0 at z; rw [hQ1, show sm_cl1 bc bp (sm_setQ M (sm_wts bc bp M b 0 i q)) = (zmk (mm_f M) (mm_w M) q (mm_s M) (mm_k M) (mm_d M) (mm_h M) (mm_x M) (mm_r M) (mm_c M) (mm_a M) (mm_n M) (mm_t M) (mm_e M)) from if_neg (by rw [show sm_hl bp (mm_w (sm_setQ M (sm_wts bc bp M b 0 i q))) (mm_h (sm_setQ M (sm_wts bc bp M b 0 i q))) = false from c49_2]; decide)] at z; exact z) (by unfold sm_clean; rw [hQ1, show sm_cl1 bc bp (sm_setQ M (sm_wts bc bp M b 0 i q)) = (zmk (mm_f M) (mm_w M) q (mm_s M) (mm_k M) (mm_d M) (mm_h M) (mm_x M) (mm_r M) (mm_c M) (mm_a M) (mm_n M) (mm_t M) (mm_e M)) from if_neg (by rw [show sm_hl bp (mm_w (sm_setQ M (sm_wts bc bp M b 0 i q))) (mm_h (sm_setQ M (sm_wts bc bp M b 0 i q))) = false from c49_2]; decide)])
        · skip
          refine z_aload_n C0 d_M_clean_52 rfl 0 rfl ?_
          refine z_aload_n C0 d_M_clean_53 rfl 0 rfl ?_
          refine z_allV (As := []) (rest := [.ref (y 0)]) C0 (c_M_lowestFree l D cI cZ y bc bp (zmk (mm_f M) (mm_w M) q (mm_s M) (mm_k M) (mm_d M) (mm_h M) (mm_x M) (mm_r M) (mm_c M) (mm_a M) (mm_n M) (mm_t M) (mm_e M)) hB0  ) mt_M_lowestFree ml_M_127 vt_M_lowestFree rfl rfl ⟨Nat.le_of_ble_eq_true rfl, Nat.le_of_ble_eq_true rfl⟩ ⟨rfl, rfl⟩ ⟨Nat.zero_le _, Nat.zero_le _⟩ rfl rfl (Nat.le_of_ble_eq_true rfl) d_M_clean_54 ?_
          refine z_st (stn := [.int (oN (sm_low bc bp (mm_w M))), .ref (y 0)]) rfl ?_
          refine z_put C0 gf_M_32 pf_M_12 0 rfl rfl rfl (Nat.le_of_ble_eq_true rfl) d_M_clean_57 ?_
          refine z_iconst (v := nI 0) C0 d_M_clean_60 (by decide) ?_
          refine z_istore_n (lvn := [(0, .ref (y 0)), (1, .int (nI (b))), (2, .int (nI (0)))]) C0 d_M_clean_61 rfl (by decide) [1, 2, 0] rfl ?_
          have lc : ∀ (n : Nat) (j : Nat) (T : zm_S), (j + n = bc * bp) → (zh_ok bc (mm_h T)) → (sm_clsOk bc bp n j T) → (sm_clean bc bp M b = sm_cl2 bp b (sm_cls bp n j T)) → zc_Pt p l e { frames := 4, cells := 0, slots := 0, locals := 92 } s m args below meth c 3 D A 0 0 Q 62 [(0, .ref (y 0)), (1, .int (nI (b))), (2, .int (nI (j)))] [] (zm_W cI cZ y bc bp T) := by
            intro n
            induction n with
            | zero =>
              intro j T hj hhT hOk hR
              refine z_iload_n C0 d_M_clean_62 rfl 2 rfl ?_
              refine z_aload_n C0 d_M_clean_63 rfl 0 rfl ?_
              refine z_get C0 gf_M_51 0 rfl rfl d_M_clean_64 ?_
              refine z_icmpN_ge (tgt := 95) C0 d_M_clean_67 (by decide) (by omega) (by omega) (fun (c67_10 : bc * bp ≤ j) => ?_) (fun (c67_10 : j < bc * bp) => ?_)
              · skip
                refine z_aload_n C0 d_M_clean_95 rfl 0 rfl ?_
                refine z_allV (As := []) (rest := []) C0 (c_M_act l D cI cZ y bc bp T hB0  ) mt_M_act ml_M_118 vt_M_act rfl rfl ⟨Nat.le_of_ble_eq_true rfl, Nat.le_of_ble_eq_true rfl⟩ ⟨rfl, rfl⟩ ⟨Nat.zero_le _, Nat.zero_le _⟩ rfl rfl (Nat.le_of_ble_eq_true rfl) d_M_clean_96 ?_
                refine z_st (stn := [.int (bI ((sm_act T).1))]) rfl ?_
                refine z_ifB_ne (tgt := 104) C0 d_M_clean_99 (by decide) (fun (c99_11 : (sm_act T).1 = true) => ?_) (fun (c99_11 : (sm_act T).1 = false) => ?_)
                · skip
                  refine z_iload_n C0 d_M_clean_104 rfl 1 rfl ?_
                  refine z_aload_n C0 d_M_clean_105 rfl 0 rfl ?_
                  refine z_get C0 gf_M_48 0 rfl rfl d_M_clean_106 ?_
                  refine z_imulN C0 d_M_clean_109 ?_
                  refine z_istore_n (lvn := [(0, .ref (y 0)), (1, .int (nI (b))), (2, .int (nI (b * bp)))]) C0 d_M_clean_110 rfl (by decide) [1, 2, 0] rfl ?_
                  have le : ∀ (n : Nat) (k : Nat) (f : Nat → Int32) (w : Nat → Bool), (k + n = b * bp + bp) → (sm_bgf bp (b * bp) (mm_f T) = sm_bgf n k f) → (sm_bgw bp (b * bp) (mm_w T) = sm_bgw n k w) → zc_Pt p l e { frames := 4, cells := 0, slots := 0, locals := 92 } s m args below meth c 3 D A 0 0 Q 111 [(0, .ref (y 0)), (1, .int (nI (b))), (2, .int (nI (k)))] [] (zm_W cI cZ y bc bp (zmk f w (mm_q T) (mm_s T) (mm_k T) (mm_d T) (mm_h T) (mm_x T) (mm_r (sm_act T).2) (mm_c (sm_act T).2) (mm_a (sm_act T).2) (mm_n (sm_act T).2) (mm_t T) (mm_e T))) := by
                    intro n
                    induction n with
                    | zero =>
                      intro k f w hk hF hW
                      refine z_iload_n C0 d_M_clean_111 rfl 2 rfl ?_
                      refine z_iload_n C0 d_M_clean_112 rfl 1 rfl ?_
                      refine z_aload_n C0 d_M_clean_113 rfl 0 rfl ?_
                      refine z_get C0 gf_M_48 0 rfl rfl d_M_clean_114 ?_
                      refine z_imulN C0 d_M_clean_117 ?_
                      refine z_aload_n C0 d_M_clean_118 rfl 0 rfl ?_
                      refine z_get C0 gf_M_48 0 rfl rfl d_M_clean_119 ?_
                      refine z_iaddN C0 d_M_clean_122 ?_
                      refine z_icmpN_ge (tgt := 144) C0 d_M_clean_123 (by decide) (by omega) (by omega) (fun (c123_12 : b * bp + bp ≤ k) => ?_) (fun (c123_12 : k < b * bp + bp) => ?_)
                      · skip
                        refine z_iconst (v := nI 1) C0 d_M_clean_144 (by decide) ?_
                        refine z_topi (x := nI 1) (xn := bI true) (by decide) ?_
                        exact z_zret C0 hA hQ hr d_M_clean_145 (by rw [hR, show sm_cl2 bp b (sm_cls bp 0 j T) = (true, (zmk f w (mm_q T) (mm_s T) (mm_k T) (mm_d T) (mm_h T) (mm_x T) (mm_r (sm_act T).2) (mm_c (sm_act T).2) (mm_a (sm_act T).2) (mm_n (sm_act T).2) (mm_t T) (mm_e T))) from (by show sm_cl3 bp b (sm_act T) = _; rw [show sm_act T = (true, (zmk (mm_f T) (mm_w T) (mm_q T) (mm_s T) (mm_k T) (mm_d T) (mm_h T) (mm_x T) (mm_r (sm_act T).2) (mm_c (sm_act T).2) (mm_a (sm_act T).2) (mm_n (sm_act T).2) (mm_t T) (mm_e T))) from by rw [← sm_actE, ← c99_11]]; show (true, zmk (sm_bgf bp (b * bp) (mm_f T)) (sm_bgw bp (b * bp) (mm_w T)) _ _ _ _ _ _ _ _ _ _ _ _) = _; rw [hF, hW]; rfl)]; exact ⟨rfl, rfl⟩)
                      · exact absurd c123_12 (by omega)
                    | succ n ih =>
                      intro k f w hk hF hW
                      refine z_iload_n C0 d_M_clean_111 rfl 2 rfl ?_
                      refine z_iload_n C0 d_M_clean_112 rfl 1 rfl ?_
                      refine z_aload_n C0 d_M_clean_113 rfl 0 rfl ?_
                      refine z_get C0 gf_M_48 0 rfl rfl d_M_clean_114 ?_
                      refine z_imulN C0 d_M_clean_117 ?_
                      refine z_aload_n C0 d_M_clean_118 rfl 0 rfl ?_
                      refine z_get C0 gf_M_48 0 rfl rfl d_M_clean_119 ?_
                      refine z_iaddN C0 d_M_clean_122 ?_
                      refine z_icmpN_ge (tgt := 144) C0 d_M_clean_123 (by decide) (by omega) (by omega) (fun (c123_13 : b * bp + bp ≤ k) => ?_) (fun (c123_13 : k < b * bp + bp) => ?_)
                      · exact absurd c123_13 (by omega)
                      · skip
                        refine z_aload_n C0 d_M_clean_126 rfl 0 rfl ?_
                        refine z_iload_n C0 d_M_clean_127 rfl 2 rfl ?_
                        refine z_allV (As := [.int (nI (k))]) (rest := []) C0 (c_M_erasePage l D cI cZ y bc bp (zmk f w (mm_q T) (mm_s T) (mm_k T) (mm_d T) (mm_h T) (mm_x T) (mm_r (sm_act T).2) (mm_c (sm_act T).2) (mm_a (sm_act T).2) (mm_n (sm_act T).2) (mm_t T) (mm_e T)) hB0 (k) (by omega)) mt_M_erasePage ml_M_61 vt_M_erasePage rfl rfl ⟨Nat.le_of_ble_eq_true rfl, Nat.le_of_ble_eq_true rfl⟩ ⟨rfl, rfl⟩ ⟨Nat.zero_le _, Nat.zero_le _⟩ rfl rfl (Nat.le_of_ble_eq_true rfl) d_M_clean_128 ?_
                        refine z_st (stn := []) rfl ?_
                        refine z_aload_n C0 d_M_clean_131 rfl 0 rfl ?_
                        refine z_get C0 gf_M_16 0 rfl rfl d_M_clean_132 ?_
                        refine z_iload_n C0 d_M_clean_135 rfl 2 rfl ?_
                        refine z_iconst (v := nI 0) C0 d_M_clean_136 (by decide) ?_
                        refine z_topi (x := nI 0) (xn := bI false) (by decide) ?_
                        refine z_zast C0 3 rfl (by omega) (by omega) d_M_clean_137 ?_
                        refine z_iincN (q := 2) (lvn := [(0, .ref (y 0)), (1, .int (nI (b))), (2, .int (nI (k + 1)))]) C0 d_M_clean_138 rfl (by decide) [1, 2, 0] rfl ?_
                        refine z_gotoK (tgt := 111) C0 d_M_clean_141 (by decide) ?_
                        refine z_ws (wsn := zm_W cI cZ y bc bp (zmk (sm_er k (f)) (ub w (k) (false)) (mm_q T) (mm_s T) (mm_k T) (mm_d T) (mm_h T) (mm_x T) (mm_r (sm_act T).2) (mm_c (sm_act T).2) (mm_a (sm_act T).2) (mm_n (sm_act T).2) (mm_t T) (mm_e T))) rfl ?_
                        exact ih (k + 1) (sm_er k (f)) (ub w (k) (false)) (by omega) (by rw [hF]; rfl) (by rw [hW]; rfl)
                  exact le (bp) (b * bp) (mm_f T) (mm_w T) (by omega) (rfl) (rfl)
                · skip
                  refine z_iconst (v := nI 0) C0 d_M_clean_102 (by decide) ?_
                  refine z_topi (x := nI 0) (xn := bI false) (by decide) ?_
                  exact z_zret C0 hA hQ hr d_M_clean_103 (by rw [hR, show sm_cl2 bp b (sm_cls bp 0 j T) = (false, (sm_act T).2) from (by show sm_cl3 bp b (sm_act T) = _; rw [show sm_act T = (false, (sm_act T).2) from by rw [← c99_11]]; rfl), sm_actE]; exact ⟨rfl, rfl⟩)
              · exact absurd c67_10 (by omega)
            | succ n ih =>
              intro j T hj hhT hOk hR
              refine z_iload_n C0 d_M_clean_62 rfl 2 rfl ?_
              refine z_aload_n C0 d_M_clean_63 rfl 0 rfl ?_
              refine z_get C0 gf_M_51 0 rfl rfl d_M_clean_64 ?_
              refine z_icmpN_ge (tgt := 95) C0 d_M_clean_67 (by decide) (by omega) (by omega) (fun (c67_14 : bc * bp ≤ j) => ?_) (fun (c67_14 : j < bc * bp) => ?_)
              · exact absurd c67_14 (by omega)
              · skip
                refine z_aload_n C0 d_M_clean_70 rfl 0 rfl ?_
                refine z_get C0 gf_M_29 0 rfl rfl d_M_clean_71 ?_
                refine z_iload_n C0 d_M_clean_74 rfl 2 rfl ?_
                refine z_zald C0 7 rfl (by omega) (by omega) d_M_clean_75 ?_
                refine z_ifB_eq (tgt := 89) C0 d_M_clean_76 (by decide) (fun (c76_15 : (mm_q T) (j) = false) => ?_) (fun (c76_15 : (mm_q T) (j) = true) => ?_)
                · skip
                  refine z_iincN (q := 2) (lvn := [(0, .ref (y 0)), (1, .int (nI (b))), (2, .int (nI (j + 1)))]) C0 d_M_clean_89 rfl (by decide) [1, 2, 0] rfl ?_
                  refine z_gotoK (tgt := 62) C0 d_M_clean_92 (by decide) ?_
                  exact ih (j + 1) (T) (by omega) (hhT) (hOk.2 c76_15) (by rw [hR]; show sm_cl2 bp b (if mm_q T j = true then _ else _) = _; rw [if_neg (by rw [c76_15]; decide)])
                · skip
                  refine z_aload_n C0 d_M_clean_79 rfl 0 rfl ?_
                  refine z_iload_n C0 d_M_clean_80 rfl 2 rfl ?_
                  refine z_allV (As := [.int (nI (j))]) (rest := []) C0 (c_M_copy l D cI cZ y bc bp T hB0 (j) (by omega) ((hOk.1 c76_15).1)) mt_M_copy ml_M_130 vt_M_copy rfl rfl ⟨Nat.le_of_ble_eq_true rfl, Nat.le_of_ble_eq_true rfl⟩ ⟨rfl, rfl⟩ ⟨Nat.zero_le _, Nat.zero_le _⟩ rfl rfl (Nat.le_of_ble_eq_true rfl) d_M_clean_81 ?_
                  refine z_st (stn := [.int (bI ((sm_copy bp T j).1))]) rfl ?_
                  refine z_ifB_ne (tgt := 89) C0 d_M_clean_84 (by decide) (fun (c84_16 : (sm_copy bp T j).1 = true) => ?_) (fun (c84_16 : (sm_copy bp T j).1 = false) => ?_)
                  · skip
                    refine z_iincN (q := 2) (lvn := [(0, .ref (y 0)), (1, .int (nI (b))), (2, .int (nI (j + 1)))]) C0 d_M_clean_89 rfl (by decide) [1, 2, 0] rfl ?_
                    refine z_gotoK (tgt := 62) C0 d_M_clean_92 (by decide) ?_
                    exact ih (j + 1) (((sm_copy bp T j).2)) (by omega) (by rw [sm_copy_h]; exact hhT) ((hOk.1 c76_15).2 c84_16) (by rw [hR]; show sm_cl2 bp b (if mm_q T j = true then _ else _) = _; rw [if_pos c76_15, if_pos c84_16])
                  · skip
                    refine z_iconst (v := nI 0) C0 d_M_clean_87 (by decide) ?_
                    refine z_topi (x := nI 0) (xn := bI false) (by decide) ?_
                    exact z_zret C0 hA hQ hr d_M_clean_88 (by rw [hR, show sm_cls bp (n + 1) j T = (false, (sm_copy bp T j).2) from (by show (if mm_q T j = true then _ else _) = _; rw [if_pos c76_15]; exact if_neg (by rw [c84_16]; decide))]; exact ⟨rfl, rfl⟩)
          refine z_ws (wsn := zm_W cI cZ y bc bp (zmk (mm_f M) (mm_w M) q (mm_s M) (mm_k M) (mm_d M) (sm_low bc bp (mm_w M)) (mm_x M) (mm_r M) (mm_c M) (mm_a M) (mm_n M) (mm_t M) (mm_e M))) rfl ?_
          exact lc (bc * bp) (0) ((zmk (mm_f M) (mm_w M) q (mm_s M) (mm_k M) (mm_d M) (sm_low bc bp (mm_w M)) (mm_x M) (mm_r M) (mm_c M) (mm_a M) (mm_n M) (mm_t M) (mm_e M))) (by omega) (sm_lowOk bc bp (mm_w M)) (by have z := hc; unfold sm_clOk sm_cl0 at z; rw [hQ1, show sm_cl1 bc bp (sm_setQ M (sm_wts bc bp M b 0 i q)) = (zmk (mm_f M) (mm_w M) q (mm_s M) (mm_k M) (mm_d M) (sm_low bc bp (mm_w M)) (mm_x M) (mm_r M) (mm_c M) (mm_a M) (mm_n M) (mm_t M) (mm_e M)) from if_pos c49_2] at z; exact z) (by unfold sm_clean; rw [hQ1, show sm_cl1 bc bp (sm_setQ M (sm_wts bc bp M b 0 i q)) = (zmk (mm_f M) (mm_w M) q (mm_s M) (mm_k M) (mm_d M) (sm_low bc bp (mm_w M)) (mm_x M) (mm_r M) (mm_c M) (mm_a M) (mm_n M) (mm_t M) (mm_e M)) from if_pos c49_2])
      · exact absurd c7_1 (by omega)
    | succ n ih =>
      intro i q hi hQ1
      refine z_iload_n C0 d_M_clean_2 rfl 2 rfl ?_
      refine z_aload_n C0 d_M_clean_3 rfl 0 rfl ?_
      refine z_get C0 gf_M_51 0 rfl rfl d_M_clean_4 ?_
      refine z_icmpN_ge (tgt := 45) C0 d_M_clean_7 (by decide) (by omega) (by omega) (fun (c7_17 : bc * bp ≤ i) => ?_) (fun (c7_17 : i < bc * bp) => ?_)
      · exact absurd c7_17 (by omega)
      · skip
        refine z_aload_n C0 d_M_clean_10 rfl 0 rfl ?_
        refine z_get C0 gf_M_29 0 rfl rfl d_M_clean_11 ?_
        refine z_iload_n C0 d_M_clean_14 rfl 2 rfl ?_
        refine z_iload_n C0 d_M_clean_15 rfl 2 rfl ?_
        refine z_aload_n C0 d_M_clean_16 rfl 0 rfl ?_
        refine z_get C0 gf_M_48 0 rfl rfl d_M_clean_17 ?_
        have hdi : i / bp ≤ i := Nat.div_le_self _ _
        refine z_idivN C0 d_M_clean_20 (by omega) (by omega) (by omega) ?_
        refine z_iload_n C0 d_M_clean_21 rfl 1 rfl ?_
        refine z_icmpN_ne (tgt := 37) C0 d_M_clean_22 (by decide) (by omega) (by omega) (fun (c22_18 : i / bp ≠ b) => ?_) (fun (c22_18 : i / bp = b) => ?_)
        · skip
          refine z_iconst (v := nI 0) C0 d_M_clean_37 (by decide) ?_
          refine z_topi (x := nI 0) (xn := bI false) (by decide) ?_
          refine z_zast C0 7 rfl (by omega) (by omega) d_M_clean_38 ?_
          refine z_iincN (q := 2) (lvn := [(0, .ref (y 0)), (1, .int (nI (b))), (2, .int (nI (i + 1)))]) C0 d_M_clean_39 rfl (by decide) [1, 2, 0] rfl ?_
          refine z_gotoK (tgt := 2) C0 d_M_clean_42 (by decide) ?_
          refine z_ws (wsn := zm_W cI cZ y bc bp (zmk (mm_f M) (mm_w M) (ub q (i) (false)) (mm_s M) (mm_k M) (mm_d M) (mm_h M) (mm_x M) (mm_r M) (mm_c M) (mm_a M) (mm_n M) (mm_t M) (mm_e M))) rfl ?_
          exact ih (i + 1) (ub q (i) (false)) (by omega) (by rw [hQ1]; show sm_wts bc bp M b n (i + 1) (ub q i (decide (i / bp = b) && sm_need bc bp M i)) = _; rw [show (decide (i / bp = b) && sm_need bc bp M i) = false from by rw [decide_eq_false c22_18]; rfl])
        · skip
          refine z_aload_n C0 d_M_clean_25 rfl 0 rfl ?_
          refine z_iload_n C0 d_M_clean_26 rfl 2 rfl ?_
          refine z_allV (As := [.int (nI (i))]) (rest := [.int (nI (i)), .ref (y 7)]) C0 (c_M_isNeeded l D cI cZ y bc bp (zmk (mm_f M) (mm_w M) q (mm_s M) (mm_k M) (mm_d M) (mm_h M) (mm_x M) (mm_r M) (mm_c M) (mm_a M) (mm_n M) (mm_t M) (mm_e M)) hB0 (i) (hh) (by omega)) mt_M_isNeeded ml_M_98 vt_M_isNeeded rfl rfl ⟨Nat.le_of_ble_eq_true rfl, Nat.le_of_ble_eq_true rfl⟩ ⟨rfl, rfl⟩ ⟨Nat.zero_le _, Nat.zero_le _⟩ rfl rfl (Nat.le_of_ble_eq_true rfl) d_M_clean_27 ?_
          refine z_st (stn := [.int (bI (sm_need bc bp (zmk (mm_f M) (mm_w M) q (mm_s M) (mm_k M) (mm_d M) (mm_h M) (mm_x M) (mm_r M) (mm_c M) (mm_a M) (mm_n M) (mm_t M) (mm_e M)) i)), .int (nI (i)), .ref (y 7)]) rfl ?_
          refine z_ifB_eq (tgt := 37) C0 d_M_clean_30 (by decide) (fun (c30_19 : sm_need bc bp (zmk (mm_f M) (mm_w M) q (mm_s M) (mm_k M) (mm_d M) (mm_h M) (mm_x M) (mm_r M) (mm_c M) (mm_a M) (mm_n M) (mm_t M) (mm_e M)) i = false) => ?_) (fun (c30_19 : sm_need bc bp (zmk (mm_f M) (mm_w M) q (mm_s M) (mm_k M) (mm_d M) (mm_h M) (mm_x M) (mm_r M) (mm_c M) (mm_a M) (mm_n M) (mm_t M) (mm_e M)) i = true) => ?_)
          · skip
            refine z_iconst (v := nI 0) C0 d_M_clean_37 (by decide) ?_
            refine z_topi (x := nI 0) (xn := bI false) (by decide) ?_
            refine z_zast C0 7 rfl (by omega) (by omega) d_M_clean_38 ?_
            refine z_iincN (q := 2) (lvn := [(0, .ref (y 0)), (1, .int (nI (b))), (2, .int (nI (i + 1)))]) C0 d_M_clean_39 rfl (by decide) [1, 2, 0] rfl ?_
            refine z_gotoK (tgt := 2) C0 d_M_clean_42 (by decide) ?_
            refine z_ws (wsn := zm_W cI cZ y bc bp (zmk (mm_f M) (mm_w M) (ub q (i) (false)) (mm_s M) (mm_k M) (mm_d M) (mm_h M) (mm_x M) (mm_r M) (mm_c M) (mm_a M) (mm_n M) (mm_t M) (mm_e M))) rfl ?_
            exact ih (i + 1) (ub q (i) (false)) (by omega) (by rw [hQ1]; show sm_wts bc bp M b n (i + 1) (ub q i (decide (i / bp = b) && sm_need bc bp M i)) = _; rw [show (decide (i / bp = b) && sm_need bc bp M i) = false from by rw [decide_eq_true c22_18, show sm_need bc bp M i = false from c30_19]; rfl])
          · skip
            refine z_iconst (v := nI 1) C0 d_M_clean_33 (by decide) ?_
            refine z_gotoK (tgt := 38) C0 d_M_clean_34 (by decide) ?_
            refine z_topi (x := nI 1) (xn := bI true) (by decide) ?_
            refine z_zast C0 7 rfl (by omega) (by omega) d_M_clean_38 ?_
            refine z_iincN (q := 2) (lvn := [(0, .ref (y 0)), (1, .int (nI (b))), (2, .int (nI (i + 1)))]) C0 d_M_clean_39 rfl (by decide) [1, 2, 0] rfl ?_
            refine z_gotoK (tgt := 2) C0 d_M_clean_42 (by decide) ?_
            refine z_ws (wsn := zm_W cI cZ y bc bp (zmk (mm_f M) (mm_w M) (ub q (i) (true)) (mm_s M) (mm_k M) (mm_d M) (mm_h M) (mm_x M) (mm_r M) (mm_c M) (mm_a M) (mm_n M) (mm_t M) (mm_e M))) rfl ?_
            exact ih (i + 1) (ub q (i) (true)) (by omega) (by rw [hQ1]; show sm_wts bc bp M b n (i + 1) (ub q i (decide (i / bp = b) && sm_need bc bp M i)) = _; rw [show (decide (i / bp = b) && sm_need bc bp M i) = true from by rw [decide_eq_true c22_18, show sm_need bc bp M i = true from c30_19]; rfl])
  exact lp2 (bc * bp) (0) (mm_q M) (by omega) (rfl)
