set_option maxHeartbeats 4000000 in
set_option maxRecDepth 100000 in
theorem c_S_findPages (l : Launch) (D : va_G) (cI cZ : ClassId) (x : Nat → Nat) (bc bp : Nat) (S : zs_S) (hB : zb_ok bc bp)  (hlow : slow (bc * bp) (zf_c (ss_F S))) : zc_Con l y_S_findPages b_S_findPages 3 (some .boolean) { frames := 4, cells := 0, slots := 0, locals := 107 } D cI cZ [.ref (x 0)] (zs_W cI cZ x bc bp S) (zo (some (.int (bI ((ss_find bc bp S).1)))) (zs_W cI cZ x bc bp ((ss_find bc bp S).2))) := by
  refine zc_start (by decide) (Nat.le_of_ble_eq_true rfl) ?_
  intro p e s m args below meth c A Q hA hQ C0 hr hin
  have C0 : zc_Cx p s m args meth c b_S_findPages 3 R_S D cI cZ A := C0
  have hB0 := hB
  obtain ⟨hB1, hB2, hB3, hB4⟩ := hB
  have hN : bc * bp ≤ 20 := Nat.mul_le_mul hB2 hB4
  refine z_lvs (lvn := [(0, .ref (x 0))]) rfl ?_
  refine z_aload_n C0 d_S_findPages_0 rfl 0 rfl ?_
  refine z_get C0 gf_S_32 0 rfl rfl d_S_findPages_1 ?_
  refine z_detV (As := []) (rest := []) (wsn := zs_W cI cZ x bc bp ((ss_F S), (sl_all bc bp (ss_L S)), ss_r S, ss_f S, ss_a S, ss_n S, ss_d S)) C0 (c_L_forgetAll l D cI cZ x bc bp (ss_L S) hB0  ) mt_L_forgetAll ml_S_49 vt_L_forgetAll rfl rfl ⟨Nat.le_of_ble_eq_true rfl, Nat.le_of_ble_eq_true rfl⟩ ⟨rfl, rfl⟩ ⟨Nat.zero_le _, Nat.zero_le _⟩ rfl [7, 8, 9, 10, 11, 12] [0, 1, 2, 3, 4, 5, 6] [0, 1, 2, 3, 4, 5, 6, 7, 8, 9, 10, 11, 12] rfl (by decide) (wr := [(x 0, .inr (0, [.ref (x 1), .ref (x 7), .int (bI (ss_r S)), .int (bI (ss_f S)), .int (bI (ss_a S)), .int (ss_n S), .int (ss_d S)])), (x 1, .inr (1, [.int (nI (bc * bp)), .ref (x 6), .ref (x 2), .ref (x 3)])), (x 6, .inl (cI, bc * bp * 6, .inl (zf_c (ss_F S)))), (x 2, .inl (cI, 6, .inl (zf_e (ss_F S)))), (x 3, .inr (2, [.ref (x 4), .ref (x 5)])), (x 4, .inl (cI, 178, .inl (zk_R))), (x 5, .inl (cI, 512, .inl (zk_B)))]) rfl (by decide) (by decide) rfl (by decide) rfl (Nat.le_of_ble_eq_true rfl) d_S_findPages_4 ?_
  refine z_st (stn := []) rfl ?_
  refine z_iconst (v := nI 0) C0 d_S_findPages_7 (by decide) ?_
  refine z_istore_n (lvn := [(0, .ref (x 0)), (1, .int (nI (0)))]) C0 d_S_findPages_8 rfl (by decide) [1, 0] rfl ?_
  have lp9 : ∀ (n : Nat) (i : Nat) (T : zs_S), (i + n = bc * bp) → (slow (bc * bp) (zf_c (ss_F T))) → (ss_fp (bc * bp) 0 (ss_setL S (sl_all bc bp (ss_L S))) = ss_fp n i T) → zc_Pt p l e { frames := 4, cells := 0, slots := 0, locals := 107 } s m args below meth c 3 D A 0 0 Q 9 [(0, .ref (x 0)), (1, .int (nI (i)))] [] (zs_W cI cZ x bc bp T) := by
    intro n
    induction n with
    | zero =>
      intro i T hi hlT hR
      refine z_iload_n C0 d_S_findPages_9 rfl 1 rfl ?_
      refine z_aload_n C0 d_S_findPages_10 rfl 0 rfl ?_
      refine z_get C0 gf_S_23 0 rfl rfl d_S_findPages_11 ?_
      refine z_get C0 gf_S_42 1 rfl rfl d_S_findPages_14 ?_
      refine z_icmpN_ge (tgt := 81) C0 d_S_findPages_17 (by decide) (by omega) (by omega) (fun (c17_1 : bc * bp ≤ i) => ?_) (fun (c17_1 : i < bc * bp) => ?_)
      · skip
        refine z_aload_n C0 d_S_findPages_81 rfl 0 rfl ?_
        refine z_get C0 gf_S_32 0 rfl rfl d_S_findPages_82 ?_
        refine z_detV (As := []) (rest := []) (wsn := zs_W cI cZ x bc bp ((ss_F T), (sl_setX (ss_L T) (sl_next (zl_s (ss_L T)) (sl_news (zl_w (ss_L T)) (zl_s (ss_L T)) (bc * bp) 0 none))), ss_r T, ss_f T, ss_a T, ss_n T, ss_d T)) C0 (c_L_findNext l D cI cZ x bc bp (ss_L T) hB0  ) mt_L_findNext ml_S_144 vt_L_findNext rfl rfl ⟨Nat.le_of_ble_eq_true rfl, Nat.le_of_ble_eq_true rfl⟩ ⟨rfl, rfl⟩ ⟨Nat.zero_le _, Nat.zero_le _⟩ rfl [7, 8, 9, 10, 11, 12] [0, 1, 2, 3, 4, 5, 6] [0, 1, 2, 3, 4, 5, 6, 7, 8, 9, 10, 11, 12] rfl (by decide) (wr := [(x 0, .inr (0, [.ref (x 1), .ref (x 7), .int (bI (ss_r T)), .int (bI (ss_f T)), .int (bI (ss_a T)), .int (ss_n T), .int (ss_d T)])), (x 1, .inr (1, [.int (nI (bc * bp)), .ref (x 6), .ref (x 2), .ref (x 3)])), (x 6, .inl (cI, bc * bp * 6, .inl (zf_c (ss_F T)))), (x 2, .inl (cI, 6, .inl (zf_e (ss_F T)))), (x 3, .inr (2, [.ref (x 4), .ref (x 5)])), (x 4, .inl (cI, 178, .inl (zk_R))), (x 5, .inl (cI, 512, .inl (zk_B)))]) rfl (by decide) (by decide) rfl (by decide) rfl (Nat.le_of_ble_eq_true rfl) d_S_findPages_85 ?_
        refine z_st (stn := []) rfl ?_
        refine z_iconst (v := nI 1) C0 d_S_findPages_88 (by decide) ?_
        refine z_topi (x := nI 1) (xn := bI true) (by decide) ?_
        exact z_zret C0 hA hQ hr d_S_findPages_89 (by rw [show ss_find bc bp S = (true, ss_fn bc bp T) from (by unfold ss_find; rw [hR]; rfl)]; exact ⟨rfl, rfl⟩)
      · exact absurd c17_1 (by omega)
    | succ n ih =>
      intro i T hi hlT hR
      refine z_iload_n C0 d_S_findPages_9 rfl 1 rfl ?_
      refine z_aload_n C0 d_S_findPages_10 rfl 0 rfl ?_
      refine z_get C0 gf_S_23 0 rfl rfl d_S_findPages_11 ?_
      refine z_get C0 gf_S_42 1 rfl rfl d_S_findPages_14 ?_
      refine z_icmpN_ge (tgt := 81) C0 d_S_findPages_17 (by decide) (by omega) (by omega) (fun (c17_2 : bc * bp ≤ i) => ?_) (fun (c17_2 : i < bc * bp) => ?_)
      · exact absurd c17_2 (by omega)
      · skip
        refine z_aload_n C0 d_S_findPages_20 rfl 0 rfl ?_
        refine z_get C0 gf_S_23 0 rfl rfl d_S_findPages_21 ?_
        refine z_iload_n C0 d_S_findPages_24 rfl 1 rfl ?_
        refine z_detV (As := [.int (nI (i))]) (rest := []) (wsn := zs_W cI cZ x bc bp ((zf_c (ss_F T), (sf_rd (zf_c (ss_F T)) (zf_e (ss_F T)) i).2), (ss_L T), ss_r T, ss_f T, ss_a T, ss_n T, ss_d T)) C0 (c_F_readPage l D cI cZ x bc bp (ss_F T) hB0 (i) (by omega) (hlT i (by omega))) mt_F_readPage ml_S_88 vt_F_readPage rfl rfl ⟨Nat.le_of_ble_eq_true rfl, Nat.le_of_ble_eq_true rfl⟩ ⟨rfl, rfl⟩ ⟨Nat.zero_le _, Nat.zero_le _⟩ rfl [1, 2, 3, 4, 5, 6] [0, 7, 8, 9, 10, 11, 12] [0, 7, 8, 9, 10, 11, 12, 1, 2, 3, 4, 5, 6] rfl (by decide) (wr := [(x 0, .inr (0, [.ref (x 1), .ref (x 7), .int (bI (ss_r T)), .int (bI (ss_f T)), .int (bI (ss_a T)), .int (ss_n T), .int (ss_d T)])), (x 7, .inr (3, [.int (nI (bc)), .int (nI (bp)), .ref (x 8), .ref (x 9), .ref (x 10), .ref (x 11), .int (oN (zl_h (ss_L T))), .int (zl_x (ss_L T)), .int (nI (bc * bp)), .ref (x 12)])), (x 8, .inl (cI, bc * bp, .inl (zl_s (ss_L T)))), (x 9, .inl (cI, bc * bp, .inl (zl_k (ss_L T)))), (x 10, .inl (cI, bc * bp, .inl (zl_d (ss_L T)))), (x 11, .inl (cZ, bc * bp, .inl (bF (zl_m (ss_L T))))), (x 12, .inl (cZ, bc * bp, .inl (bF (zl_w (ss_L T)))))]) rfl (by decide) (by decide) rfl (by decide) rfl (Nat.le_of_ble_eq_true rfl) d_S_findPages_25 ?_
        refine z_st (stn := [.int (nI ((sf_rd (zf_c (ss_F T)) (zf_e (ss_F T)) i).1))]) rfl ?_
        refine z_istore_n (lvn := [(0, .ref (x 0)), (1, .int (nI (i))), (2, .int (nI ((sf_rd (zf_c (ss_F T)) (zf_e (ss_F T)) i).1)))]) C0 d_S_findPages_28 rfl (by decide) [1, 2, 0] rfl ?_
        refine z_iload_n C0 d_S_findPages_29 rfl 2 rfl ?_
        refine z_iconst (v := nI 3) C0 d_S_findPages_30 (by decide) ?_
        refine z_icmpN_ne (tgt := 36) C0 d_S_findPages_31 (by decide) (by have := sf_rd_le (zf_c (ss_F T)) (zf_e (ss_F T)) i; omega) (by omega) (fun (c31_3 : (sf_rd (zf_c (ss_F T)) (zf_e (ss_F T)) i).1 ≠ 3) => ?_) (fun (c31_3 : (sf_rd (zf_c (ss_F T)) (zf_e (ss_F T)) i).1 = 3) => ?_)
        · skip
          refine z_iload_n C0 d_S_findPages_36 rfl 2 rfl ?_
          refine z_ifN_eq (tgt := 75) C0 d_S_findPages_37 (by decide) (by have := sf_rd_le (zf_c (ss_F T)) (zf_e (ss_F T)) i; omega) (fun c37_4 => ?_) (fun c37_4 => ?_)
          · skip
            refine z_iincN (q := 1) (lvn := [(0, .ref (x 0)), (1, .int (nI (i + 1))), (2, .int (nI ((sf_rd (zf_c (ss_F T)) (zf_e (ss_F T)) i).1)))]) C0 d_S_findPages_75 rfl (by decide) [1, 0, 2] rfl ?_
            refine z_gotoK (tgt := 9) C0 d_S_findPages_78 (by decide) ?_
            refine z_lv [0, 1] rfl ?_
            exact ih (i + 1) (((zf_c (ss_F T), (sf_rd (zf_c (ss_F T)) (zf_e (ss_F T)) i).2), (ss_L T), ss_r T, ss_f T, ss_a T, ss_n T, ss_d T)) (by omega) (hlT) (by rw [hR]; show (if (ss_rd T i).1 = 3 then _ else if (ss_rd T i).1 = 0 then _ else _) = _; rw [if_neg (show ¬ (ss_rd T i).1 = 3 from c31_3), if_pos (show (ss_rd T i).1 = 0 from c37_4)]; try rfl)
          · skip
            refine z_aload_n C0 d_S_findPages_40 rfl 0 rfl ?_
            refine z_get C0 gf_S_32 0 rfl rfl d_S_findPages_41 ?_
            refine z_iload_n C0 d_S_findPages_44 rfl 1 rfl ?_
            refine z_aload_n C0 d_S_findPages_45 rfl 0 rfl ?_
            refine z_get C0 gf_S_23 0 rfl rfl d_S_findPages_46 ?_
            refine z_get C0 gf_S_94 1 rfl rfl d_S_findPages_49 ?_
            refine z_iconst (v := nI 0) C0 d_S_findPages_52 (by decide) ?_
            refine z_iald C0 3 rfl (by omega) (by omega) d_S_findPages_53 ?_
            refine z_aload_n C0 d_S_findPages_54 rfl 0 rfl ?_
            refine z_get C0 gf_S_23 0 rfl rfl d_S_findPages_55 ?_
            refine z_get C0 gf_S_94 1 rfl rfl d_S_findPages_58 ?_
            refine z_iconst (v := nI 1) C0 d_S_findPages_61 (by decide) ?_
            refine z_iald C0 3 rfl (by omega) (by omega) d_S_findPages_62 ?_
            refine z_aload_n C0 d_S_findPages_63 rfl 0 rfl ?_
            refine z_get C0 gf_S_23 0 rfl rfl d_S_findPages_64 ?_
            refine z_get C0 gf_S_94 1 rfl rfl d_S_findPages_67 ?_
            refine z_iconst (v := nI 3) C0 d_S_findPages_70 (by decide) ?_
            refine z_iald C0 3 rfl (by omega) (by omega) d_S_findPages_71 ?_
            refine z_detV (As := [.int (nI (i)), .int (((sf_rd (zf_c (ss_F T)) (zf_e (ss_F T)) i).2) (0)), .int (((sf_rd (zf_c (ss_F T)) (zf_e (ss_F T)) i).2) (1)), .int (((sf_rd (zf_c (ss_F T)) (zf_e (ss_F T)) i).2) (3))]) (rest := []) (wsn := zs_W cI cZ x bc bp ((zf_c (ss_F T), (sf_rd (zf_c (ss_F T)) (zf_e (ss_F T)) i).2), (sl_know (ss_L T) i (((sf_rd (zf_c (ss_F T)) (zf_e (ss_F T)) i).2) (0)) (((sf_rd (zf_c (ss_F T)) (zf_e (ss_F T)) i).2) (1)) (((sf_rd (zf_c (ss_F T)) (zf_e (ss_F T)) i).2) (3))), ss_r T, ss_f T, ss_a T, ss_n T, ss_d T)) C0 (c_L_know l D cI cZ x bc bp (ss_L T) hB0 (i) (((sf_rd (zf_c (ss_F T)) (zf_e (ss_F T)) i).2) (0)) (((sf_rd (zf_c (ss_F T)) (zf_e (ss_F T)) i).2) (1)) (((sf_rd (zf_c (ss_F T)) (zf_e (ss_F T)) i).2) (3)) (by omega)) mt_L_know ml_S_140 vt_L_know rfl rfl ⟨Nat.le_of_ble_eq_true rfl, Nat.le_of_ble_eq_true rfl⟩ ⟨rfl, rfl⟩ ⟨Nat.zero_le _, Nat.zero_le _⟩ rfl [7, 8, 9, 10, 11, 12] [0, 1, 2, 3, 4, 5, 6] [0, 1, 2, 3, 4, 5, 6, 7, 8, 9, 10, 11, 12] rfl (by decide) (wr := [(x 0, .inr (0, [.ref (x 1), .ref (x 7), .int (bI (ss_r T)), .int (bI (ss_f T)), .int (bI (ss_a T)), .int (ss_n T), .int (ss_d T)])), (x 1, .inr (1, [.int (nI (bc * bp)), .ref (x 6), .ref (x 2), .ref (x 3)])), (x 6, .inl (cI, bc * bp * 6, .inl (zf_c (ss_F T)))), (x 2, .inl (cI, 6, .inl ((sf_rd (zf_c (ss_F T)) (zf_e (ss_F T)) i).2))), (x 3, .inr (2, [.ref (x 4), .ref (x 5)])), (x 4, .inl (cI, 178, .inl (zk_R))), (x 5, .inl (cI, 512, .inl (zk_B)))]) rfl (by decide) (by decide) rfl (by decide) rfl (Nat.le_of_ble_eq_true rfl) d_S_findPages_72 ?_
            refine z_st (stn := []) rfl ?_
            refine z_iincN (q := 1) (lvn := [(0, .ref (x 0)), (1, .int (nI (i + 1))), (2, .int (nI ((sf_rd (zf_c (ss_F T)) (zf_e (ss_F T)) i).1)))]) C0 d_S_findPages_75 rfl (by decide) [1, 0, 2] rfl ?_
            refine z_gotoK (tgt := 9) C0 d_S_findPages_78 (by decide) ?_
            refine z_lv [0, 1] rfl ?_
            exact ih (i + 1) (((zf_c (ss_F T), (sf_rd (zf_c (ss_F T)) (zf_e (ss_F T)) i).2), (sl_know (ss_L T) i (((sf_rd (zf_c (ss_F T)) (zf_e (ss_F T)) i).2) (0)) (((sf_rd (zf_c (ss_F T)) (zf_e (ss_F T)) i).2) (1)) (((sf_rd (zf_c (ss_F T)) (zf_e (ss_F T)) i).2) (3))), ss_r T, ss_f T, ss_a T, ss_n T, ss_d T)) (by omega) (hlT) (by rw [hR]; show (if (ss_rd T i).1 = 3 then _ else if (ss_rd T i).1 = 0 then _ else _) = _; rw [if_neg (show ¬ (ss_rd T i).1 = 3 from c31_3), if_neg (show ¬ (ss_rd T i).1 = 0 from Nat.pos_iff_ne_zero.mp c37_4)]; try rfl)
        · skip
          refine z_iconst (v := nI 0) C0 d_S_findPages_34 (by decide) ?_
          refine z_topi (x := nI 0) (xn := bI false) (by decide) ?_
          exact z_zret C0 hA hQ hr d_S_findPages_35 (by rw [show ss_find bc bp S = (false, (ss_rd T i).2) from (by unfold ss_find; rw [hR, show ss_fp (n + 1) i T = (false, (ss_rd T i).2) from if_pos (show (ss_rd T i).1 = 3 from c31_3)]; rfl)]; exact ⟨rfl, rfl⟩)
  exact lp9 (bc * bp) (0) (((ss_F S), (sl_all bc bp (ss_L S)), ss_r S, ss_f S, ss_a S, ss_n S, ss_d S)) (by omega) (hlow) (rfl)

set_option maxHeartbeats 4000000 in
set_option maxRecDepth 100000 in
theorem c_S_clean (l : Launch) (D : va_G) (cI cZ : ClassId) (x : Nat → Nat) (bc bp : Nat) (S : zs_S) (hB : zb_ok bc bp)  (hh : zh_ok bc (zl_h (ss_L S))) (hlow : slow (bc * bp) (zf_c (ss_F S))) : zc_Con l y_S_clean b_S_clean 6 (some .int) { frames := 4, cells := 0, slots := 0, locals := 109 } D cI cZ [.ref (x 0)] (zs_W cI cZ x bc bp S) (zo (some (.int ((sk_clean bc bp S).1))) (zs_W cI cZ x bc bp ((sk_clean bc bp S).2))) := by
  refine zc_start (by decide) (Nat.le_of_ble_eq_true rfl) ?_
  intro p e s m args below meth c A Q hA hQ C0 hr hin
  have C0 : zc_Cx p s m args meth c b_S_clean 6 R_S D cI cZ A := C0
  have hB0 := hB
  obtain ⟨hB1, hB2, hB3, hB4⟩ := hB
  have hN : bc * bp ≤ 20 := Nat.mul_le_mul hB2 hB4
  refine z_lvs (lvn := [(0, .ref (x 0))]) rfl ?_
  refine z_aload_n C0 d_S_clean_0 rfl 0 rfl ?_
  refine z_get C0 gf_S_32 0 rfl rfl d_S_clean_1 ?_
  refine z_detV (As := []) (rest := []) (wsn := zs_W cI cZ x bc bp ((ss_F S), (sl_setM (ss_L S) (sl_mn bc bp (ss_L S))), ss_r S, ss_f S, ss_a S, ss_n S, ss_d S)) C0 (c_L_chooseBlock l D cI cZ x bc bp (ss_L S) hB0  (hh)) mt_L_chooseBlock ml_S_159 vt_L_chooseBlock rfl rfl ⟨Nat.le_of_ble_eq_true rfl, Nat.le_of_ble_eq_true rfl⟩ ⟨rfl, rfl⟩ ⟨Nat.zero_le _, Nat.zero_le _⟩ rfl [7, 8, 9, 10, 11, 12] [0, 1, 2, 3, 4, 5, 6] [0, 1, 2, 3, 4, 5, 6, 7, 8, 9, 10, 11, 12] rfl (by decide) (wr := [(x 0, .inr (0, [.ref (x 1), .ref (x 7), .int (bI (ss_r S)), .int (bI (ss_f S)), .int (bI (ss_a S)), .int (ss_n S), .int (ss_d S)])), (x 1, .inr (1, [.int (nI (bc * bp)), .ref (x 6), .ref (x 2), .ref (x 3)])), (x 6, .inl (cI, bc * bp * 6, .inl (zf_c (ss_F S)))), (x 2, .inl (cI, 6, .inl (zf_e (ss_F S)))), (x 3, .inr (2, [.ref (x 4), .ref (x 5)])), (x 4, .inl (cI, 178, .inl (zk_R))), (x 5, .inl (cI, 512, .inl (zk_B)))]) rfl (by decide) (by decide) rfl (by decide) rfl (Nat.le_of_ble_eq_true rfl) d_S_clean_4 ?_
  refine z_st (stn := [.int (oN (sl_choose bc bp (ss_L S)))]) rfl ?_
  refine z_istore_n (lvn := [(0, .ref (x 0)), (1, .int (oN (sl_choose bc bp (ss_L S))))]) C0 d_S_clean_7 rfl (by decide) [1, 0] rfl ?_
  refine z_iload_n C0 d_S_clean_8 rfl 1 rfl ?_
  refine z_iconst (v := -1) C0 d_S_clean_9 (by decide) ?_
  rcases e10_1 : sl_choose bc bp (ss_L S) with _ | g10_2
  · refine z_st (stn := [.int (-1), .int (-1)]) (by first | rfl | (rw [e10_1]; rfl)) ?_
    refine z_lvs (lvn := [(0, .ref (x 0)), (1, .int (-1))]) (by first | rfl | (rw [e10_1]; rfl)) ?_
    refine z_icmp_eq (tgt := 24) C0 d_S_clean_10 (by decide) (fun c10_3 => ?_) (fun c10_3 => ?_)
    · skip
      refine z_iconst (v := -1) C0 d_S_clean_24 (by decide) ?_
      exact z_iret C0 hA hQ hr d_S_clean_25 (by rw [show sk_clean bc bp S = (-1, sk_m bc bp S) from (by unfold sk_clean; rw [e10_1]; rfl)]; exact ⟨rfl, rfl⟩)
    · exact absurd rfl c10_3
  · refine z_st (stn := [.int (-1), .int (nI (g10_2))]) (by first | rfl | (rw [e10_1]; rfl)) ?_
    refine z_lvs (lvn := [(0, .ref (x 0)), (1, .int (nI (g10_2)))]) (by first | rfl | (rw [e10_1]; rfl)) ?_
    have hb10 := choose_lt e10_1
    have hblk := zq_blk (bp := bp) hb10
    have hsub : g10_2 * bp + bp - g10_2 * bp = bp := by omega
    refine z_icmp_eq (tgt := 24) C0 d_S_clean_10 (by decide) (fun c10_4 => ?_) (fun c10_4 => ?_)
    · exact absurd c10_4 (nI_m1 (by omega))
    · skip
      refine z_aload_n C0 d_S_clean_13 rfl 0 rfl ?_
      refine z_get C0 gf_S_32 0 rfl rfl d_S_clean_14 ?_
      refine z_iconst (v := nI 1) C0 d_S_clean_17 (by decide) ?_
      refine z_detV (As := [.int (nI (1))]) (rest := []) (wsn := zs_W cI cZ x bc bp ((ss_F S), (sl_openH bc bp (sl_setM (ss_L S) (sl_mn bc bp (ss_L S))) 1), ss_r S, ss_f S, ss_a S, ss_n S, ss_d S)) C0 (c_L_openHead l D cI cZ x bc bp (sl_setM (ss_L S) (sl_mn bc bp (ss_L S))) hB0 (1) (hh) (by omega)) mt_L_openHead ml_S_147 vt_L_openHead rfl rfl ⟨Nat.le_of_ble_eq_true rfl, Nat.le_of_ble_eq_true rfl⟩ ⟨rfl, rfl⟩ ⟨Nat.zero_le _, Nat.zero_le _⟩ rfl [7, 8, 9, 10, 11, 12] [0, 1, 2, 3, 4, 5, 6] [0, 1, 2, 3, 4, 5, 6, 7, 8, 9, 10, 11, 12] rfl (by decide) (wr := [(x 0, .inr (0, [.ref (x 1), .ref (x 7), .int (bI (ss_r S)), .int (bI (ss_f S)), .int (bI (ss_a S)), .int (ss_n S), .int (ss_d S)])), (x 1, .inr (1, [.int (nI (bc * bp)), .ref (x 6), .ref (x 2), .ref (x 3)])), (x 6, .inl (cI, bc * bp * 6, .inl (zf_c (ss_F S)))), (x 2, .inl (cI, 6, .inl (zf_e (ss_F S)))), (x 3, .inr (2, [.ref (x 4), .ref (x 5)])), (x 4, .inl (cI, 178, .inl (zk_R))), (x 5, .inl (cI, 512, .inl (zk_B)))]) rfl (by decide) (by decide) rfl (by decide) rfl (Nat.le_of_ble_eq_true rfl) d_S_clean_18 ?_
      refine z_st (stn := [.int (bI (decide (sl_hg bp (zl_w (ss_L S)) (zl_h (sl_openH bc bp (sl_setM (ss_L S) (sl_mn bc bp (ss_L S))) 1)) ≠ none)))]) rfl ?_
      refine z_ifB_ne (tgt := 26) C0 d_S_clean_21 (by decide) (fun (c21_5 : decide (sl_hg bp (zl_w (ss_L S)) (zl_h (sl_openH bc bp (sl_setM (ss_L S) (sl_mn bc bp (ss_L S))) 1)) ≠ none) = true) => ?_) (fun (c21_5 : decide (sl_hg bp (zl_w (ss_L S)) (zl_h (sl_openH bc bp (sl_setM (ss_L S) (sl_mn bc bp (ss_L S))) 1)) ≠ none) = false) => ?_)
      · skip
        refine z_iload_n C0 d_S_clean_26 rfl 1 rfl ?_
        refine z_aload_n C0 d_S_clean_27 rfl 0 rfl ?_
        refine z_get C0 gf_S_32 0 rfl rfl d_S_clean_28 ?_
        refine z_get C0 gf_S_162 7 rfl rfl d_S_clean_31 ?_
        refine z_imulN C0 d_S_clean_34 ?_
        refine z_istore_n (lvn := [(0, .ref (x 0)), (1, .int (nI (g10_2))), (2, .int (nI (g10_2 * bp)))]) C0 d_S_clean_35 rfl (by decide) [1, 2, 0] rfl ?_
        refine z_iload_n C0 d_S_clean_36 rfl 2 rfl ?_
        refine z_aload_n C0 d_S_clean_37 rfl 0 rfl ?_
        refine z_get C0 gf_S_32 0 rfl rfl d_S_clean_38 ?_
        refine z_get C0 gf_S_162 7 rfl rfl d_S_clean_41 ?_
        refine z_iaddN C0 d_S_clean_44 ?_
        refine z_istore_n (lvn := [(0, .ref (x 0)), (1, .int (nI (g10_2))), (2, .int (nI (g10_2 * bp))), (3, .int (nI (g10_2 * bp + bp)))]) C0 d_S_clean_45 rfl (by decide) [1, 2, 3, 0] rfl ?_
        refine z_iload_n C0 d_S_clean_46 rfl 2 rfl ?_
        refine z_istore (lvn := [(0, .ref (x 0)), (1, .int (nI (g10_2))), (2, .int (nI (g10_2 * bp))), (3, .int (nI (g10_2 * bp + bp))), (4, .int (nI (g10_2 * bp)))]) C0 d_S_clean_47 (by decide) [1, 2, 3, 4, 0] rfl ?_
        have lp49 : ∀ (n : Nat) (i : Nat) (T : zs_S), (i + n = g10_2 * bp + bp) → (zh_ok bc (zl_h (ss_L T))) → (slow (bc * bp) (zf_c (ss_F T))) → (sk_clean bc bp S = sk_3 bp g10_2 (sk_s bp n i T)) → zc_Pt p l e { frames := 4, cells := 0, slots := 0, locals := 109 } s m args below meth c 6 D A 0 0 Q 49 [(0, .ref (x 0)), (1, .int (nI (g10_2))), (2, .int (nI (g10_2 * bp))), (3, .int (nI (g10_2 * bp + bp))), (4, .int (nI (i)))] [] (zs_W cI cZ x bc bp T) := by
          intro n
          induction n with
          | zero =>
            intro i T hi hhT hlT hR
            refine z_iload C0 d_S_clean_49 4 rfl ?_
            refine z_iload_n C0 d_S_clean_51 rfl 3 rfl ?_
            refine z_icmpN_ge (tgt := 128) C0 d_S_clean_52 (by decide) (by omega) (by omega) (fun (c52_6 : g10_2 * bp + bp ≤ i) => ?_) (fun (c52_6 : i < g10_2 * bp + bp) => ?_)
            · skip
              refine z_aload_n C0 d_S_clean_128 rfl 0 rfl ?_
              refine z_allV (As := []) (rest := []) C0 (c_S_mayAct l D cI cZ x bc bp T hB0  ) mt_S_mayAct ml_S_107 vt_S_mayAct rfl rfl ⟨Nat.le_of_ble_eq_true rfl, Nat.le_of_ble_eq_true rfl⟩ ⟨rfl, rfl⟩ ⟨Nat.zero_le _, Nat.zero_le _⟩ rfl rfl (Nat.le_of_ble_eq_true rfl) d_S_clean_129 ?_
              refine z_st (stn := [.int (bI ((ss_may T).1))]) rfl ?_
              refine z_ifB_ne (tgt := 138) C0 d_S_clean_132 (by decide) (fun (c132_7 : (ss_may T).1 = true) => ?_) (fun (c132_7 : (ss_may T).1 = false) => ?_)
              · skip
                refine z_aload_n C0 d_S_clean_138 rfl 0 rfl ?_
                refine z_get C0 gf_S_23 0 rfl rfl d_S_clean_139 ?_
                refine z_iload_n C0 d_S_clean_142 rfl 2 rfl ?_
                refine z_iload_n C0 d_S_clean_143 rfl 3 rfl ?_
                refine z_detV (As := [.int (nI (g10_2 * bp)), .int (nI (g10_2 * bp + bp))]) (rest := []) (wsn := zs_W cI cZ x bc bp ((sf_eps (sf_er (zf_e (ss_F T))) ((g10_2 * bp + bp) - (g10_2 * bp)) (g10_2 * bp) (zf_c (ss_F T)), sf_er (zf_e (ss_F T))), (ss_L T), ss_r (ss_may T).2, ss_f (ss_may T).2, ss_a T, ss_n (ss_may T).2, ss_d (ss_may T).2)) C0 (c_F_erasePages l D cI cZ x bc bp (ss_F T) hB0 (g10_2 * bp) (g10_2 * bp + bp) (by omega) (by omega)) mt_F_erasePages ml_S_46 vt_F_erasePages rfl rfl ⟨Nat.le_of_ble_eq_true rfl, Nat.le_of_ble_eq_true rfl⟩ ⟨rfl, rfl⟩ ⟨Nat.zero_le _, Nat.zero_le _⟩ rfl [1, 2, 3, 4, 5, 6] [0, 7, 8, 9, 10, 11, 12] [0, 7, 8, 9, 10, 11, 12, 1, 2, 3, 4, 5, 6] rfl (by decide) (wr := [(x 0, .inr (0, [.ref (x 1), .ref (x 7), .int (bI (ss_r (ss_may T).2)), .int (bI (ss_f (ss_may T).2)), .int (bI (ss_a T)), .int (ss_n (ss_may T).2), .int (ss_d (ss_may T).2)])), (x 7, .inr (3, [.int (nI (bc)), .int (nI (bp)), .ref (x 8), .ref (x 9), .ref (x 10), .ref (x 11), .int (oN (zl_h (ss_L T))), .int (zl_x (ss_L T)), .int (nI (bc * bp)), .ref (x 12)])), (x 8, .inl (cI, bc * bp, .inl (zl_s (ss_L T)))), (x 9, .inl (cI, bc * bp, .inl (zl_k (ss_L T)))), (x 10, .inl (cI, bc * bp, .inl (zl_d (ss_L T)))), (x 11, .inl (cZ, bc * bp, .inl (bF (zl_m (ss_L T))))), (x 12, .inl (cZ, bc * bp, .inl (bF (zl_w (ss_L T)))))]) rfl (by decide) (by decide) rfl (by decide) rfl (Nat.le_of_ble_eq_true rfl) d_S_clean_144 ?_
                refine z_st (stn := []) rfl ?_
                refine z_aload_n C0 d_S_clean_147 rfl 0 rfl ?_
                refine z_get C0 gf_S_32 0 rfl rfl d_S_clean_148 ?_
                refine z_iload_n C0 d_S_clean_151 rfl 1 rfl ?_
                refine z_detV (As := [.int (nI (g10_2))]) (rest := []) (wsn := zs_W cI cZ x bc bp ((sf_eps (sf_er (zf_e (ss_F T))) ((g10_2 * bp + bp) - (g10_2 * bp)) (g10_2 * bp) (zf_c (ss_F T)), sf_er (zf_e (ss_F T))), (sl_setW (ss_L T) (sl_fb bp g10_2 (zl_w (ss_L T)))), ss_r (ss_may T).2, ss_f (ss_may T).2, ss_a T, ss_n (ss_may T).2, ss_d (ss_may T).2)) C0 (c_L_forgetBlock l D cI cZ x bc bp (ss_L T) hB0 (g10_2) (hb10)) mt_L_forgetBlock ml_S_178 vt_L_forgetBlock rfl rfl ⟨Nat.le_of_ble_eq_true rfl, Nat.le_of_ble_eq_true rfl⟩ ⟨rfl, rfl⟩ ⟨Nat.zero_le _, Nat.zero_le _⟩ rfl [7, 8, 9, 10, 11, 12] [0, 1, 2, 3, 4, 5, 6] [0, 1, 2, 3, 4, 5, 6, 7, 8, 9, 10, 11, 12] rfl (by decide) (wr := [(x 0, .inr (0, [.ref (x 1), .ref (x 7), .int (bI (ss_r (ss_may T).2)), .int (bI (ss_f (ss_may T).2)), .int (bI (ss_a T)), .int (ss_n (ss_may T).2), .int (ss_d (ss_may T).2)])), (x 1, .inr (1, [.int (nI (bc * bp)), .ref (x 6), .ref (x 2), .ref (x 3)])), (x 6, .inl (cI, bc * bp * 6, .inl (sf_eps (sf_er (zf_e (ss_F T))) ((g10_2 * bp + bp) - (g10_2 * bp)) (g10_2 * bp) (zf_c (ss_F T))))), (x 2, .inl (cI, 6, .inl (sf_er (zf_e (ss_F T))))), (x 3, .inr (2, [.ref (x 4), .ref (x 5)])), (x 4, .inl (cI, 178, .inl (zk_R))), (x 5, .inl (cI, 512, .inl (zk_B)))]) rfl (by decide) (by decide) rfl (by decide) rfl (Nat.le_of_ble_eq_true rfl) d_S_clean_152 ?_
                refine z_st (stn := []) rfl ?_
                refine z_iconst (v := 0) C0 d_S_clean_155 (by decide) ?_
                exact z_iret C0 hA hQ hr d_S_clean_156 (by rw [hR, show sk_3 bp g10_2 (sk_s bp 0 i T) = (0, sk_e bp g10_2 (ss_may T).2) from (by show sk_4 bp g10_2 (ss_may T) = _; exact if_pos c132_7), ss_mayE, hsub]; exact ⟨rfl, rfl⟩)
              · skip
                refine z_bipush (v := -2) C0 d_S_clean_135 (by decide) ?_
                exact z_iret C0 hA hQ hr d_S_clean_137 (by rw [hR, show sk_3 bp g10_2 (sk_s bp 0 i T) = (-2, (ss_may T).2) from (by show sk_4 bp g10_2 (ss_may T) = _; exact if_neg (by rw [c132_7]; decide)), ss_mayE]; exact ⟨rfl, rfl⟩)
            · exact absurd c52_6 (by omega)
          | succ n ih =>
            intro i T hi hhT hlT hR
            refine z_iload C0 d_S_clean_49 4 rfl ?_
            refine z_iload_n C0 d_S_clean_51 rfl 3 rfl ?_
            refine z_icmpN_ge (tgt := 128) C0 d_S_clean_52 (by decide) (by omega) (by omega) (fun (c52_8 : g10_2 * bp + bp ≤ i) => ?_) (fun (c52_8 : i < g10_2 * bp + bp) => ?_)
            · exact absurd c52_8 (by omega)
            · skip
              refine z_aload_n C0 d_S_clean_55 rfl 0 rfl ?_
              refine z_get C0 gf_S_32 0 rfl rfl d_S_clean_56 ?_
              refine z_get C0 gf_S_165 7 rfl rfl d_S_clean_59 ?_
              refine z_iload C0 d_S_clean_62 4 rfl ?_
              refine z_zald C0 11 rfl (by omega) (by omega) d_S_clean_64 ?_
              refine z_ifB_eq (tgt := 122) C0 d_S_clean_65 (by decide) (fun (c65_9 : (zl_m (ss_L T)) (i) = false) => ?_) (fun (c65_9 : (zl_m (ss_L T)) (i) = true) => ?_)
              · skip
                refine z_iincN (q := 4) (lvn := [(0, .ref (x 0)), (1, .int (nI (g10_2))), (2, .int (nI (g10_2 * bp))), (3, .int (nI (g10_2 * bp + bp))), (4, .int (nI (i + 1)))]) C0 d_S_clean_122 rfl (by decide) [1, 2, 3, 4, 0] rfl ?_
                refine z_gotoK (tgt := 49) C0 d_S_clean_125 (by decide) ?_
                exact ih (i + 1) (T) (by omega) (hhT) (hlT) (by rw [hR]; show sk_3 bp g10_2 (if zl_m (ss_L T) i = true then _ else _) = _; rw [if_neg (by rw [c65_9]; decide)])
              · skip
                refine z_aload_n C0 d_S_clean_68 rfl 0 rfl ?_
                refine z_get C0 gf_S_23 0 rfl rfl d_S_clean_69 ?_
                refine z_iload C0 d_S_clean_72 4 rfl ?_
                refine z_detV (As := [.int (nI (i))]) (rest := []) (wsn := zs_W cI cZ x bc bp ((zf_c (ss_F T), (sf_rd (zf_c (ss_F T)) (zf_e (ss_F T)) i).2), (ss_L T), ss_r T, ss_f T, ss_a T, ss_n T, ss_d T)) C0 (c_F_readPage l D cI cZ x bc bp (ss_F T) hB0 (i) (by omega) (hlT i (by omega))) mt_F_readPage ml_S_88 vt_F_readPage rfl rfl ⟨Nat.le_of_ble_eq_true rfl, Nat.le_of_ble_eq_true rfl⟩ ⟨rfl, rfl⟩ ⟨Nat.zero_le _, Nat.zero_le _⟩ rfl [1, 2, 3, 4, 5, 6] [0, 7, 8, 9, 10, 11, 12] [0, 7, 8, 9, 10, 11, 12, 1, 2, 3, 4, 5, 6] rfl (by decide) (wr := [(x 0, .inr (0, [.ref (x 1), .ref (x 7), .int (bI (ss_r T)), .int (bI (ss_f T)), .int (bI (ss_a T)), .int (ss_n T), .int (ss_d T)])), (x 7, .inr (3, [.int (nI (bc)), .int (nI (bp)), .ref (x 8), .ref (x 9), .ref (x 10), .ref (x 11), .int (oN (zl_h (ss_L T))), .int (zl_x (ss_L T)), .int (nI (bc * bp)), .ref (x 12)])), (x 8, .inl (cI, bc * bp, .inl (zl_s (ss_L T)))), (x 9, .inl (cI, bc * bp, .inl (zl_k (ss_L T)))), (x 10, .inl (cI, bc * bp, .inl (zl_d (ss_L T)))), (x 11, .inl (cZ, bc * bp, .inl (bF (zl_m (ss_L T))))), (x 12, .inl (cZ, bc * bp, .inl (bF (zl_w (ss_L T)))))]) rfl (by decide) (by decide) rfl (by decide) rfl (Nat.le_of_ble_eq_true rfl) d_S_clean_74 ?_
                refine z_st (stn := [.int (nI ((sf_rd (zf_c (ss_F T)) (zf_e (ss_F T)) i).1))]) rfl ?_
                refine z_pop C0 d_S_clean_77 rfl ?_
                refine z_aload_n C0 d_S_clean_78 rfl 0 rfl ?_
                refine z_aload_n C0 d_S_clean_79 rfl 0 rfl ?_
                refine z_get C0 gf_S_32 0 rfl rfl d_S_clean_80 ?_
                refine z_get C0 gf_S_169 7 rfl rfl d_S_clean_83 ?_
                refine z_iload C0 d_S_clean_86 4 rfl ?_
                refine z_iald C0 8 rfl (by omega) (by omega) d_S_clean_88 ?_
                refine z_aload_n C0 d_S_clean_89 rfl 0 rfl ?_
                refine z_get C0 gf_S_32 0 rfl rfl d_S_clean_90 ?_
                refine z_get C0 gf_S_172 7 rfl rfl d_S_clean_93 ?_
                refine z_iload C0 d_S_clean_96 4 rfl ?_
                refine z_iald C0 9 rfl (by omega) (by omega) d_S_clean_98 ?_
                refine z_aload_n C0 d_S_clean_99 rfl 0 rfl ?_
                refine z_get C0 gf_S_32 0 rfl rfl d_S_clean_100 ?_
                refine z_get C0 gf_S_175 7 rfl rfl d_S_clean_103 ?_
                refine z_iload C0 d_S_clean_106 4 rfl ?_
                refine z_iald C0 10 rfl (by omega) (by omega) d_S_clean_108 ?_
                refine z_allV (As := [.int ((zl_s (ss_L T)) (i)), .int ((zl_k (ss_L T)) (i)), .int ((zl_d (ss_L T)) (i))]) (rest := []) C0 (c_S_writeToHead l D cI cZ x bc bp ((zf_c (ss_F T), (sf_rd (zf_c (ss_F T)) (zf_e (ss_F T)) i).2), (ss_L T), ss_r T, ss_f T, ss_a T, ss_n T, ss_d T) hB0 ((zl_s (ss_L T)) (i)) ((zl_k (ss_L T)) (i)) ((zl_d (ss_L T)) (i)) (hhT)) mt_S_writeToHead ml_S_156 vt_S_writeToHead rfl rfl ⟨Nat.le_of_ble_eq_true rfl, Nat.le_of_ble_eq_true rfl⟩ ⟨rfl, rfl⟩ ⟨Nat.zero_le _, Nat.zero_le _⟩ rfl rfl (Nat.le_of_ble_eq_true rfl) d_S_clean_109 ?_
                refine z_st (stn := [.int ((ss_wr bp ((zf_c (ss_F T), (sf_rd (zf_c (ss_F T)) (zf_e (ss_F T)) i).2), (ss_L T), ss_r T, ss_f T, ss_a T, ss_n T, ss_d T) ((zl_s (ss_L T)) (i)) ((zl_k (ss_L T)) (i)) ((zl_d (ss_L T)) (i))).1)]) rfl ?_
                refine z_istore (lvn := [(0, .ref (x 0)), (1, .int (nI (g10_2))), (2, .int (nI (g10_2 * bp))), (3, .int (nI (g10_2 * bp + bp))), (4, .int (nI (i))), (5, .int ((ss_wr bp ((zf_c (ss_F T), (sf_rd (zf_c (ss_F T)) (zf_e (ss_F T)) i).2), (ss_L T), ss_r T, ss_f T, ss_a T, ss_n T, ss_d T) ((zl_s (ss_L T)) (i)) ((zl_k (ss_L T)) (i)) ((zl_d (ss_L T)) (i))).1))]) C0 d_S_clean_112 (by decide) [1, 2, 3, 4, 5, 0] rfl ?_
                refine z_iload C0 d_S_clean_114 5 rfl ?_
                refine z_if_eq (tgt := 122) C0 d_S_clean_116 (by decide) (fun (c116_10 : (ss_wr bp ((zf_c (ss_F T), (sf_rd (zf_c (ss_F T)) (zf_e (ss_F T)) i).2), (ss_L T), ss_r T, ss_f T, ss_a T, ss_n T, ss_d T) ((zl_s (ss_L T)) (i)) ((zl_k (ss_L T)) (i)) ((zl_d (ss_L T)) (i))).1 = 0) => ?_) (fun (c116_10 : ¬ (ss_wr bp ((zf_c (ss_F T), (sf_rd (zf_c (ss_F T)) (zf_e (ss_F T)) i).2), (ss_L T), ss_r T, ss_f T, ss_a T, ss_n T, ss_d T) ((zl_s (ss_L T)) (i)) ((zl_k (ss_L T)) (i)) ((zl_d (ss_L T)) (i))).1 = 0) => ?_)
                · skip
                  refine z_iincN (q := 4) (lvn := [(0, .ref (x 0)), (1, .int (nI (g10_2))), (2, .int (nI (g10_2 * bp))), (3, .int (nI (g10_2 * bp + bp))), (4, .int (nI (i + 1))), (5, .int ((ss_wr bp ((zf_c (ss_F T), (sf_rd (zf_c (ss_F T)) (zf_e (ss_F T)) i).2), (ss_L T), ss_r T, ss_f T, ss_a T, ss_n T, ss_d T) ((zl_s (ss_L T)) (i)) ((zl_k (ss_L T)) (i)) ((zl_d (ss_L T)) (i))).1))]) C0 d_S_clean_122 rfl (by decide) [1, 2, 3, 4, 0, 5] rfl ?_
                  refine z_gotoK (tgt := 49) C0 d_S_clean_125 (by decide) ?_
                  refine z_lv [0, 1, 2, 3, 4] rfl ?_
                  exact ih (i + 1) (((ss_wr bp ((zf_c (ss_F T), (sf_rd (zf_c (ss_F T)) (zf_e (ss_F T)) i).2), (ss_L T), ss_r T, ss_f T, ss_a T, ss_n T, ss_d T) ((zl_s (ss_L T)) (i)) ((zl_k (ss_L T)) (i)) ((zl_d (ss_L T)) (i))).2)) (by omega) (by rw [wr_hh]; exact hhT) (wr_low _ _ _ hlT (rd_low (hlT i (by omega)))) (by rw [hR]; show sk_3 bp g10_2 (if zl_m (ss_L T) i = true then _ else _) = _; rw [if_pos c65_9]; show sk_3 bp g10_2 (if (sk_w bp T i).1 = 0 then _ else _) = _; rw [if_pos (show (sk_w bp T i).1 = 0 from c116_10)]; rfl)
                · skip
                  refine z_iload C0 d_S_clean_119 5 rfl ?_
                  exact z_iret C0 hA hQ hr d_S_clean_121 (by rw [hR, show sk_3 bp g10_2 (sk_s bp (n + 1) i T) = sk_w bp T i from (by rw [show sk_s bp (n + 1) i T = sk_w bp T i from (by show (if zl_m (ss_L T) i = true then _ else _) = _; rw [if_pos c65_9]; exact if_neg (show ¬ (sk_w bp T i).1 = 0 from c116_10))]; exact if_neg (show ¬ (sk_w bp T i).1 = 0 from c116_10))]; exact ⟨rfl, rfl⟩)
        exact lp49 (bp) (g10_2 * bp) (((ss_F S), (sl_openH bc bp (sl_setM (ss_L S) (sl_mn bc bp (ss_L S))) 1), ss_r S, ss_f S, ss_a S, ss_n S, ss_d S)) (by omega) (openH_ok (L := (sl_setM (ss_L S) (sl_mn bc bp (ss_L S)))) 1 hh) (hlow) (by unfold sk_clean; rw [e10_1]; exact if_neg (by have z := of_decide_eq_true c21_5; show ¬ sl_hg bp (zl_w (sl_openH bc bp (sl_setM (ss_L S) (sl_mn bc bp (ss_L S))) 1)) (zl_h (sl_openH bc bp (sl_setM (ss_L S) (sl_mn bc bp (ss_L S))) 1)) = none; rw [openH_w]; exact z))
      · skip
        refine z_iconst (v := -1) C0 d_S_clean_24 (by decide) ?_
        exact z_iret C0 hA hQ hr d_S_clean_25 (by rw [show sk_clean bc bp S = (-1, ss_setL (sk_m bc bp S) (sl_openH bc bp (sl_setM (ss_L S) (sl_mn bc bp (ss_L S))) 1)) from (by unfold sk_clean; rw [e10_1]; exact if_pos (by have z := of_decide_eq_false c21_5; show sl_hg bp (zl_w (sl_openH bc bp (sl_setM (ss_L S) (sl_mn bc bp (ss_L S))) 1)) (zl_h (sl_openH bc bp (sl_setM (ss_L S) (sl_mn bc bp (ss_L S))) 1)) = none; rw [openH_w]; exact Classical.byContradiction z))]; exact ⟨rfl, rfl⟩)
