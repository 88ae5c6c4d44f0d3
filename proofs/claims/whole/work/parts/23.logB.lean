set_option maxHeartbeats 4000000 in
set_option maxRecDepth 100000 in
theorem c_L_headGap (l : Launch) (D : va_G) (cI cZ : ClassId) (x : Nat → Nat) (bc bp : Nat) (L : zl_S) (hB : zb_ok bc bp)  (hh : zh_ok bc (zl_h L)) : zc_Con l y_L_headGap b_L_headGap 2 (some .int) { frames := 0, cells := 0, slots := 0, locals := 0 } D cI cZ [.ref (x 7)] (zl_W cI cZ x bc bp L) (zo (some (.int (oN (sl_hg bp (zl_w L) (zl_h L))))) (zl_W cI cZ x bc bp L)) := by
  refine zc_start (by decide) (Nat.le_of_ble_eq_true rfl) ?_
  intro p e s m args below meth c A Q hA hQ C0 hr hin
  have C0 : zc_Cx p s m args meth c b_L_headGap 2 R_L D cI cZ A := C0
  have hB0 := hB
  obtain ⟨hB1, hB2, hB3, hB4⟩ := hB
  have hN : bc * bp ≤ 20 := Nat.mul_le_mul hB2 hB4
  refine z_lvs (lvn := [(0, .ref (x 7))]) rfl ?_
  rcases hhd : zl_h L with _ | hd
  · refine z_lvs (lvn := [(0, .ref (x 7))]) (by first | rfl | (rw [hhd]; rfl)) ?_
    refine z_aload_n C0 d_L_headGap_0 rfl 0 rfl ?_
    refine z_get C0 gf_L_42 0 rfl rfl d_L_headGap_1 ?_
    refine z_top (vn := .int (-1)) (by first | rfl | (rw [hhd]; rfl)) ?_
    refine z_iconst (v := -1) C0 d_L_headGap_4 (by decide) ?_
    refine z_icmp_ne (tgt := 10) C0 d_L_headGap_5 (by decide) (fun c5_1 => ?_) (fun c5_1 => ?_)
    · exact absurd rfl c5_1
    · skip
      refine z_iconst (v := -1) C0 d_L_headGap_8 (by decide) ?_
      exact z_iret C0 hA hQ hr d_L_headGap_9 (⟨by rw [hhd]; rfl, rfl⟩)
  · refine z_lvs (lvn := [(0, .ref (x 7))]) (by first | rfl | (rw [hhd]; rfl)) ?_
    have hlt : hd < bc := hh hd hhd
    refine z_aload_n C0 d_L_headGap_0 rfl 0 rfl ?_
    refine z_get C0 gf_L_42 0 rfl rfl d_L_headGap_1 ?_
    refine z_top (vn := .int (nI (hd))) (by first | rfl | (rw [hhd]; rfl)) ?_
    refine z_iconst (v := -1) C0 d_L_headGap_4 (by decide) ?_
    refine z_icmp_ne (tgt := 10) C0 d_L_headGap_5 (by decide) (fun c5_2 => ?_) (fun c5_2 => ?_)
    · skip
      refine z_iconst (v := nI 0) C0 d_L_headGap_10 (by decide) ?_
      refine z_istore_n (lvn := [(0, .ref (x 7)), (1, .int (nI (0)))]) C0 d_L_headGap_11 rfl (by decide) [1, 0] rfl ?_
      have lp12 : ∀ (n : Nat) (i : Nat), (i + n = bp) → (sl_hg bp (zl_w L) (zl_h L) = sl_hgs bp (zl_w L) hd n i) → zc_Pt p l e { frames := 0, cells := 0, slots := 0, locals := 0 } s m args below meth c 2 D A 0 0 Q 12 [(0, .ref (x 7)), (1, .int (nI (i)))] [] (zl_W cI cZ x bc bp L) := by
        intro n
        induction n with
        | zero =>
          intro i hi hR
          refine z_iload_n C0 d_L_headGap_12 rfl 1 rfl ?_
          refine z_aload_n C0 d_L_headGap_13 rfl 0 rfl ?_
          refine z_get C0 gf_L_15 0 rfl rfl d_L_headGap_14 ?_
          refine z_icmpN_ge (tgt := 57) C0 d_L_headGap_17 (by decide) (by omega) (by omega) (fun (c17_3 : bp ≤ i) => ?_) (fun (c17_3 : i < bp) => ?_)
          · skip
            refine z_iconst (v := -1) C0 d_L_headGap_57 (by decide) ?_
            exact z_iret C0 hA hQ hr d_L_headGap_58 (⟨by rw [hR]; rfl, rfl⟩)
          · exact absurd c17_3 (by omega)
        | succ n ih =>
          intro i hi hR
          refine z_iload_n C0 d_L_headGap_12 rfl 1 rfl ?_
          refine z_aload_n C0 d_L_headGap_13 rfl 0 rfl ?_
          refine z_get C0 gf_L_15 0 rfl rfl d_L_headGap_14 ?_
          refine z_icmpN_ge (tgt := 57) C0 d_L_headGap_17 (by decide) (by omega) (by omega) (fun (c17_4 : bp ≤ i) => ?_) (fun (c17_4 : i < bp) => ?_)
          · exact absurd c17_4 (by omega)
          · skip
            refine z_aload_n C0 d_L_headGap_20 rfl 0 rfl ?_
            refine z_get C0 gf_L_31 0 rfl rfl d_L_headGap_21 ?_
            refine z_aload_n C0 d_L_headGap_24 rfl 0 rfl ?_
            refine z_get C0 gf_L_42 0 rfl rfl d_L_headGap_25 ?_
            refine z_top (vn := .int (nI (hd))) (by first | rfl | (rw [hhd]; rfl)) ?_
            refine z_aload_n C0 d_L_headGap_28 rfl 0 rfl ?_
            refine z_get C0 gf_L_15 0 rfl rfl d_L_headGap_29 ?_
            refine z_imulN C0 d_L_headGap_32 ?_
            refine z_iload_n C0 d_L_headGap_33 rfl 1 rfl ?_
            refine z_iaddN C0 d_L_headGap_34 ?_
            refine z_zald C0 5 rfl (zq_ix hlt (by omega)) (by omega) d_L_headGap_35 ?_
            refine z_ifB_ne (tgt := 51) C0 d_L_headGap_36 (by decide) (fun (c36_5 : (zl_w L) (hd * bp + i) = true) => ?_) (fun (c36_5 : (zl_w L) (hd * bp + i) = false) => ?_)
            · skip
              refine z_iincN (q := 1) (lvn := [(0, .ref (x 7)), (1, .int (nI (i + 1)))]) C0 d_L_headGap_51 rfl (by decide) [1, 0] rfl ?_
              refine z_gotoK (tgt := 12) C0 d_L_headGap_54 (by decide) ?_
              exact ih (i + 1) (by omega) (by rw [hR]; simp [sl_hgs, hhd, c17_4, c36_5])
            · skip
              refine z_aload_n C0 d_L_headGap_39 rfl 0 rfl ?_
              refine z_get C0 gf_L_42 0 rfl rfl d_L_headGap_40 ?_
              refine z_top (vn := .int (nI (hd))) (by first | rfl | (rw [hhd]; rfl)) ?_
              refine z_aload_n C0 d_L_headGap_43 rfl 0 rfl ?_
              refine z_get C0 gf_L_15 0 rfl rfl d_L_headGap_44 ?_
              refine z_imulN C0 d_L_headGap_47 ?_
              refine z_iload_n C0 d_L_headGap_48 rfl 1 rfl ?_
              refine z_iaddN C0 d_L_headGap_49 ?_
              exact z_iret C0 hA hQ hr d_L_headGap_50 (⟨by rw [hR]; simp [sl_hgs, hhd, c17_4, c36_5, oN], rfl⟩)
      exact lp12 (bp) (0) (by omega) (by rw [hhd]; rfl)
    · exact absurd c5_2 (nI_m1 (by omega))

set_option maxHeartbeats 4000000 in
set_option maxRecDepth 100000 in
theorem c_L_rank (l : Launch) (D : va_G) (cI cZ : ClassId) (x : Nat → Nat) (bc bp : Nat) (L : zl_S) (hB : zb_ok bc bp) (pg : Nat) (hh : zh_ok bc (zl_h L)) (hp : pg < bc * bp) : zc_Con l y_L_rank b_L_rank 4 (some .long) { frames := 0, cells := 0, slots := 0, locals := 0 } D cI cZ [.ref (x 7), .int (nI (pg))] (zl_W cI cZ x bc bp L) (zo (some (.long (sl_rank bp (zl_h L) (zl_s L) pg))) (zl_W cI cZ x bc bp L)) := by
  refine zc_start (by decide) (Nat.le_of_ble_eq_true rfl) ?_
  intro p e s m args below meth c A Q hA hQ C0 hr hin
  have C0 : zc_Cx p s m args meth c b_L_rank 4 R_L D cI cZ A := C0
  have hB0 := hB
  obtain ⟨hB1, hB2, hB3, hB4⟩ := hB
  have hN : bc * bp ≤ 20 := Nat.mul_le_mul hB2 hB4
  refine z_lvs (lvn := [(0, .ref (x 7)), (1, .int (nI (pg)))]) rfl ?_
  rcases hhd : zl_h L with _ | hd
  · refine z_lvs (lvn := [(0, .ref (x 7)), (1, .int (nI (pg)))]) (by first | rfl | (rw [hhd]; rfl)) ?_
    refine z_aload_n C0 d_L_rank_0 rfl 0 rfl ?_
    refine z_get C0 gf_L_42 0 rfl rfl d_L_rank_1 ?_
    refine z_top (vn := .int (-1)) (by first | rfl | (rw [hhd]; rfl)) ?_
    refine z_aload_n C0 d_L_rank_4 rfl 0 rfl ?_
    refine z_get C0 gf_L_15 0 rfl rfl d_L_rank_5 ?_
    refine z_imul C0 d_L_rank_8 ?_
    refine z_istore_n (lvn := [(0, .ref (x 7)), (1, .int (nI (pg))), (2, .int ((-1) * (nI (bp))))]) C0 d_L_rank_9 rfl (by decide) [1, 2, 0] rfl ?_
    refine z_aload_n C0 d_L_rank_10 rfl 0 rfl ?_
    refine z_get C0 gf_L_42 0 rfl rfl d_L_rank_11 ?_
    refine z_top (vn := .int (-1)) (by first | rfl | (rw [hhd]; rfl)) ?_
    refine z_iconst (v := -1) C0 d_L_rank_14 (by decide) ?_
    refine z_icmp_eq (tgt := 37) C0 d_L_rank_15 (by decide) (fun c15_1 => ?_) (fun c15_1 => ?_)
    · skip
      refine z_iconst (v := nI 0) C0 d_L_rank_37 (by decide) ?_
      refine z_istore_n (lvn := [(0, .ref (x 7)), (1, .int (nI (pg))), (2, .int ((-1) * (nI (bp)))), (3, .int (nI (0)))]) C0 d_L_rank_38 rfl (by decide) [1, 2, 3, 0] rfl ?_
      refine z_ldc2 (v := 2) C0 ck_L_88 d_L_rank_39 ?_
      refine z_aload_n C0 d_L_rank_42 rfl 0 rfl ?_
      refine z_get C0 gf_L_21 0 rfl rfl d_L_rank_43 ?_
      refine z_iload_n C0 d_L_rank_46 rfl 1 rfl ?_
      refine z_iald C0 1 rfl (by omega) (by omega) d_L_rank_47 ?_
      refine z_i2l C0 d_L_rank_48 rfl ?_
      refine z_lmul C0 d_L_rank_49 ?_
      refine z_iload_n C0 d_L_rank_50 rfl 3 rfl ?_
      refine z_ifN_eq (tgt := 58) C0 d_L_rank_51 (by decide) (by omega) (fun c51_2 => ?_) (fun c51_2 => ?_)
      · skip
        refine z_iconst (v := nI 0) C0 d_L_rank_58 (by decide) ?_
        refine z_i2l C0 d_L_rank_59 rfl ?_
        refine z_ladd C0 d_L_rank_60 ?_
        exact z_lret C0 hA hQ hr d_L_rank_61 (⟨by unfold sl_rank; rw [hhd]; rfl, rfl⟩)
      · exact absurd c51_2 (by decide)
    · exact absurd rfl c15_1
  · refine z_lvs (lvn := [(0, .ref (x 7)), (1, .int (nI (pg)))]) (by first | rfl | (rw [hhd]; rfl)) ?_
    have hlt : hd < bc := hh hd hhd
    have hle := zq_blk (bp := bp) hlt
    refine z_aload_n C0 d_L_rank_0 rfl 0 rfl ?_
    refine z_get C0 gf_L_42 0 rfl rfl d_L_rank_1 ?_
    refine z_top (vn := .int (nI (hd))) (by first | rfl | (rw [hhd]; rfl)) ?_
    refine z_aload_n C0 d_L_rank_4 rfl 0 rfl ?_
    refine z_get C0 gf_L_15 0 rfl rfl d_L_rank_5 ?_
    refine z_imulN C0 d_L_rank_8 ?_
    refine z_istore_n (lvn := [(0, .ref (x 7)), (1, .int (nI (pg))), (2, .int (nI (hd * bp)))]) C0 d_L_rank_9 rfl (by decide) [1, 2, 0] rfl ?_
    refine z_aload_n C0 d_L_rank_10 rfl 0 rfl ?_
    refine z_get C0 gf_L_42 0 rfl rfl d_L_rank_11 ?_
    refine z_top (vn := .int (nI (hd))) (by first | rfl | (rw [hhd]; rfl)) ?_
    refine z_iconst (v := -1) C0 d_L_rank_14 (by decide) ?_
    refine z_icmp_eq (tgt := 37) C0 d_L_rank_15 (by decide) (fun c15_3 => ?_) (fun c15_3 => ?_)
    · exact absurd c15_3 (nI_m1 (by omega))
    · skip
      refine z_iload_n C0 d_L_rank_18 rfl 1 rfl ?_
      refine z_iload_n C0 d_L_rank_19 rfl 2 rfl ?_
      refine z_icmpN_lt (tgt := 37) C0 d_L_rank_20 (by decide) (by omega) (by omega) (fun (c20_4 : pg < hd * bp) => ?_) (fun (c20_4 : hd * bp ≤ pg) => ?_)
      · skip
        refine z_iconst (v := nI 0) C0 d_L_rank_37 (by decide) ?_
        refine z_istore_n (lvn := [(0, .ref (x 7)), (1, .int (nI (pg))), (2, .int (nI (hd * bp))), (3, .int (nI (0)))]) C0 d_L_rank_38 rfl (by decide) [1, 2, 3, 0] rfl ?_
        refine z_ldc2 (v := 2) C0 ck_L_88 d_L_rank_39 ?_
        refine z_aload_n C0 d_L_rank_42 rfl 0 rfl ?_
        refine z_get C0 gf_L_21 0 rfl rfl d_L_rank_43 ?_
        refine z_iload_n C0 d_L_rank_46 rfl 1 rfl ?_
        refine z_iald C0 1 rfl (by omega) (by omega) d_L_rank_47 ?_
        refine z_i2l C0 d_L_rank_48 rfl ?_
        refine z_lmul C0 d_L_rank_49 ?_
        refine z_iload_n C0 d_L_rank_50 rfl 3 rfl ?_
        refine z_ifN_eq (tgt := 58) C0 d_L_rank_51 (by decide) (by omega) (fun c51_5 => ?_) (fun c51_5 => ?_)
        · skip
          refine z_iconst (v := nI 0) C0 d_L_rank_58 (by decide) ?_
          refine z_i2l C0 d_L_rank_59 rfl ?_
          refine z_ladd C0 d_L_rank_60 ?_
          exact z_lret C0 hA hQ hr d_L_rank_61 (⟨by unfold sl_rank; rw [hhd, show sl_in bp pg (some hd) = false by (simp only [sl_in, Bool.and_eq_false_iff, Bool.and_eq_true, decide_eq_true_eq, decide_eq_false_iff_not]; omega)]; rfl, rfl⟩)
        · exact absurd c51_5 (by decide)
      · skip
        refine z_iload_n C0 d_L_rank_23 rfl 1 rfl ?_
        refine z_iload_n C0 d_L_rank_24 rfl 2 rfl ?_
        refine z_aload_n C0 d_L_rank_25 rfl 0 rfl ?_
        refine z_get C0 gf_L_15 0 rfl rfl d_L_rank_26 ?_
        refine z_iaddN C0 d_L_rank_29 ?_
        refine z_icmpN_ge (tgt := 37) C0 d_L_rank_30 (by decide) (by omega) (by omega) (fun (c30_6 : hd * bp + bp ≤ pg) => ?_) (fun (c30_6 : pg < hd * bp + bp) => ?_)
        · skip
          refine z_iconst (v := nI 0) C0 d_L_rank_37 (by decide) ?_
          refine z_istore_n (lvn := [(0, .ref (x 7)), (1, .int (nI (pg))), (2, .int (nI (hd * bp))), (3, .int (nI (0)))]) C0 d_L_rank_38 rfl (by decide) [1, 2, 3, 0] rfl ?_
          refine z_ldc2 (v := 2) C0 ck_L_88 d_L_rank_39 ?_
          refine z_aload_n C0 d_L_rank_42 rfl 0 rfl ?_
          refine z_get C0 gf_L_21 0 rfl rfl d_L_rank_43 ?_
          refine z_iload_n C0 d_L_rank_46 rfl 1 rfl ?_
          refine z_iald C0 1 rfl (by omega) (by omega) d_L_rank_47 ?_
          refine z_i2l C0 d_L_rank_48 rfl ?_
          refine z_lmul C0 d_L_rank_49 ?_
          refine z_iload_n C0 d_L_rank_50 rfl 3 rfl ?_
          refine z_ifN_eq (tgt := 58) C0 d_L_rank_51 (by decide) (by omega) (fun c51_7 => ?_) (fun c51_7 => ?_)
          · skip
            refine z_iconst (v := nI 0) C0 d_L_rank_58 (by decide) ?_
            refine z_i2l C0 d_L_rank_59 rfl ?_
            refine z_ladd C0 d_L_rank_60 ?_
            exact z_lret C0 hA hQ hr d_L_rank_61 (⟨by unfold sl_rank; rw [hhd, show sl_in bp pg (some hd) = false by (simp only [sl_in, Bool.and_eq_false_iff, Bool.and_eq_true, decide_eq_true_eq, decide_eq_false_iff_not]; omega)]; rfl, rfl⟩)
          · exact absurd c51_7 (by decide)
        · skip
          refine z_iconst (v := nI 1) C0 d_L_rank_33 (by decide) ?_
          refine z_gotoK (tgt := 38) C0 d_L_rank_34 (by decide) ?_
          refine z_istore_n (lvn := [(0, .ref (x 7)), (1, .int (nI (pg))), (2, .int (nI (hd * bp))), (3, .int (nI (1)))]) C0 d_L_rank_38 rfl (by decide) [1, 2, 3, 0] rfl ?_
          refine z_ldc2 (v := 2) C0 ck_L_88 d_L_rank_39 ?_
          refine z_aload_n C0 d_L_rank_42 rfl 0 rfl ?_
          refine z_get C0 gf_L_21 0 rfl rfl d_L_rank_43 ?_
          refine z_iload_n C0 d_L_rank_46 rfl 1 rfl ?_
          refine z_iald C0 1 rfl (by omega) (by omega) d_L_rank_47 ?_
          refine z_i2l C0 d_L_rank_48 rfl ?_
          refine z_lmul C0 d_L_rank_49 ?_
          refine z_iload_n C0 d_L_rank_50 rfl 3 rfl ?_
          refine z_ifN_eq (tgt := 58) C0 d_L_rank_51 (by decide) (by omega) (fun c51_8 => ?_) (fun c51_8 => ?_)
          · exact absurd c51_8 (by decide)
          · skip
            refine z_iconst (v := nI 1) C0 d_L_rank_54 (by decide) ?_
            refine z_gotoK (tgt := 59) C0 d_L_rank_55 (by decide) ?_
            refine z_i2l C0 d_L_rank_59 rfl ?_
            refine z_ladd C0 d_L_rank_60 ?_
            exact z_lret C0 hA hQ hr d_L_rank_61 (⟨by unfold sl_rank; rw [hhd, show sl_in bp pg (some hd) = true by (simp only [sl_in, Bool.and_eq_false_iff, Bool.and_eq_true, decide_eq_true_eq, decide_eq_false_iff_not]; omega)]; rfl, rfl⟩)

set_option maxHeartbeats 4000000 in
set_option maxRecDepth 100000 in
theorem c_L_hasOther (l : Launch) (D : va_G) (cI cZ : ClassId) (x : Nat → Nat) (bc bp : Nat) (L : zl_S) (hB : zb_ok bc bp) (pg : Nat) (hp : pg < bc * bp) : zc_Con l y_L_hasOther b_L_hasOther 3 (some .boolean) { frames := 0, cells := 0, slots := 0, locals := 0 } D cI cZ [.ref (x 7), .int (nI (pg))] (zl_W cI cZ x bc bp L) (zo (some (.int (bI (sl_oths (zl_w L) (zl_k L) pg (bc * bp) 0)))) (zl_W cI cZ x bc bp L)) := by
  refine zc_start (by decide) (Nat.le_of_ble_eq_true rfl) ?_
  intro p e s m args below meth c A Q hA hQ C0 hr hin
  have C0 : zc_Cx p s m args meth c b_L_hasOther 3 R_L D cI cZ A := C0
  have hB0 := hB
  obtain ⟨hB1, hB2, hB3, hB4⟩ := hB
  have hN : bc * bp ≤ 20 := Nat.mul_le_mul hB2 hB4
  refine z_lvs (lvn := [(0, .ref (x 7)), (1, .int (nI (pg)))]) rfl ?_
  refine z_iconst (v := nI 0) C0 d_L_hasOther_0 (by decide) ?_
  refine z_istore_n (lvn := [(0, .ref (x 7)), (1, .int (nI (pg))), (2, .int (nI (0)))]) C0 d_L_hasOther_1 rfl (by decide) [1, 2, 0] rfl ?_
  have lp2 : ∀ (n : Nat) (i : Nat), (i + n = bc * bp) → (sl_oths (zl_w L) (zl_k L) pg (bc * bp) 0 = sl_oths (zl_w L) (zl_k L) pg n i) → zc_Pt p l e { frames := 0, cells := 0, slots := 0, locals := 0 } s m args below meth c 3 D A 0 0 Q 2 [(0, .ref (x 7)), (1, .int (nI (pg))), (2, .int (nI (i)))] [] (zl_W cI cZ x bc bp L) := by
    intro n
    induction n with
    | zero =>
      intro i hi hR
      refine z_iload_n C0 d_L_hasOther_2 rfl 2 rfl ?_
      refine z_aload_n C0 d_L_hasOther_3 rfl 0 rfl ?_
      refine z_get C0 gf_L_18 0 rfl rfl d_L_hasOther_4 ?_
      refine z_icmpN_ge (tgt := 47) C0 d_L_hasOther_7 (by decide) (by omega) (by omega) (fun (c7_1 : bc * bp ≤ i) => ?_) (fun (c7_1 : i < bc * bp) => ?_)
      · skip
        refine z_iconst (v := nI 0) C0 d_L_hasOther_47 (by decide) ?_
        refine z_topi (x := nI 0) (xn := bI false) (by decide) ?_
        exact z_zret C0 hA hQ hr d_L_hasOther_48 (⟨by rw [hR]; rfl, rfl⟩)
      · exact absurd c7_1 (by omega)
    | succ n ih =>
      intro i hi hR
      refine z_iload_n C0 d_L_hasOther_2 rfl 2 rfl ?_
      refine z_aload_n C0 d_L_hasOther_3 rfl 0 rfl ?_
      refine z_get C0 gf_L_18 0 rfl rfl d_L_hasOther_4 ?_
      refine z_icmpN_ge (tgt := 47) C0 d_L_hasOther_7 (by decide) (by omega) (by omega) (fun (c7_2 : bc * bp ≤ i) => ?_) (fun (c7_2 : i < bc * bp) => ?_)
      · exact absurd c7_2 (by omega)
      · skip
        refine z_iload_n C0 d_L_hasOther_10 rfl 2 rfl ?_
        refine z_iload_n C0 d_L_hasOther_11 rfl 1 rfl ?_
        refine z_icmpN_eq (tgt := 41) C0 d_L_hasOther_12 (by decide) (by omega) (by omega) (fun (c12_3 : i = pg) => ?_) (fun (c12_3 : i ≠ pg) => ?_)
        · skip
          refine z_iincN (q := 2) (lvn := [(0, .ref (x 7)), (1, .int (nI (pg))), (2, .int (nI (i + 1)))]) C0 d_L_hasOther_41 rfl (by decide) [1, 2, 0] rfl ?_
          refine z_gotoK (tgt := 2) C0 d_L_hasOther_44 (by decide) ?_
          exact ih (i + 1) (by omega) (by rw [hR]; simp [sl_oths, c7_2, c12_3])
        · skip
          refine z_aload_n C0 d_L_hasOther_15 rfl 0 rfl ?_
          refine z_get C0 gf_L_31 0 rfl rfl d_L_hasOther_16 ?_
          refine z_iload_n C0 d_L_hasOther_19 rfl 2 rfl ?_
          refine z_zald C0 5 rfl (by omega) (by omega) d_L_hasOther_20 ?_
          refine z_ifB_eq (tgt := 41) C0 d_L_hasOther_21 (by decide) (fun (c21_4 : (zl_w L) (i) = false) => ?_) (fun (c21_4 : (zl_w L) (i) = true) => ?_)
          · skip
            refine z_iincN (q := 2) (lvn := [(0, .ref (x 7)), (1, .int (nI (pg))), (2, .int (nI (i + 1)))]) C0 d_L_hasOther_41 rfl (by decide) [1, 2, 0] rfl ?_
            refine z_gotoK (tgt := 2) C0 d_L_hasOther_44 (by decide) ?_
            exact ih (i + 1) (by omega) (by rw [hR]; simp [sl_oths, c7_2, c12_3, c21_4])
          · skip
            refine z_aload_n C0 d_L_hasOther_24 rfl 0 rfl ?_
            refine z_get C0 gf_L_25 0 rfl rfl d_L_hasOther_25 ?_
            refine z_iload_n C0 d_L_hasOther_28 rfl 2 rfl ?_
            refine z_iald C0 2 rfl (by omega) (by omega) d_L_hasOther_29 ?_
            refine z_aload_n C0 d_L_hasOther_30 rfl 0 rfl ?_
            refine z_get C0 gf_L_25 0 rfl rfl d_L_hasOther_31 ?_
            refine z_iload_n C0 d_L_hasOther_34 rfl 1 rfl ?_
            refine z_iald C0 2 rfl (by omega) (by omega) d_L_hasOther_35 ?_
            refine z_icmp_ne (tgt := 41) C0 d_L_hasOther_36 (by decide) (fun (c36_5 : ¬ ((zl_k L) (i)) = ((zl_k L) (pg))) => ?_) (fun (c36_5 : ((zl_k L) (i)) = ((zl_k L) (pg))) => ?_)
            · skip
              refine z_iincN (q := 2) (lvn := [(0, .ref (x 7)), (1, .int (nI (pg))), (2, .int (nI (i + 1)))]) C0 d_L_hasOther_41 rfl (by decide) [1, 2, 0] rfl ?_
              refine z_gotoK (tgt := 2) C0 d_L_hasOther_44 (by decide) ?_
              exact ih (i + 1) (by omega) (by rw [hR]; simp [sl_oths, c7_2, c12_3, c21_4, c36_5])
            · skip
              refine z_iconst (v := nI 1) C0 d_L_hasOther_39 (by decide) ?_
              refine z_topi (x := nI 1) (xn := bI true) (by decide) ?_
              exact z_zret C0 hA hQ hr d_L_hasOther_40 (⟨by rw [hR]; simp [sl_oths, c7_2, c12_3, c21_4, c36_5], rfl⟩)
  exact lp2 (bc * bp) (0) (by omega) (rfl)

set_option maxHeartbeats 4000000 in
set_option maxRecDepth 100000 in
theorem c_L_findHead (l : Launch) (D : va_G) (cI cZ : ClassId) (x : Nat → Nat) (bc bp : Nat) (L : zl_S) (hB : zb_ok bc bp)   : zc_Con l y_L_findHead b_L_findHead 2 none { frames := 2, cells := 0, slots := 0, locals := 44 } D cI cZ [.ref (x 7)] (zl_W cI cZ x bc bp L) (zo none (zl_W cI cZ x bc bp (sl_setH L (sl_fhs bp (zl_w L) bc none)))) := by
  refine zc_start (by decide) (Nat.le_of_ble_eq_true rfl) ?_
  intro p e s m args below meth c A Q hA hQ C0 hr hin
  have C0 : zc_Cx p s m args meth c b_L_findHead 2 R_L D cI cZ A := C0
  have hB0 := hB
  obtain ⟨hB1, hB2, hB3, hB4⟩ := hB
  have hN : bc * bp ≤ 20 := Nat.mul_le_mul hB2 hB4
  refine z_lvs (lvn := [(0, .ref (x 7))]) rfl ?_
  refine z_aload_n C0 d_L_findHead_0 rfl 0 rfl ?_
  refine z_iconst (v := -1) C0 d_L_findHead_1 (by decide) ?_
  refine z_topi (x := -1) (xn := oN none) rfl ?_
  refine z_put C0 gf_L_42 pf_L_6 0 rfl rfl rfl (Nat.le_of_ble_eq_true rfl) d_L_findHead_2 ?_
  refine z_aload_n C0 d_L_findHead_5 rfl 0 rfl ?_
  refine z_get C0 gf_L_9 0 rfl rfl d_L_findHead_6 ?_
  refine z_iconst (v := 1) C0 d_L_findHead_9 (by decide) ?_
  refine z_isub C0 d_L_findHead_10 ?_
  refine z_istore_n (lvn := [(0, .ref (x 7)), (1, .int ((nI (bc)) - 1))]) C0 d_L_findHead_11 rfl (by decide) [1, 0] rfl ?_
  have lp12 : ∀ (n : Nat) (h : Option Nat), (n ≤ bc) → (sl_fhs bp (zl_w L) bc none = sl_fhs bp (zl_w L) n h) → zc_Pt p l e { frames := 2, cells := 0, slots := 0, locals := 44 } s m args below meth c 2 D A 0 0 Q 12 [(0, .ref (x 7)), (1, .int (nI n - 1))] [] (zl_W cI cZ x bc bp (zl_w L, zl_m L, zl_s L, zl_k L, zl_d L, h, zl_x L)) := by
    intro n
    induction n with
    | zero =>
      intro h hi hR
      refine z_lvs (lvn := [(0, .ref (x 7)), (1, .int (-1))]) (by rw [show nI 0 - 1 = (-1 : Int32) by decide]) ?_
      refine z_iload_n C0 d_L_findHead_12 rfl 1 rfl ?_
      refine z_if_lt (tgt := 43) C0 d_L_findHead_13 (by decide) (fun c13_1 => ?_) (fun c13_1 => ?_)
      · skip
        exact z_vret C0 hA hQ hr d_L_findHead_43 (⟨rfl, by rw [hR]; rfl⟩)
      · exact absurd (by decide) c13_1
    | succ n ih =>
      intro h hi hR
      refine z_lvs (lvn := [(0, .ref (x 7)), (1, .int (nI (n)))]) (by rw [nI_pred]) ?_
      refine z_iload_n C0 d_L_findHead_12 rfl 1 rfl ?_
      refine z_if_lt (tgt := 43) C0 d_L_findHead_13 (by decide) (fun c13_2 => ?_) (fun c13_2 => ?_)
      · exact absurd c13_2 (nI_pos (by omega))
      · skip
        refine z_aload_n C0 d_L_findHead_16 rfl 0 rfl ?_
        refine z_iload_n C0 d_L_findHead_17 rfl 1 rfl ?_
        refine z_allV (As := [.int (nI (n))]) (rest := []) C0 (c_L_isFree l D cI cZ x bc bp (zl_w L, zl_m L, zl_s L, zl_k L, zl_d L, h, zl_x L) hB0 (n) (by omega)) mt_L_isFree ml_L_48 vt_L_isFree rfl rfl ⟨Nat.le_of_ble_eq_true rfl, Nat.le_of_ble_eq_true rfl⟩ ⟨rfl, rfl⟩ ⟨Nat.zero_le _, Nat.zero_le _⟩ rfl rfl (Nat.le_of_ble_eq_true rfl) d_L_findHead_18 ?_
        refine z_st (stn := [.int (bI (sl_free bp (zl_w L) (n)))]) rfl ?_
        refine z_ifB_ne (tgt := 37) C0 d_L_findHead_21 (by decide) (fun (c21_3 : sl_free bp (zl_w L) (n) = true) => ?_) (fun (c21_3 : sl_free bp (zl_w L) (n) = false) => ?_)
        · skip
          refine z_iinc (q := 1) (lvn := [(0, .ref (x 7)), (1, .int (nI (n) - 1))]) C0 d_L_findHead_37 rfl (i_dec _) (by decide) [1, 0] rfl ?_
          refine z_gotoK (tgt := 12) C0 d_L_findHead_40 (by decide) ?_
          exact ih (h) (by omega) (by rw [hR]; simp [sl_fhs, c21_3])
        · skip
          refine z_aload_n C0 d_L_findHead_24 rfl 0 rfl ?_
          refine z_iload_n C0 d_L_findHead_25 rfl 1 rfl ?_
          refine z_allV (As := [.int (nI (n))]) (rest := []) C0 (c_L_gaps l D cI cZ x bc bp (zl_w L, zl_m L, zl_s L, zl_k L, zl_d L, h, zl_x L) hB0 (n) (by omega)) mt_L_gaps ml_L_52 vt_L_gaps rfl rfl ⟨Nat.le_of_ble_eq_true rfl, Nat.le_of_ble_eq_true rfl⟩ ⟨rfl, rfl⟩ ⟨Nat.zero_le _, Nat.zero_le _⟩ rfl rfl (Nat.le_of_ble_eq_true rfl) d_L_findHead_26 ?_
          refine z_st (stn := [.int (nI (sl_gap bp (zl_w L) (n)))]) rfl ?_
          refine z_ifN_le (tgt := 37) C0 d_L_findHead_29 (by decide) (Nat.lt_of_le_of_lt (zq_gapLe _ _ _) (by omega)) (fun c29_4 => ?_) (fun c29_4 => ?_)
          · skip
            refine z_iinc (q := 1) (lvn := [(0, .ref (x 7)), (1, .int (nI (n) - 1))]) C0 d_L_findHead_37 rfl (i_dec _) (by decide) [1, 0] rfl ?_
            refine z_gotoK (tgt := 12) C0 d_L_findHead_40 (by decide) ?_
            exact ih (h) (by omega) (by rw [hR]; simp [sl_fhs, c21_3, c29_4])
          · skip
            refine z_aload_n C0 d_L_findHead_32 rfl 0 rfl ?_
            refine z_iload_n C0 d_L_findHead_33 rfl 1 rfl ?_
            refine z_topi (x := nI (n)) (xn := oN (some (n))) rfl ?_
            refine z_put C0 gf_L_42 pf_L_6 0 rfl rfl rfl (Nat.le_of_ble_eq_true rfl) d_L_findHead_34 ?_
            refine z_iinc (q := 1) (lvn := [(0, .ref (x 7)), (1, .int (nI (n) - 1))]) C0 d_L_findHead_37 rfl (i_dec _) (by decide) [1, 0] rfl ?_
            refine z_gotoK (tgt := 12) C0 d_L_findHead_40 (by decide) ?_
            refine z_ws (wsn := zl_W cI cZ x bc bp (zl_w L, zl_m L, zl_s L, zl_k L, zl_d L, some (n), zl_x L)) rfl ?_
            exact ih (some (n)) (by omega) (by rw [hR]; simp [sl_fhs, c21_3, c29_4])
  refine z_ws (wsn := zl_W cI cZ x bc bp (zl_w L, zl_m L, zl_s L, zl_k L, zl_d L, none, zl_x L)) rfl ?_
  exact lp12 (bc) (none) (by omega) (rfl)

set_option maxHeartbeats 4000000 in
set_option maxRecDepth 100000 in
theorem c_L_latest (l : Launch) (D : va_G) (cI cZ : ClassId) (x : Nat → Nat) (bc bp : Nat) (L : zl_S) (hB : zb_ok bc bp) (kv : Int32) (hh : zh_ok bc (zl_h L)) : zc_Con l y_L_latest b_L_latest 4 (some .int) { frames := 1, cells := 0, slots := 0, locals := 23 } D cI cZ [.ref (x 7), .int (kv)] (zl_W cI cZ x bc bp L) (zo (some (.int (oN (sl_lat bc bp L kv)))) (zl_W cI cZ x bc bp L)) := by
  refine zc_start (by decide) (Nat.le_of_ble_eq_true rfl) ?_
  intro p e s m args below meth c A Q hA hQ C0 hr hin
  have C0 : zc_Cx p s m args meth c b_L_latest 4 R_L D cI cZ A := C0
  have hB0 := hB
  obtain ⟨hB1, hB2, hB3, hB4⟩ := hB
  have hN : bc * bp ≤ 20 := Nat.mul_le_mul hB2 hB4
  refine z_lvs (lvn := [(0, .ref (x 7)), (1, .int (kv))]) rfl ?_
  refine z_iconst (v := -1) C0 d_L_latest_0 (by decide) ?_
  refine z_istore_n (lvn := [(0, .ref (x 7)), (1, .int (kv)), (2, .int (-1))]) C0 d_L_latest_1 rfl (by decide) [1, 2, 0] rfl ?_
  refine z_iconst (v := nI 0) C0 d_L_latest_2 (by decide) ?_
  refine z_istore_n (lvn := [(0, .ref (x 7)), (1, .int (kv)), (2, .int (-1)), (3, .int (nI (0)))]) C0 d_L_latest_3 rfl (by decide) [1, 2, 3, 0] rfl ?_
  have lp4 : ∀ (n : Nat) (i : Nat) (best : Option Nat), (i + n = bc * bp) → (∀ q, best = some q → q < i) → (sl_lat bc bp L kv = sl_lats bp (zl_h L) (zl_w L) (zl_s L) (zl_k L) kv n i best) → zc_Pt p l e { frames := 1, cells := 0, slots := 0, locals := 23 } s m args below meth c 4 D A 0 0 Q 4 [(0, .ref (x 7)), (1, .int (kv)), (2, .int (oN (best))), (3, .int (nI (i)))] [] (zl_W cI cZ x bc bp L) := by
    intro n
    induction n with
    | zero =>
      intro i best hi hb hR
      refine z_iload_n C0 d_L_latest_4 rfl 3 rfl ?_
      refine z_aload_n C0 d_L_latest_5 rfl 0 rfl ?_
      refine z_get C0 gf_L_18 0 rfl rfl d_L_latest_6 ?_
      refine z_icmpN_ge (tgt := 58) C0 d_L_latest_9 (by decide) (by omega) (by omega) (fun (c9_1 : bc * bp ≤ i) => ?_) (fun (c9_1 : i < bc * bp) => ?_)
      · skip
        refine z_iload_n C0 d_L_latest_58 rfl 2 rfl ?_
        exact z_iret C0 hA hQ hr d_L_latest_59 (⟨by rw [hR]; rfl, rfl⟩)
      · exact absurd c9_1 (by omega)
    | succ n ih =>
      intro i best hi hb hR
      refine z_iload_n C0 d_L_latest_4 rfl 3 rfl ?_
      refine z_aload_n C0 d_L_latest_5 rfl 0 rfl ?_
      refine z_get C0 gf_L_18 0 rfl rfl d_L_latest_6 ?_
      refine z_icmpN_ge (tgt := 58) C0 d_L_latest_9 (by decide) (by omega) (by omega) (fun (c9_2 : bc * bp ≤ i) => ?_) (fun (c9_2 : i < bc * bp) => ?_)
      · exact absurd c9_2 (by omega)
      · skip
        refine z_aload_n C0 d_L_latest_12 rfl 0 rfl ?_
        refine z_get C0 gf_L_31 0 rfl rfl d_L_latest_13 ?_
        refine z_iload_n C0 d_L_latest_16 rfl 3 rfl ?_
        refine z_zald C0 5 rfl (by omega) (by omega) d_L_latest_17 ?_
        refine z_ifB_eq (tgt := 52) C0 d_L_latest_18 (by decide) (fun (c18_3 : (zl_w L) (i) = false) => ?_) (fun (c18_3 : (zl_w L) (i) = true) => ?_)
        · skip
          refine z_iincN (q := 3) (lvn := [(0, .ref (x 7)), (1, .int (kv)), (2, .int (oN (best))), (3, .int (nI (i + 1)))]) C0 d_L_latest_52 rfl (by decide) [1, 2, 3, 0] rfl ?_
          refine z_gotoK (tgt := 4) C0 d_L_latest_55 (by decide) ?_
          exact ih (i + 1) (best) (by omega) (fun q h => by have := hb q h; omega) (by rw [hR]; simp [sl_lats, sl_better, c9_2, c18_3])
        · skip
          refine z_aload_n C0 d_L_latest_21 rfl 0 rfl ?_
          refine z_get C0 gf_L_25 0 rfl rfl d_L_latest_22 ?_
          refine z_iload_n C0 d_L_latest_25 rfl 3 rfl ?_
          refine z_iald C0 2 rfl (by omega) (by omega) d_L_latest_26 ?_
          refine z_iload_n C0 d_L_latest_27 rfl 1 rfl ?_
          refine z_icmp_ne (tgt := 52) C0 d_L_latest_28 (by decide) (fun (c28_4 : ¬ ((zl_k L) (i)) = kv) => ?_) (fun (c28_4 : ((zl_k L) (i)) = kv) => ?_)
          · skip
            refine z_iincN (q := 3) (lvn := [(0, .ref (x 7)), (1, .int (kv)), (2, .int (oN (best))), (3, .int (nI (i + 1)))]) C0 d_L_latest_52 rfl (by decide) [1, 2, 3, 0] rfl ?_
            refine z_gotoK (tgt := 4) C0 d_L_latest_55 (by decide) ?_
            exact ih (i + 1) (best) (by omega) (fun q h => by have := hb q h; omega) (by rw [hR]; simp [sl_lats, sl_better, c9_2, c18_3, c28_4])
          · skip
            rcases best with _ | q0
            · refine z_lvs (lvn := [(0, .ref (x 7)), (1, .int (kv)), (2, .int (-1)), (3, .int (nI (i)))]) rfl ?_
              refine z_iload_n C0 d_L_latest_31 rfl 2 rfl ?_
              refine z_iconst (v := -1) C0 d_L_latest_32 (by decide) ?_
              refine z_icmp_eq (tgt := 50) C0 d_L_latest_33 (by decide) (fun c33_5 => ?_) (fun c33_5 => ?_)
              · skip
                refine z_iload_n C0 d_L_latest_50 rfl 3 rfl ?_
                refine z_istore_n (lvn := [(0, .ref (x 7)), (1, .int (kv)), (2, .int (nI (i))), (3, .int (nI (i)))]) C0 d_L_latest_51 rfl (by decide) [1, 2, 0, 3] rfl ?_
                refine z_iincN (q := 3) (lvn := [(0, .ref (x 7)), (1, .int (kv)), (2, .int (nI (i))), (3, .int (nI (i + 1)))]) C0 d_L_latest_52 rfl (by decide) [1, 2, 3, 0] rfl ?_
                refine z_gotoK (tgt := 4) C0 d_L_latest_55 (by decide) ?_
                exact ih (i + 1) (some (i)) (by omega) (fun q h => by cases h; omega) (by rw [hR]; simp [sl_lats, sl_better, c9_2, c18_3, c28_4])
              · exact absurd rfl c33_5
            · refine z_lvs (lvn := [(0, .ref (x 7)), (1, .int (kv)), (2, .int (nI (q0))), (3, .int (nI (i)))]) rfl ?_
              have hq0 := hb q0 rfl
              refine z_iload_n C0 d_L_latest_31 rfl 2 rfl ?_
              refine z_iconst (v := -1) C0 d_L_latest_32 (by decide) ?_
              refine z_icmp_eq (tgt := 50) C0 d_L_latest_33 (by decide) (fun c33_6 => ?_) (fun c33_6 => ?_)
              · exact absurd c33_6 (nI_m1 (by omega))
              · skip
                refine z_aload_n C0 d_L_latest_36 rfl 0 rfl ?_
                refine z_iload_n C0 d_L_latest_37 rfl 3 rfl ?_
                refine z_allV (As := [.int (nI (i))]) (rest := []) C0 (c_L_rank l D cI cZ x bc bp L hB0 (i) (hh) (by omega)) mt_L_rank ml_L_62 vt_L_rank rfl rfl ⟨Nat.le_of_ble_eq_true rfl, Nat.le_of_ble_eq_true rfl⟩ ⟨rfl, rfl⟩ ⟨Nat.zero_le _, Nat.zero_le _⟩ rfl rfl (Nat.le_of_ble_eq_true rfl) d_L_latest_38 ?_
                refine z_st (stn := [.long (sl_rank bp (zl_h L) (zl_s L) (i))]) rfl ?_
                refine z_aload_n C0 d_L_latest_41 rfl 0 rfl ?_
                refine z_iload_n C0 d_L_latest_42 rfl 2 rfl ?_
                refine z_allV (As := [.int (nI (q0))]) (rest := [.long (sl_rank bp (zl_h L) (zl_s L) (i))]) C0 (c_L_rank l D cI cZ x bc bp L hB0 (q0) (hh) (by omega)) mt_L_rank ml_L_62 vt_L_rank rfl rfl ⟨Nat.le_of_ble_eq_true rfl, Nat.le_of_ble_eq_true rfl⟩ ⟨rfl, rfl⟩ ⟨Nat.zero_le _, Nat.zero_le _⟩ rfl rfl (Nat.le_of_ble_eq_true rfl) d_L_latest_43 ?_
                refine z_st (stn := [.long (sl_rank bp (zl_h L) (zl_s L) (q0)), .long (sl_rank bp (zl_h L) (zl_s L) (i))]) rfl ?_
                refine z_lcmp C0 d_L_latest_46 ?_
                refine z_if_le (tgt := 52) C0 d_L_latest_47 (by decide) (fun c47_7 => ?_) (fun c47_7 => ?_)
                · skip
                  refine z_iincN (q := 3) (lvn := [(0, .ref (x 7)), (1, .int (kv)), (2, .int (nI (q0))), (3, .int (nI (i + 1)))]) C0 d_L_latest_52 rfl (by decide) [1, 2, 3, 0] rfl ?_
                  refine z_gotoK (tgt := 4) C0 d_L_latest_55 (by decide) ?_
                  exact ih (i + 1) (some (q0)) (by omega) (fun q h => by cases h; omega) (by rw [hR]; have z := c47_7; simp only [lg_cmp_le] at z; simp [sl_lats, sl_better, c9_2, c18_3, c28_4, c47_7, Int64.not_lt.mpr z])
                · skip
                  refine z_iload_n C0 d_L_latest_50 rfl 3 rfl ?_
                  refine z_istore_n (lvn := [(0, .ref (x 7)), (1, .int (kv)), (2, .int (nI (i))), (3, .int (nI (i)))]) C0 d_L_latest_51 rfl (by decide) [1, 2, 0, 3] rfl ?_
                  refine z_iincN (q := 3) (lvn := [(0, .ref (x 7)), (1, .int (kv)), (2, .int (nI (i))), (3, .int (nI (i + 1)))]) C0 d_L_latest_52 rfl (by decide) [1, 2, 3, 0] rfl ?_
                  refine z_gotoK (tgt := 4) C0 d_L_latest_55 (by decide) ?_
                  exact ih (i + 1) (some (i)) (by omega) (fun q h => by cases h; omega) (by rw [hR]; have z := c47_7; simp only [lg_cmp_le] at z; simp [sl_lats, sl_better, c9_2, c18_3, c28_4, c47_7, Int64.not_le.mp z])
  exact lp4 (bc * bp) (0) none (by omega) (fun q h => by cases h) (rfl)

set_option maxHeartbeats 4000000 in
set_option maxRecDepth 100000 in
theorem c_L_findNext (l : Launch) (D : va_G) (cI cZ : ClassId) (x : Nat → Nat) (bc bp : Nat) (L : zl_S) (hB : zb_ok bc bp)   : zc_Con l y_L_findNext b_L_findNext 3 none { frames := 0, cells := 0, slots := 0, locals := 0 } D cI cZ [.ref (x 7)] (zl_W cI cZ x bc bp L) (zo none (zl_W cI cZ x bc bp (sl_setX L (sl_next (zl_s L) (sl_news (zl_w L) (zl_s L) (bc * bp) 0 none))))) := by
  refine zc_start (by decide) (Nat.le_of_ble_eq_true rfl) ?_
  intro p e s m args below meth c A Q hA hQ C0 hr hin
  have C0 : zc_Cx p s m args meth c b_L_findNext 3 R_L D cI cZ A := C0
  have hB0 := hB
  obtain ⟨hB1, hB2, hB3, hB4⟩ := hB
  have hN : bc * bp ≤ 20 := Nat.mul_le_mul hB2 hB4
  refine z_lvs (lvn := [(0, .ref (x 7))]) rfl ?_
  refine z_iconst (v := -1) C0 d_L_findNext_0 (by decide) ?_
  refine z_istore_n (lvn := [(0, .ref (x 7)), (1, .int (-1))]) C0 d_L_findNext_1 rfl (by decide) [1, 0] rfl ?_
  refine z_iconst (v := nI 0) C0 d_L_findNext_2 (by decide) ?_
  refine z_istore_n (lvn := [(0, .ref (x 7)), (1, .int (-1)), (2, .int (nI (0)))]) C0 d_L_findNext_3 rfl (by decide) [1, 2, 0] rfl ?_
  have lp4 : ∀ (n : Nat) (i : Nat) (best : Option Nat), (i + n = bc * bp) → (∀ q, best = some q → q < i) → (sl_news (zl_w L) (zl_s L) (bc * bp) 0 none = sl_news (zl_w L) (zl_s L) n i best) → zc_Pt p l e { frames := 0, cells := 0, slots := 0, locals := 0 } s m args below meth c 3 D A 0 0 Q 4 [(0, .ref (x 7)), (1, .int (oN (best))), (2, .int (nI (i)))] [] (zl_W cI cZ x bc bp L) := by
    intro n
    induction n with
    | zero =>
      intro i best hi hb hR
      refine z_iload_n C0 d_L_findNext_4 rfl 2 rfl ?_
      refine z_aload_n C0 d_L_findNext_5 rfl 0 rfl ?_
      refine z_get C0 gf_L_18 0 rfl rfl d_L_findNext_6 ?_
      refine z_icmpN_ge (tgt := 49) C0 d_L_findNext_9 (by decide) (by omega) (by omega) (fun (c9_1 : bc * bp ≤ i) => ?_) (fun (c9_1 : i < bc * bp) => ?_)
      · skip
        rcases best with _ | q1
        · refine z_lvs (lvn := [(0, .ref (x 7)), (1, .int (-1)), (2, .int (nI (i)))]) rfl ?_
          refine z_aload_n C0 d_L_findNext_49 rfl 0 rfl ?_
          refine z_iload_n C0 d_L_findNext_50 rfl 1 rfl ?_
          refine z_iconst (v := -1) C0 d_L_findNext_51 (by decide) ?_
          refine z_icmp_ne (tgt := 59) C0 d_L_findNext_52 (by decide) (fun c52_2 => ?_) (fun c52_2 => ?_)
          · exact absurd rfl c52_2
          · skip
            refine z_iconst (v := nI 1) C0 d_L_findNext_55 (by decide) ?_
            refine z_gotoK (tgt := 67) C0 d_L_findNext_56 (by decide) ?_
            refine z_topi (x := nI 1) (xn := 1) (by decide) ?_
            refine z_put C0 gf_L_45 pf_L_7 0 rfl rfl rfl (Nat.le_of_ble_eq_true rfl) d_L_findNext_67 ?_
            refine z_ws (wsn := zl_W cI cZ x bc bp (zl_w L, zl_m L, zl_s L, zl_k L, zl_d L, zl_h L, 1)) rfl ?_
            exact z_vret C0 hA hQ hr d_L_findNext_70 (⟨rfl, by rw [hR]; rfl⟩)
        · refine z_lvs (lvn := [(0, .ref (x 7)), (1, .int (nI (q1))), (2, .int (nI (i)))]) rfl ?_
          have hq1 := hb q1 rfl
          refine z_aload_n C0 d_L_findNext_49 rfl 0 rfl ?_
          refine z_iload_n C0 d_L_findNext_50 rfl 1 rfl ?_
          refine z_iconst (v := -1) C0 d_L_findNext_51 (by decide) ?_
          refine z_icmp_ne (tgt := 59) C0 d_L_findNext_52 (by decide) (fun c52_3 => ?_) (fun c52_3 => ?_)
          · skip
            refine z_aload_n C0 d_L_findNext_59 rfl 0 rfl ?_
            refine z_get C0 gf_L_21 0 rfl rfl d_L_findNext_60 ?_
            refine z_iload_n C0 d_L_findNext_63 rfl 1 rfl ?_
            refine z_iald C0 1 rfl (by omega) (by omega) d_L_findNext_64 ?_
            refine z_iconst (v := 1) C0 d_L_findNext_65 (by decide) ?_
            refine z_iadd C0 d_L_findNext_66 ?_
            refine z_put C0 gf_L_45 pf_L_7 0 rfl rfl rfl (Nat.le_of_ble_eq_true rfl) d_L_findNext_67 ?_
            refine z_ws (wsn := zl_W cI cZ x bc bp (zl_w L, zl_m L, zl_s L, zl_k L, zl_d L, zl_h L, ((zl_s L) (q1)) + 1)) rfl ?_
            exact z_vret C0 hA hQ hr d_L_findNext_70 (⟨rfl, by rw [hR]; rfl⟩)
          · exact absurd c52_3 (nI_m1 (by omega))
      · exact absurd c9_1 (by omega)
    | succ n ih =>
      intro i best hi hb hR
      refine z_iload_n C0 d_L_findNext_4 rfl 2 rfl ?_
      refine z_aload_n C0 d_L_findNext_5 rfl 0 rfl ?_
      refine z_get C0 gf_L_18 0 rfl rfl d_L_findNext_6 ?_
      refine z_icmpN_ge (tgt := 49) C0 d_L_findNext_9 (by decide) (by omega) (by omega) (fun (c9_4 : bc * bp ≤ i) => ?_) (fun (c9_4 : i < bc * bp) => ?_)
      · exact absurd c9_4 (by omega)
      · skip
        refine z_aload_n C0 d_L_findNext_12 rfl 0 rfl ?_
        refine z_get C0 gf_L_31 0 rfl rfl d_L_findNext_13 ?_
        refine z_iload_n C0 d_L_findNext_16 rfl 2 rfl ?_
        refine z_zald C0 5 rfl (by omega) (by omega) d_L_findNext_17 ?_
        refine z_ifB_eq (tgt := 43) C0 d_L_findNext_18 (by decide) (fun (c18_5 : (zl_w L) (i) = false) => ?_) (fun (c18_5 : (zl_w L) (i) = true) => ?_)
        · skip
          refine z_iincN (q := 2) (lvn := [(0, .ref (x 7)), (1, .int (oN (best))), (2, .int (nI (i + 1)))]) C0 d_L_findNext_43 rfl (by decide) [1, 2, 0] rfl ?_
          refine z_gotoK (tgt := 4) C0 d_L_findNext_46 (by decide) ?_
          exact ih (i + 1) (best) (by omega) (fun q h => by have := hb q h; omega) (by rw [hR]; simp [sl_news, c9_4, c18_5])
        · skip
          rcases best with _ | q0
          · refine z_lvs (lvn := [(0, .ref (x 7)), (1, .int (-1)), (2, .int (nI (i)))]) rfl ?_
            refine z_iload_n C0 d_L_findNext_21 rfl 1 rfl ?_
            refine z_iconst (v := -1) C0 d_L_findNext_22 (by decide) ?_
            refine z_icmp_eq (tgt := 41) C0 d_L_findNext_23 (by decide) (fun c23_6 => ?_) (fun c23_6 => ?_)
            · skip
              refine z_iload_n C0 d_L_findNext_41 rfl 2 rfl ?_
              refine z_istore_n (lvn := [(0, .ref (x 7)), (1, .int (nI (i))), (2, .int (nI (i)))]) C0 d_L_findNext_42 rfl (by decide) [1, 0, 2] rfl ?_
              refine z_iincN (q := 2) (lvn := [(0, .ref (x 7)), (1, .int (nI (i))), (2, .int (nI (i + 1)))]) C0 d_L_findNext_43 rfl (by decide) [1, 2, 0] rfl ?_
              refine z_gotoK (tgt := 4) C0 d_L_findNext_46 (by decide) ?_
              exact ih (i + 1) (some (i)) (by omega) (fun q h => by cases h; omega) (by rw [hR]; simp [sl_news, c9_4, c18_5])
            · exact absurd rfl c23_6
          · refine z_lvs (lvn := [(0, .ref (x 7)), (1, .int (nI (q0))), (2, .int (nI (i)))]) rfl ?_
            have hq0 := hb q0 rfl
            refine z_iload_n C0 d_L_findNext_21 rfl 1 rfl ?_
            refine z_iconst (v := -1) C0 d_L_findNext_22 (by decide) ?_
            refine z_icmp_eq (tgt := 41) C0 d_L_findNext_23 (by decide) (fun c23_7 => ?_) (fun c23_7 => ?_)
            · exact absurd c23_7 (nI_m1 (by omega))
            · skip
              refine z_aload_n C0 d_L_findNext_26 rfl 0 rfl ?_
              refine z_get C0 gf_L_21 0 rfl rfl d_L_findNext_27 ?_
              refine z_iload_n C0 d_L_findNext_30 rfl 2 rfl ?_
              refine z_iald C0 1 rfl (by omega) (by omega) d_L_findNext_31 ?_
              refine z_aload_n C0 d_L_findNext_32 rfl 0 rfl ?_
              refine z_get C0 gf_L_21 0 rfl rfl d_L_findNext_33 ?_
              refine z_iload_n C0 d_L_findNext_36 rfl 1 rfl ?_
              refine z_iald C0 1 rfl (by omega) (by omega) d_L_findNext_37 ?_
              refine z_icmp_le (tgt := 43) C0 d_L_findNext_38 (by decide) (fun (c38_8 : ((zl_s L) (i)) ≤ ((zl_s L) (q0))) => ?_) (fun (c38_8 : ¬ ((zl_s L) (i)) ≤ ((zl_s L) (q0))) => ?_)
              · skip
                refine z_iincN (q := 2) (lvn := [(0, .ref (x 7)), (1, .int (nI (q0))), (2, .int (nI (i + 1)))]) C0 d_L_findNext_43 rfl (by decide) [1, 2, 0] rfl ?_
                refine z_gotoK (tgt := 4) C0 d_L_findNext_46 (by decide) ?_
                exact ih (i + 1) (some (q0)) (by omega) (fun q h => by cases h; omega) (by rw [hR]; have z := c38_8; simp [sl_news, c9_4, c18_5, c38_8, Int32.not_lt.mpr z])
              · skip
                refine z_iload_n C0 d_L_findNext_41 rfl 2 rfl ?_
                refine z_istore_n (lvn := [(0, .ref (x 7)), (1, .int (nI (i))), (2, .int (nI (i)))]) C0 d_L_findNext_42 rfl (by decide) [1, 0, 2] rfl ?_
                refine z_iincN (q := 2) (lvn := [(0, .ref (x 7)), (1, .int (nI (i))), (2, .int (nI (i + 1)))]) C0 d_L_findNext_43 rfl (by decide) [1, 2, 0] rfl ?_
                refine z_gotoK (tgt := 4) C0 d_L_findNext_46 (by decide) ?_
                exact ih (i + 1) (some (i)) (by omega) (fun q h => by cases h; omega) (by rw [hR]; have z := c38_8; simp [sl_news, c9_4, c18_5, c38_8, Int32.not_le.mp z])
  exact lp4 (bc * bp) (0) none (by omega) (fun q h => by cases h) (rfl)

set_option maxHeartbeats 4000000 in
set_option maxRecDepth 100000 in
theorem c_L_isHeld (l : Launch) (D : va_G) (cI cZ : ClassId) (x : Nat → Nat) (bc bp : Nat) (L : zl_S) (hB : zb_ok bc bp) (kv : Int32) (hh : zh_ok bc (zl_h L)) : zc_Con l y_L_isHeld b_L_isHeld 3 (some .boolean) { frames := 2, cells := 0, slots := 0, locals := 46 } D cI cZ [.ref (x 7), .int (kv)] (zl_W cI cZ x bc bp L) (zo (some (.int (bI (sl_held bc bp L kv)))) (zl_W cI cZ x bc bp L)) := by
  refine zc_start (by decide) (Nat.le_of_ble_eq_true rfl) ?_
  intro p e s m args below meth c A Q hA hQ C0 hr hin
  have C0 : zc_Cx p s m args meth c b_L_isHeld 3 R_L D cI cZ A := C0
  have hB0 := hB
  obtain ⟨hB1, hB2, hB3, hB4⟩ := hB
  have hN : bc * bp ≤ 20 := Nat.mul_le_mul hB2 hB4
  refine z_lvs (lvn := [(0, .ref (x 7)), (1, .int (kv))]) rfl ?_
  refine z_aload_n C0 d_L_isHeld_0 rfl 0 rfl ?_
  refine z_iload_n C0 d_L_isHeld_1 rfl 1 rfl ?_
  refine z_allV (As := [.int (kv)]) (rest := []) C0 (c_L_latest l D cI cZ x bc bp L hB0 (kv) (hh)) mt_L_latest ml_L_56 vt_L_latest rfl rfl ⟨Nat.le_of_ble_eq_true rfl, Nat.le_of_ble_eq_true rfl⟩ ⟨rfl, rfl⟩ ⟨Nat.zero_le _, Nat.zero_le _⟩ rfl rfl (Nat.le_of_ble_eq_true rfl) d_L_isHeld_2 ?_
  refine z_st (stn := [.int (oN (sl_lat bc bp L (kv)))]) rfl ?_
  refine z_istore_n (lvn := [(0, .ref (x 7)), (1, .int (kv)), (2, .int (oN (sl_lat bc bp L (kv))))]) C0 d_L_isHeld_5 rfl (by decide) [1, 2, 0] rfl ?_
  refine z_iload_n C0 d_L_isHeld_6 rfl 2 rfl ?_
  refine z_iconst (v := -1) C0 d_L_isHeld_7 (by decide) ?_
  rcases e8_1 : sl_lat bc bp L (kv) with _ | g8_2
  · refine z_st (stn := [.int (-1), .int (-1)]) (by first | rfl | (rw [e8_1]; rfl)) ?_
    refine z_lvs (lvn := [(0, .ref (x 7)), (1, .int (kv)), (2, .int (-1))]) (by first | rfl | (rw [e8_1]; rfl)) ?_
    refine z_icmp_eq (tgt := 25) C0 d_L_isHeld_8 (by decide) (fun c8_3 => ?_) (fun c8_3 => ?_)
    · skip
      refine z_iconst (v := nI 0) C0 d_L_isHeld_25 (by decide) ?_
      refine z_topi (x := nI 0) (xn := bI false) (by decide) ?_
      exact z_zret C0 hA hQ hr d_L_isHeld_26 (⟨by unfold sl_held; rw [e8_1]; simp [sl_heldO, e8_1], rfl⟩)
    · exact absurd rfl c8_3
  · refine z_st (stn := [.int (-1), .int (nI (g8_2))]) (by first | rfl | (rw [e8_1]; rfl)) ?_
    refine z_lvs (lvn := [(0, .ref (x 7)), (1, .int (kv)), (2, .int (nI (g8_2)))]) (by first | rfl | (rw [e8_1]; rfl)) ?_
    have hq := zq_latI e8_1
    refine z_icmp_eq (tgt := 25) C0 d_L_isHeld_8 (by decide) (fun c8_4 => ?_) (fun c8_4 => ?_)
    · exact absurd c8_4 (nI_m1 (by omega))
    · skip
      refine z_aload_n C0 d_L_isHeld_11 rfl 0 rfl ?_
      refine z_get C0 gf_L_28 0 rfl rfl d_L_isHeld_12 ?_
      refine z_iload_n C0 d_L_isHeld_15 rfl 2 rfl ?_
      refine z_iald C0 3 rfl (by omega) (by omega) d_L_isHeld_16 ?_
      refine z_iconst (v := nI 1) C0 d_L_isHeld_17 (by decide) ?_
      refine z_topi (x := nI 1) (xn := 1) (by decide) ?_
      refine z_icmp_ne (tgt := 25) C0 d_L_isHeld_18 (by decide) (fun (c18_5 : ¬ ((zl_d L) (g8_2)) = 1) => ?_) (fun (c18_5 : ((zl_d L) (g8_2)) = 1) => ?_)
      · skip
        refine z_iconst (v := nI 0) C0 d_L_isHeld_25 (by decide) ?_
        refine z_topi (x := nI 0) (xn := bI false) (by decide) ?_
        exact z_zret C0 hA hQ hr d_L_isHeld_26 (⟨by unfold sl_held; rw [e8_1]; simp [sl_heldO, e8_1, c18_5], rfl⟩)
      · skip
        refine z_iconst (v := nI 1) C0 d_L_isHeld_21 (by decide) ?_
        refine z_gotoK (tgt := 26) C0 d_L_isHeld_22 (by decide) ?_
        refine z_topi (x := nI 1) (xn := bI true) (by decide) ?_
        exact z_zret C0 hA hQ hr d_L_isHeld_26 (⟨by unfold sl_held; rw [e8_1]; simp [sl_heldO, e8_1, c18_5], rfl⟩)

set_option maxHeartbeats 4000000 in
set_option maxRecDepth 100000 in
theorem c_L_heldKeys (l : Launch) (D : va_G) (cI cZ : ClassId) (x : Nat → Nat) (bc bp : Nat) (L : zl_S) (hB : zb_ok bc bp)  (hh : zh_ok bc (zl_h L)) : zc_Con l y_L_heldKeys b_L_heldKeys 3 (some .int) { frames := 3, cells := 0, slots := 0, locals := 68 } D cI cZ [.ref (x 7)] (zl_W cI cZ x bc bp L) (zo (some (.int (nI (sl_hks bc bp L 16 0 0)))) (zl_W cI cZ x bc bp L)) := by
  refine zc_start (by decide) (Nat.le_of_ble_eq_true rfl) ?_
  intro p e s m args below meth c A Q hA hQ C0 hr hin
  have C0 : zc_Cx p s m args meth c b_L_heldKeys 3 R_L D cI cZ A := C0
  have hB0 := hB
  obtain ⟨hB1, hB2, hB3, hB4⟩ := hB
  have hN : bc * bp ≤ 20 := Nat.mul_le_mul hB2 hB4
  refine z_lvs (lvn := [(0, .ref (x 7))]) rfl ?_
  refine z_iconst (v := nI 0) C0 d_L_heldKeys_0 (by decide) ?_
  refine z_istore_n (lvn := [(0, .ref (x 7)), (1, .int (nI (0)))]) C0 d_L_heldKeys_1 rfl (by decide) [1, 0] rfl ?_
  refine z_iconst (v := nI 0) C0 d_L_heldKeys_2 (by decide) ?_
  refine z_istore_n (lvn := [(0, .ref (x 7)), (1, .int (nI (0))), (2, .int (nI (0)))]) C0 d_L_heldKeys_3 rfl (by decide) [1, 2, 0] rfl ?_
  have lp4 : ∀ (n : Nat) (k : Nat) (a : Nat), (k + n = 16) → (sl_hks bc bp L 16 0 0 = sl_hks bc bp L n k a) → zc_Pt p l e { frames := 3, cells := 0, slots := 0, locals := 68 } s m args below meth c 3 D A 0 0 Q 4 [(0, .ref (x 7)), (1, .int (nI (a))), (2, .int (nI (k)))] [] (zl_W cI cZ x bc bp L) := by
    intro n
    induction n with
    | zero =>
      intro k a hi hR
      refine z_iload_n C0 d_L_heldKeys_4 rfl 2 rfl ?_
      refine z_bipush (v := nI 16) C0 d_L_heldKeys_5 (by decide) ?_
      refine z_icmpN_ge (tgt := 27) C0 d_L_heldKeys_7 (by decide) (by omega) (by omega) (fun (c7_1 : 16 ≤ k) => ?_) (fun (c7_1 : k < 16) => ?_)
      · skip
        refine z_iload_n C0 d_L_heldKeys_27 rfl 1 rfl ?_
        exact z_iret C0 hA hQ hr d_L_heldKeys_28 (⟨by rw [hR]; rfl, rfl⟩)
      · exact absurd c7_1 (by omega)
    | succ n ih =>
      intro k a hi hR
      refine z_iload_n C0 d_L_heldKeys_4 rfl 2 rfl ?_
      refine z_bipush (v := nI 16) C0 d_L_heldKeys_5 (by decide) ?_
      refine z_icmpN_ge (tgt := 27) C0 d_L_heldKeys_7 (by decide) (by omega) (by omega) (fun (c7_2 : 16 ≤ k) => ?_) (fun (c7_2 : k < 16) => ?_)
      · exact absurd c7_2 (by omega)
      · skip
        refine z_aload_n C0 d_L_heldKeys_10 rfl 0 rfl ?_
        refine z_iload_n C0 d_L_heldKeys_11 rfl 2 rfl ?_
        refine z_allV (As := [.int (nI (k))]) (rest := []) C0 (c_L_isHeld l D cI cZ x bc bp L hB0 (nI (k)) (hh)) mt_L_isHeld ml_L_59 vt_L_isHeld rfl rfl ⟨Nat.le_of_ble_eq_true rfl, Nat.le_of_ble_eq_true rfl⟩ ⟨rfl, rfl⟩ ⟨Nat.zero_le _, Nat.zero_le _⟩ rfl rfl (Nat.le_of_ble_eq_true rfl) d_L_heldKeys_12 ?_
        refine z_st (stn := [.int (bI (sl_held bc bp L (nI (k))))]) rfl ?_
        refine z_ifB_eq (tgt := 21) C0 d_L_heldKeys_15 (by decide) (fun (c15_3 : sl_held bc bp L (nI (k)) = false) => ?_) (fun (c15_3 : sl_held bc bp L (nI (k)) = true) => ?_)
        · skip
          refine z_iincN (q := 2) (lvn := [(0, .ref (x 7)), (1, .int (nI (a))), (2, .int (nI (k + 1)))]) C0 d_L_heldKeys_21 rfl (by decide) [1, 2, 0] rfl ?_
          refine z_gotoK (tgt := 4) C0 d_L_heldKeys_24 (by decide) ?_
          exact ih (k + 1) (a) (by omega) (by rw [hR]; simp [sl_hks, c7_2, c15_3])
        · skip
          refine z_iincN (q := 1) (lvn := [(0, .ref (x 7)), (1, .int (nI (a + 1))), (2, .int (nI (k)))]) C0 d_L_heldKeys_18 rfl (by decide) [1, 0, 2] rfl ?_
          refine z_iincN (q := 2) (lvn := [(0, .ref (x 7)), (1, .int (nI (a + 1))), (2, .int (nI (k + 1)))]) C0 d_L_heldKeys_21 rfl (by decide) [1, 2, 0] rfl ?_
          refine z_gotoK (tgt := 4) C0 d_L_heldKeys_24 (by decide) ?_
          exact ih (k + 1) (a + 1) (by omega) (by rw [hR]; simp [sl_hks, c7_2, c15_3])
  exact lp4 (16) (0) (0) (by omega) (rfl)

set_option maxHeartbeats 4000000 in
set_option maxRecDepth 100000 in
theorem c_L_markNeeded (l : Launch) (D : va_G) (cI cZ : ClassId) (x : Nat → Nat) (bc bp : Nat) (L : zl_S) (hB : zb_ok bc bp)  (hh : zh_ok bc (zl_h L)) : zc_Con l y_L_markNeeded b_L_markNeeded 2 none { frames := 2, cells := 0, slots := 0, locals := 46 } D cI cZ [.ref (x 7)] (zl_W cI cZ x bc bp L) (zo none (zl_W cI cZ x bc bp (sl_setM L (sl_mn bc bp L)))) := by
  refine zc_start (by decide) (Nat.le_of_ble_eq_true rfl) ?_
  intro p e s m args below meth c A Q hA hQ C0 hr hin
  have C0 : zc_Cx p s m args meth c b_L_markNeeded 2 R_L D cI cZ A := C0
  have hB0 := hB
  obtain ⟨hB1, hB2, hB3, hB4⟩ := hB
  have hN : bc * bp ≤ 20 := Nat.mul_le_mul hB2 hB4
  refine z_lvs (lvn := [(0, .ref (x 7))]) rfl ?_
  refine z_iconst (v := nI 0) C0 d_L_markNeeded_0 (by decide) ?_
  refine z_istore_n (lvn := [(0, .ref (x 7)), (1, .int (nI (0)))]) C0 d_L_markNeeded_1 rfl (by decide) [1, 0] rfl ?_
  have lp2 : ∀ (n : Nat) (i : Nat) (g : Nat → Bool), (i + n = bc * bp) → (sl_mn bc bp L = sl_mns bc bp L n i g) → zc_Pt p l e { frames := 2, cells := 0, slots := 0, locals := 46 } s m args below meth c 2 D A 0 0 Q 2 [(0, .ref (x 7)), (1, .int (nI (i)))] [] (zl_W cI cZ x bc bp (zl_w L, g, zl_s L, zl_k L, zl_d L, zl_h L, zl_x L)) := by
    intro n
    induction n with
    | zero =>
      intro i g hi hR
      refine z_iload_n C0 d_L_markNeeded_2 rfl 1 rfl ?_
      refine z_aload_n C0 d_L_markNeeded_3 rfl 0 rfl ?_
      refine z_get C0 gf_L_18 0 rfl rfl d_L_markNeeded_4 ?_
      refine z_icmpN_ge (tgt := 68) C0 d_L_markNeeded_7 (by decide) (by omega) (by omega) (fun (c7_1 : bc * bp ≤ i) => ?_) (fun (c7_1 : i < bc * bp) => ?_)
      · skip
        exact z_vret C0 hA hQ hr d_L_markNeeded_68 (⟨rfl, by rw [hR]; rfl⟩)
      · exact absurd c7_1 (by omega)
    | succ n ih =>
      intro i g hi hR
      refine z_iload_n C0 d_L_markNeeded_2 rfl 1 rfl ?_
      refine z_aload_n C0 d_L_markNeeded_3 rfl 0 rfl ?_
      refine z_get C0 gf_L_18 0 rfl rfl d_L_markNeeded_4 ?_
      refine z_icmpN_ge (tgt := 68) C0 d_L_markNeeded_7 (by decide) (by omega) (by omega) (fun (c7_2 : bc * bp ≤ i) => ?_) (fun (c7_2 : i < bc * bp) => ?_)
      · exact absurd c7_2 (by omega)
      · skip
        refine z_aload_n C0 d_L_markNeeded_10 rfl 0 rfl ?_
        refine z_get C0 gf_L_35 0 rfl rfl d_L_markNeeded_11 ?_
        refine z_iload_n C0 d_L_markNeeded_14 rfl 1 rfl ?_
        refine z_aload_n C0 d_L_markNeeded_15 rfl 0 rfl ?_
        refine z_get C0 gf_L_31 0 rfl rfl d_L_markNeeded_16 ?_
        refine z_iload_n C0 d_L_markNeeded_19 rfl 1 rfl ?_
        refine z_zald C0 5 rfl (by omega) (by omega) d_L_markNeeded_20 ?_
        refine z_ifB_eq (tgt := 60) C0 d_L_markNeeded_21 (by decide) (fun (c21_3 : (zl_w L) (i) = false) => ?_) (fun (c21_3 : (zl_w L) (i) = true) => ?_)
        · skip
          refine z_iconst (v := nI 0) C0 d_L_markNeeded_60 (by decide) ?_
          refine z_topi (x := nI 0) (xn := bI false) (by decide) ?_
          refine z_zast C0 4 rfl (by omega) (by omega) d_L_markNeeded_61 ?_
          refine z_iincN (q := 1) (lvn := [(0, .ref (x 7)), (1, .int (nI (i + 1)))]) C0 d_L_markNeeded_62 rfl (by decide) [1, 0] rfl ?_
          refine z_gotoK (tgt := 2) C0 d_L_markNeeded_65 (by decide) ?_
          refine z_ws (wsn := zl_W cI cZ x bc bp (zl_w L, ub g (i) (false), zl_s L, zl_k L, zl_d L, zl_h L, zl_x L)) rfl ?_
          exact ih (i + 1) (ub g (i) (false)) (by omega) (by rw [hR]; simp [sl_mns, sl_need, c7_2, c21_3])
        · skip
          refine z_aload_n C0 d_L_markNeeded_24 rfl 0 rfl ?_
          refine z_aload_n C0 d_L_markNeeded_25 rfl 0 rfl ?_
          refine z_get C0 gf_L_25 0 rfl rfl d_L_markNeeded_26 ?_
          refine z_iload_n C0 d_L_markNeeded_29 rfl 1 rfl ?_
          refine z_iald C0 2 rfl (by omega) (by omega) d_L_markNeeded_30 ?_
          refine z_allV (As := [.int ((zl_k L) (i))]) (rest := [.int (nI (i)), .ref (x 11)]) C0 (c_L_latest l D cI cZ x bc bp (zl_w L, g, zl_s L, zl_k L, zl_d L, zl_h L, zl_x L) hB0 ((zl_k L) (i)) (hh)) mt_L_latest ml_L_56 vt_L_latest rfl rfl ⟨Nat.le_of_ble_eq_true rfl, Nat.le_of_ble_eq_true rfl⟩ ⟨rfl, rfl⟩ ⟨Nat.zero_le _, Nat.zero_le _⟩ rfl rfl (Nat.le_of_ble_eq_true rfl) d_L_markNeeded_31 ?_
          refine z_st (stn := [.int (oN (sl_lat bc bp (zl_w L, g, zl_s L, zl_k L, zl_d L, zl_h L, zl_x L) ((zl_k L) (i)))), .int (nI (i)), .ref (x 11)]) rfl ?_
          refine z_iload_n C0 d_L_markNeeded_34 rfl 1 rfl ?_
          rcases e35_4 : sl_lat bc bp (zl_w L, g, zl_s L, zl_k L, zl_d L, zl_h L, zl_x L) ((zl_k L) (i)) with _ | g35_5
          · refine z_st (stn := [.int (nI (i)), .int (-1), .int (nI (i)), .ref (x 11)]) (by first | rfl | (rw [e35_4]; rfl)) ?_
            have e35_4 : sl_lat bc bp L (zl_k L i) = none := e35_4
            refine z_icmp_ne (tgt := 60) C0 d_L_markNeeded_35 (by decide) (fun c35_6 => ?_) (fun c35_6 => ?_)
            · skip
              refine z_iconst (v := nI 0) C0 d_L_markNeeded_60 (by decide) ?_
              refine z_topi (x := nI 0) (xn := bI false) (by decide) ?_
              refine z_zast C0 4 rfl (by omega) (by omega) d_L_markNeeded_61 ?_
              refine z_iincN (q := 1) (lvn := [(0, .ref (x 7)), (1, .int (nI (i + 1)))]) C0 d_L_markNeeded_62 rfl (by decide) [1, 0] rfl ?_
              refine z_gotoK (tgt := 2) C0 d_L_markNeeded_65 (by decide) ?_
              refine z_ws (wsn := zl_W cI cZ x bc bp (zl_w L, ub g (i) (false), zl_s L, zl_k L, zl_d L, zl_h L, zl_x L)) rfl ?_
              exact ih (i + 1) (ub g (i) (false)) (by omega) (by rw [hR]; simp [sl_mns, sl_need, c7_2, c21_3, e35_4])
            · exact absurd c35_6.symm (nI_m1 (by omega))
          · refine z_st (stn := [.int (nI (i)), .int (nI (g35_5)), .int (nI (i)), .ref (x 11)]) (by first | rfl | (rw [e35_4]; rfl)) ?_
            have e35_4 : sl_lat bc bp L (zl_k L i) = some g35_5 := e35_4
            have hq := zq_latI e35_4
            refine z_icmpN_ne (tgt := 60) C0 d_L_markNeeded_35 (by decide) (by omega) (by omega) (fun (c35_7 : g35_5 ≠ i) => ?_) (fun (c35_7 : g35_5 = i) => ?_)
            · skip
              refine z_iconst (v := nI 0) C0 d_L_markNeeded_60 (by decide) ?_
              refine z_topi (x := nI 0) (xn := bI false) (by decide) ?_
              refine z_zast C0 4 rfl (by omega) (by omega) d_L_markNeeded_61 ?_
              refine z_iincN (q := 1) (lvn := [(0, .ref (x 7)), (1, .int (nI (i + 1)))]) C0 d_L_markNeeded_62 rfl (by decide) [1, 0] rfl ?_
              refine z_gotoK (tgt := 2) C0 d_L_markNeeded_65 (by decide) ?_
              refine z_ws (wsn := zl_W cI cZ x bc bp (zl_w L, ub g (i) (false), zl_s L, zl_k L, zl_d L, zl_h L, zl_x L)) rfl ?_
              exact ih (i + 1) (ub g (i) (false)) (by omega) (by rw [hR]; simp [sl_mns, sl_need, c7_2, c21_3, e35_4, c35_7])
            · skip
              refine z_aload_n C0 d_L_markNeeded_38 rfl 0 rfl ?_
              refine z_get C0 gf_L_28 0 rfl rfl d_L_markNeeded_39 ?_
              refine z_iload_n C0 d_L_markNeeded_42 rfl 1 rfl ?_
              refine z_iald C0 3 rfl (by omega) (by omega) d_L_markNeeded_43 ?_
              refine z_iconst (v := nI 1) C0 d_L_markNeeded_44 (by decide) ?_
              refine z_topi (x := nI 1) (xn := 1) (by decide) ?_
              refine z_icmp_eq (tgt := 56) C0 d_L_markNeeded_45 (by decide) (fun (c45_8 : ((zl_d L) (i)) = 1) => ?_) (fun (c45_8 : ¬ ((zl_d L) (i)) = 1) => ?_)
              · skip
                refine z_iconst (v := nI 1) C0 d_L_markNeeded_56 (by decide) ?_
                refine z_gotoK (tgt := 61) C0 d_L_markNeeded_57 (by decide) ?_
                refine z_topi (x := nI 1) (xn := bI true) (by decide) ?_
                refine z_zast C0 4 rfl (by omega) (by omega) d_L_markNeeded_61 ?_
                refine z_iincN (q := 1) (lvn := [(0, .ref (x 7)), (1, .int (nI (i + 1)))]) C0 d_L_markNeeded_62 rfl (by decide) [1, 0] rfl ?_
                refine z_gotoK (tgt := 2) C0 d_L_markNeeded_65 (by decide) ?_
                refine z_ws (wsn := zl_W cI cZ x bc bp (zl_w L, ub g (i) (true), zl_s L, zl_k L, zl_d L, zl_h L, zl_x L)) rfl ?_
                exact ih (i + 1) (ub g (i) (true)) (by omega) (by rw [hR]; simp [sl_mns, sl_need, c7_2, c21_3, e35_4, c35_7, c45_8])
              · skip
                refine z_aload_n C0 d_L_markNeeded_48 rfl 0 rfl ?_
                refine z_iload_n C0 d_L_markNeeded_49 rfl 1 rfl ?_
                refine z_allV (As := [.int (nI (i))]) (rest := [.int (nI (i)), .ref (x 11)]) C0 (c_L_hasOther l D cI cZ x bc bp (zl_w L, g, zl_s L, zl_k L, zl_d L, zl_h L, zl_x L) hB0 (i) (by omega)) mt_L_hasOther ml_L_66 vt_L_hasOther rfl rfl ⟨Nat.le_of_ble_eq_true rfl, Nat.le_of_ble_eq_true rfl⟩ ⟨rfl, rfl⟩ ⟨Nat.zero_le _, Nat.zero_le _⟩ rfl rfl (Nat.le_of_ble_eq_true rfl) d_L_markNeeded_50 ?_
                refine z_st (stn := [.int (bI (sl_oths (zl_w L) (zl_k L) (i) (bc * bp) 0)), .int (nI (i)), .ref (x 11)]) rfl ?_
                refine z_ifB_eq (tgt := 60) C0 d_L_markNeeded_53 (by decide) (fun (c53_9 : sl_oths (zl_w L) (zl_k L) (i) (bc * bp) 0 = false) => ?_) (fun (c53_9 : sl_oths (zl_w L) (zl_k L) (i) (bc * bp) 0 = true) => ?_)
                · skip
                  refine z_iconst (v := nI 0) C0 d_L_markNeeded_60 (by decide) ?_
                  refine z_topi (x := nI 0) (xn := bI false) (by decide) ?_
                  refine z_zast C0 4 rfl (by omega) (by omega) d_L_markNeeded_61 ?_
                  refine z_iincN (q := 1) (lvn := [(0, .ref (x 7)), (1, .int (nI (i + 1)))]) C0 d_L_markNeeded_62 rfl (by decide) [1, 0] rfl ?_
                  refine z_gotoK (tgt := 2) C0 d_L_markNeeded_65 (by decide) ?_
                  refine z_ws (wsn := zl_W cI cZ x bc bp (zl_w L, ub g (i) (false), zl_s L, zl_k L, zl_d L, zl_h L, zl_x L)) rfl ?_
                  exact ih (i + 1) (ub g (i) (false)) (by omega) (by rw [hR]; simp [sl_mns, sl_need, c7_2, c21_3, e35_4, c35_7, c45_8, c53_9])
                · skip
                  refine z_iconst (v := nI 1) C0 d_L_markNeeded_56 (by decide) ?_
                  refine z_gotoK (tgt := 61) C0 d_L_markNeeded_57 (by decide) ?_
                  refine z_topi (x := nI 1) (xn := bI true) (by decide) ?_
                  refine z_zast C0 4 rfl (by omega) (by omega) d_L_markNeeded_61 ?_
                  refine z_iincN (q := 1) (lvn := [(0, .ref (x 7)), (1, .int (nI (i + 1)))]) C0 d_L_markNeeded_62 rfl (by decide) [1, 0] rfl ?_
                  refine z_gotoK (tgt := 2) C0 d_L_markNeeded_65 (by decide) ?_
                  refine z_ws (wsn := zl_W cI cZ x bc bp (zl_w L, ub g (i) (true), zl_s L, zl_k L, zl_d L, zl_h L, zl_x L)) rfl ?_
                  exact ih (i + 1) (ub g (i) (true)) (by omega) (by rw [hR]; simp [sl_mns, sl_need, c7_2, c21_3, e35_4, c35_7, c45_8, c53_9])
  exact lp2 (bc * bp) (0) (zl_m L) (by omega) (rfl)

set_option maxHeartbeats 4000000 in
set_option maxRecDepth 100000 in
theorem c_L_openHead (l : Launch) (D : va_G) (cI cZ : ClassId) (x : Nat → Nat) (bc bp : Nat) (L : zl_S) (hB : zb_ok bc bp) (en : Nat) (hh : zh_ok bc (zl_h L)) (he : en < 100) : zc_Con l y_L_openHead b_L_openHead 2 (some .boolean) { frames := 3, cells := 0, slots := 0, locals := 66 } D cI cZ [.ref (x 7), .int (nI (en))] (zl_W cI cZ x bc bp L) (zo (some (.int (bI (decide (sl_hg bp (zl_w L) (zl_h (sl_openH bc bp L en)) ≠ none))))) (zl_W cI cZ x bc bp (sl_openH bc bp L en))) := by
  refine zc_start (by decide) (Nat.le_of_ble_eq_true rfl) ?_
  intro p e s m args below meth c A Q hA hQ C0 hr hin
  have C0 : zc_Cx p s m args meth c b_L_openHead 2 R_L D cI cZ A := C0
  have hB0 := hB
  obtain ⟨hB1, hB2, hB3, hB4⟩ := hB
  have hN : bc * bp ≤ 20 := Nat.mul_le_mul hB2 hB4
  refine z_lvs (lvn := [(0, .ref (x 7)), (1, .int (nI (en)))]) rfl ?_
  refine z_aload_n C0 d_L_openHead_0 rfl 0 rfl ?_
  refine z_allV (As := []) (rest := []) C0 (c_L_headGap l D cI cZ x bc bp L hB0  (hh)) mt_L_headGap ml_L_69 vt_L_headGap rfl rfl ⟨Nat.le_of_ble_eq_true rfl, Nat.le_of_ble_eq_true rfl⟩ ⟨rfl, rfl⟩ ⟨Nat.zero_le _, Nat.zero_le _⟩ rfl rfl (Nat.le_of_ble_eq_true rfl) d_L_openHead_1 ?_
  refine z_st (stn := [.int (oN (sl_hg bp (zl_w L) (zl_h L)))]) rfl ?_
  refine z_iconst (v := -1) C0 d_L_openHead_4 (by decide) ?_
  rcases e5_1 : sl_hg bp (zl_w L) (zl_h L) with _ | g5_2
  · refine z_st (stn := [.int (-1), .int (-1)]) (by first | rfl | (rw [e5_1]; rfl)) ?_
    refine z_icmp_ne (tgt := 24) C0 d_L_openHead_5 (by decide) (fun c5_3 => ?_) (fun c5_3 => ?_)
    · exact absurd rfl c5_3
    · skip
      refine z_aload_n C0 d_L_openHead_8 rfl 0 rfl ?_
      refine z_allV (As := []) (rest := []) C0 (c_L_freeBlocks l D cI cZ x bc bp L hB0  ) mt_L_freeBlocks ml_L_73 vt_L_freeBlocks rfl rfl ⟨Nat.le_of_ble_eq_true rfl, Nat.le_of_ble_eq_true rfl⟩ ⟨rfl, rfl⟩ ⟨Nat.zero_le _, Nat.zero_le _⟩ rfl rfl (Nat.le_of_ble_eq_true rfl) d_L_openHead_9 ?_
      refine z_st (stn := [.int (nI (sl_fr bc bp L))]) rfl ?_
      refine z_iload_n C0 d_L_openHead_12 rfl 1 rfl ?_
      refine z_icmpN_lt (tgt := 24) C0 d_L_openHead_13 (by decide) (by have := zq_frLe bc bp L; omega) (by omega) (fun (c13_4 : sl_fr bc bp L < en) => ?_) (fun (c13_4 : en ≤ sl_fr bc bp L) => ?_)
      · skip
        refine z_aload_n C0 d_L_openHead_24 rfl 0 rfl ?_
        refine z_allV (As := []) (rest := []) C0 (c_L_headGap l D cI cZ x bc bp L hB0  (hh)) mt_L_headGap ml_L_69 vt_L_headGap rfl rfl ⟨Nat.le_of_ble_eq_true rfl, Nat.le_of_ble_eq_true rfl⟩ ⟨rfl, rfl⟩ ⟨Nat.zero_le _, Nat.zero_le _⟩ rfl rfl (Nat.le_of_ble_eq_true rfl) d_L_openHead_25 ?_
        refine z_st (stn := [.int (oN (sl_hg bp (zl_w L) (zl_h L)))]) rfl ?_
        refine z_top (vn := .int (-1)) (by rw [e5_1]; rfl) ?_
        refine z_iconst (v := -1) C0 d_L_openHead_28 (by decide) ?_
        refine z_icmp_eq (tgt := 36) C0 d_L_openHead_29 (by decide) (fun c29_5 => ?_) (fun c29_5 => ?_)
        · skip
          refine z_iconst (v := nI 0) C0 d_L_openHead_36 (by decide) ?_
          refine z_topi (x := nI 0) (xn := bI false) (by decide) ?_
          exact z_zret C0 hA hQ hr d_L_openHead_37 (by have hO : sl_openH bc bp L en = L := if_neg (fun z => absurd z.2 (Nat.not_le.mpr c13_4)); rw [hO]; exact ⟨by simp [sl_setH, zl_h, zl_w] at *; simp [*], rfl⟩)
        · exact absurd rfl c29_5
      · skip
        refine z_aload_n C0 d_L_openHead_16 rfl 0 rfl ?_
        refine z_aload_n C0 d_L_openHead_17 rfl 0 rfl ?_
        refine z_allV (As := []) (rest := [.ref (x 7)]) C0 (c_L_lowestFree l D cI cZ x bc bp L hB0  ) mt_L_lowestFree ml_L_76 vt_L_lowestFree rfl rfl ⟨Nat.le_of_ble_eq_true rfl, Nat.le_of_ble_eq_true rfl⟩ ⟨rfl, rfl⟩ ⟨Nat.zero_le _, Nat.zero_le _⟩ rfl rfl (Nat.le_of_ble_eq_true rfl) d_L_openHead_18 ?_
        refine z_st (stn := [.int (oN (sl_lows bp (zl_w L) bc 0)), .ref (x 7)]) rfl ?_
        refine z_put C0 gf_L_42 pf_L_6 0 rfl rfl rfl (Nat.le_of_ble_eq_true rfl) d_L_openHead_21 ?_
        refine z_aload_n C0 d_L_openHead_24 rfl 0 rfl ?_
        refine z_ws (wsn := zl_W cI cZ x bc bp (zl_w L, zl_m L, zl_s L, zl_k L, zl_d L, sl_lows bp (zl_w L) bc 0, zl_x L)) rfl ?_
        refine z_allV (As := []) (rest := []) C0 (c_L_headGap l D cI cZ x bc bp (zl_w L, zl_m L, zl_s L, zl_k L, zl_d L, sl_lows bp (zl_w L) bc 0, zl_x L) hB0  (zq_lowOk bc bp (zl_w L))) mt_L_headGap ml_L_69 vt_L_headGap rfl rfl ⟨Nat.le_of_ble_eq_true rfl, Nat.le_of_ble_eq_true rfl⟩ ⟨rfl, rfl⟩ ⟨Nat.zero_le _, Nat.zero_le _⟩ rfl rfl (Nat.le_of_ble_eq_true rfl) d_L_openHead_25 ?_
        refine z_st (stn := [.int (oN (sl_hg bp (zl_w L) (sl_lows bp (zl_w L) bc 0)))]) rfl ?_
        refine z_iconst (v := -1) C0 d_L_openHead_28 (by decide) ?_
        rcases e29_6 : sl_hg bp (zl_w L) (sl_lows bp (zl_w L) bc 0) with _ | g29_7
        · refine z_st (stn := [.int (-1), .int (-1)]) (by first | rfl | (rw [e29_6]; rfl)) ?_
          refine z_icmp_eq (tgt := 36) C0 d_L_openHead_29 (by decide) (fun c29_8 => ?_) (fun c29_8 => ?_)
          · skip
            refine z_iconst (v := nI 0) C0 d_L_openHead_36 (by decide) ?_
            refine z_topi (x := nI 0) (xn := bI false) (by decide) ?_
            exact z_zret C0 hA hQ hr d_L_openHead_37 (by have hO : sl_openH bc bp L en = sl_setH L (sl_lows bp (zl_w L) bc 0) := if_pos ⟨e5_1, c13_4⟩; rw [hO]; exact ⟨by simp [sl_setH, zl_h, zl_w] at *; simp [*], rfl⟩)
          · exact absurd rfl c29_8
        · refine z_st (stn := [.int (-1), .int (nI (g29_7))]) (by first | rfl | (rw [e29_6]; rfl)) ?_
          have hg29 : g29_7 < bc * bp := by first | exact zq_hgLt hh e29_6 | exact zq_hgLt (zq_lowOk bc bp (zl_w L)) e29_6
          refine z_icmp_eq (tgt := 36) C0 d_L_openHead_29 (by decide) (fun c29_9 => ?_) (fun c29_9 => ?_)
          · exact absurd c29_9 (nI_m1 (by omega))
          · skip
            refine z_iconst (v := nI 1) C0 d_L_openHead_32 (by decide) ?_
            refine z_gotoK (tgt := 37) C0 d_L_openHead_33 (by decide) ?_
            refine z_topi (x := nI 1) (xn := bI true) (by decide) ?_
            exact z_zret C0 hA hQ hr d_L_openHead_37 (by have hO : sl_openH bc bp L en = sl_setH L (sl_lows bp (zl_w L) bc 0) := if_pos ⟨e5_1, c13_4⟩; rw [hO]; exact ⟨by simp [sl_setH, zl_h, zl_w] at *; simp [*], rfl⟩)
  · refine z_st (stn := [.int (-1), .int (nI (g5_2))]) (by first | rfl | (rw [e5_1]; rfl)) ?_
    have hg5 := zq_hgLt hh e5_1
    refine z_icmp_ne (tgt := 24) C0 d_L_openHead_5 (by decide) (fun c5_10 => ?_) (fun c5_10 => ?_)
    · skip
      refine z_aload_n C0 d_L_openHead_24 rfl 0 rfl ?_
      refine z_allV (As := []) (rest := []) C0 (c_L_headGap l D cI cZ x bc bp L hB0  (hh)) mt_L_headGap ml_L_69 vt_L_headGap rfl rfl ⟨Nat.le_of_ble_eq_true rfl, Nat.le_of_ble_eq_true rfl⟩ ⟨rfl, rfl⟩ ⟨Nat.zero_le _, Nat.zero_le _⟩ rfl rfl (Nat.le_of_ble_eq_true rfl) d_L_openHead_25 ?_
      refine z_st (stn := [.int (oN (sl_hg bp (zl_w L) (zl_h L)))]) rfl ?_
      refine z_top (vn := .int (nI (g5_2))) (by rw [e5_1]; rfl) ?_
      refine z_iconst (v := -1) C0 d_L_openHead_28 (by decide) ?_
      refine z_icmp_eq (tgt := 36) C0 d_L_openHead_29 (by decide) (fun c29_11 => ?_) (fun c29_11 => ?_)
      · exact absurd c29_11 (nI_m1 (by omega))
      · skip
        refine z_iconst (v := nI 1) C0 d_L_openHead_32 (by decide) ?_
        refine z_gotoK (tgt := 37) C0 d_L_openHead_33 (by decide) ?_
        refine z_topi (x := nI 1) (xn := bI true) (by decide) ?_
        exact z_zret C0 hA hQ hr d_L_openHead_37 (by have hO : sl_openH bc bp L en = L := if_neg (fun z => by rw [e5_1] at z; cases z.1); rw [hO]; exact ⟨by simp [sl_setH, zl_h, zl_w] at *; simp [*], rfl⟩)
    · exact absurd c5_10 (nI_m1 (by omega))
