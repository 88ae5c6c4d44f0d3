set_option maxHeartbeats 4000000 in
set_option maxRecDepth 100000 in
theorem c_L_fewestMarked (l : Launch) (D : va_G) (cI cZ : ClassId) (x : Nat → Nat) (bc bp : Nat) (L : zl_S) (hB : zb_ok bc bp)  (hh : zh_ok bc (zl_h L)) : zc_Con l y_L_fewestMarked b_L_fewestMarked 4 (some .int) { frames := 2, cells := 0, slots := 0, locals := 44 } D cI cZ [.ref (x 7)] (zl_W cI cZ x bc bp L) (zo (some (.int (oN (sl_fm bc bp (zl_w L) (zl_m L) (zl_h L))))) (zl_W cI cZ x bc bp L)) := by
  refine zc_start (by decide) (Nat.le_of_ble_eq_true rfl) ?_
  intro p e s m args below meth c A Q hA hQ C0 hr hin
  have C0 : zc_Cx p s m args meth c b_L_fewestMarked 4 R_L D cI cZ A := C0
  have hB0 := hB
  obtain ⟨hB1, hB2, hB3, hB4⟩ := hB
  have hN : bc * bp ≤ 20 := Nat.mul_le_mul hB2 hB4
  refine z_lvs (lvn := [(0, .ref (x 7))]) rfl ?_
  rcases hhd : zl_h L with _ | hd
  · refine z_lvs (lvn := [(0, .ref (x 7))]) (by first | rfl | (rw [hhd]; rfl)) ?_
    refine z_aload_n C0 d_L_fewestMarked_0 rfl 0 rfl ?_
    refine z_allV (As := []) (rest := []) C0 (c_L_headGap l D cI cZ x bc bp L hB0  (hh)) mt_L_headGap ml_L_69 vt_L_headGap rfl rfl ⟨Nat.le_of_ble_eq_true rfl, Nat.le_of_ble_eq_true rfl⟩ ⟨rfl, rfl⟩ ⟨Nat.zero_le _, Nat.zero_le _⟩ rfl rfl (Nat.le_of_ble_eq_true rfl) d_L_fewestMarked_1 ?_
    refine z_st (stn := [.int (oN (sl_hg bp (zl_w L) (zl_h L)))]) rfl ?_
    refine z_iconst (v := -1) C0 d_L_fewestMarked_4 (by decide) ?_
    rcases e5_1 : sl_hg bp (zl_w L) (zl_h L) with _ | g5_2
    · refine z_st (stn := [.int (-1), .int (-1)]) (by first | rfl | (rw [e5_1]; rfl)) ?_
      refine z_icmp_ne (tgt := 12) C0 d_L_fewestMarked_5 (by decide) (fun c5_3 => ?_) (fun c5_3 => ?_)
      · exact absurd rfl c5_3
      · skip
        refine z_iconst (v := -1) C0 d_L_fewestMarked_8 (by decide) ?_
        refine z_gotoK (tgt := 16) C0 d_L_fewestMarked_9 (by decide) ?_
        refine z_istore_n (lvn := [(0, .ref (x 7)), (1, .int (-1))]) C0 d_L_fewestMarked_16 rfl (by decide) [1, 0] rfl ?_
        refine z_iconst (v := -1) C0 d_L_fewestMarked_17 (by decide) ?_
        refine z_istore_n (lvn := [(0, .ref (x 7)), (1, .int (-1)), (2, .int (-1))]) C0 d_L_fewestMarked_18 rfl (by decide) [1, 2, 0] rfl ?_
        refine z_iconst (v := nI 0) C0 d_L_fewestMarked_19 (by decide) ?_
        refine z_istore_n (lvn := [(0, .ref (x 7)), (1, .int (-1)), (2, .int (-1)), (3, .int (nI (0)))]) C0 d_L_fewestMarked_20 rfl (by decide) [1, 2, 3, 0] rfl ?_
        have lp21 : ∀ (n : Nat) (i : Nat) (best : Option Nat), (i + n = bc) → (∀ q, best = some q → q < i) → (sl_fm bc bp (zl_w L) (zl_m L) (zl_h L) = sl_fms bp (zl_w L) (zl_m L) none n i best) → zc_Pt p l e { frames := 2, cells := 0, slots := 0, locals := 44 } s m args below meth c 4 D A 0 0 Q 21 [(0, .ref (x 7)), (1, .int (-1)), (2, .int (oN (best))), (3, .int (nI (i)))] [] (zl_W cI cZ x bc bp L) := by
          intro n
          induction n with
          | zero =>
            intro i best hi hb hR
            refine z_iload_n C0 d_L_fewestMarked_21 rfl 3 rfl ?_
            refine z_aload_n C0 d_L_fewestMarked_22 rfl 0 rfl ?_
            refine z_get C0 gf_L_9 0 rfl rfl d_L_fewestMarked_23 ?_
            refine z_icmpN_ge (tgt := 68) C0 d_L_fewestMarked_26 (by decide) (by omega) (by omega) (fun (c26_4 : bc ≤ i) => ?_) (fun (c26_4 : i < bc) => ?_)
            · skip
              refine z_iload_n C0 d_L_fewestMarked_68 rfl 2 rfl ?_
              exact z_iret C0 hA hQ hr d_L_fewestMarked_69 (⟨by rw [hR]; rfl, rfl⟩)
            · exact absurd c26_4 (by omega)
          | succ n ih =>
            intro i best hi hb hR
            refine z_iload_n C0 d_L_fewestMarked_21 rfl 3 rfl ?_
            refine z_aload_n C0 d_L_fewestMarked_22 rfl 0 rfl ?_
            refine z_get C0 gf_L_9 0 rfl rfl d_L_fewestMarked_23 ?_
            refine z_icmpN_ge (tgt := 68) C0 d_L_fewestMarked_26 (by decide) (by omega) (by omega) (fun (c26_5 : bc ≤ i) => ?_) (fun (c26_5 : i < bc) => ?_)
            · exact absurd c26_5 (by omega)
            · skip
              refine z_iload_n C0 d_L_fewestMarked_29 rfl 3 rfl ?_
              refine z_iload_n C0 d_L_fewestMarked_30 rfl 1 rfl ?_
              refine z_icmp_eq (tgt := 62) C0 d_L_fewestMarked_31 (by decide) (fun c31_6 => ?_) (fun c31_6 => ?_)
              · exact absurd c31_6 (nI_m1 (by omega))
              · skip
                refine z_aload_n C0 d_L_fewestMarked_34 rfl 0 rfl ?_
                refine z_iload_n C0 d_L_fewestMarked_35 rfl 3 rfl ?_
                refine z_allV (As := [.int (nI (i))]) (rest := []) C0 (c_L_isFree l D cI cZ x bc bp L hB0 (i) (by omega)) mt_L_isFree ml_L_48 vt_L_isFree rfl rfl ⟨Nat.le_of_ble_eq_true rfl, Nat.le_of_ble_eq_true rfl⟩ ⟨rfl, rfl⟩ ⟨Nat.zero_le _, Nat.zero_le _⟩ rfl rfl (Nat.le_of_ble_eq_true rfl) d_L_fewestMarked_36 ?_
                refine z_st (stn := [.int (bI (sl_free bp (zl_w L) (i)))]) rfl ?_
                refine z_ifB_ne (tgt := 62) C0 d_L_fewestMarked_39 (by decide) (fun (c39_7 : sl_free bp (zl_w L) (i) = true) => ?_) (fun (c39_7 : sl_free bp (zl_w L) (i) = false) => ?_)
                · skip
                  refine z_iincN (q := 3) (lvn := [(0, .ref (x 7)), (1, .int (-1)), (2, .int (oN (best))), (3, .int (nI (i + 1)))]) C0 d_L_fewestMarked_62 rfl (by decide) [1, 2, 3, 0] rfl ?_
                  refine z_gotoK (tgt := 21) C0 d_L_fewestMarked_65 (by decide) ?_
                  exact ih (i + 1) (best) (by omega) (fun q h => by have := hb q h; omega) (by rw [hR]; simp [sl_fms, sl_fewer, c26_5, c39_7])
                · skip
                  rcases best with _ | q0
                  · refine z_lvs (lvn := [(0, .ref (x 7)), (1, .int (-1)), (2, .int (-1)), (3, .int (nI (i)))]) rfl ?_
                    refine z_iload_n C0 d_L_fewestMarked_42 rfl 2 rfl ?_
                    refine z_iconst (v := -1) C0 d_L_fewestMarked_43 (by decide) ?_
                    refine z_icmp_eq (tgt := 60) C0 d_L_fewestMarked_44 (by decide) (fun c44_8 => ?_) (fun c44_8 => ?_)
                    · skip
                      refine z_iload_n C0 d_L_fewestMarked_60 rfl 3 rfl ?_
                      refine z_istore_n (lvn := [(0, .ref (x 7)), (1, .int (-1)), (2, .int (nI (i))), (3, .int (nI (i)))]) C0 d_L_fewestMarked_61 rfl (by decide) [1, 2, 0, 3] rfl ?_
                      refine z_iincN (q := 3) (lvn := [(0, .ref (x 7)), (1, .int (-1)), (2, .int (nI (i))), (3, .int (nI (i + 1)))]) C0 d_L_fewestMarked_62 rfl (by decide) [1, 2, 3, 0] rfl ?_
                      refine z_gotoK (tgt := 21) C0 d_L_fewestMarked_65 (by decide) ?_
                      exact ih (i + 1) (some (i)) (by omega) (fun q h => by cases h; omega) (by rw [hR]; simp [sl_fms, sl_fewer, c26_5, c39_7])
                    · exact absurd rfl c44_8
                  · refine z_lvs (lvn := [(0, .ref (x 7)), (1, .int (-1)), (2, .int (nI (q0))), (3, .int (nI (i)))]) rfl ?_
                    have hq0 := hb q0 rfl
                    refine z_iload_n C0 d_L_fewestMarked_42 rfl 2 rfl ?_
                    refine z_iconst (v := -1) C0 d_L_fewestMarked_43 (by decide) ?_
                    refine z_icmp_eq (tgt := 60) C0 d_L_fewestMarked_44 (by decide) (fun c44_9 => ?_) (fun c44_9 => ?_)
                    · exact absurd c44_9 (nI_m1 (by omega))
                    · skip
                      refine z_aload_n C0 d_L_fewestMarked_47 rfl 0 rfl ?_
                      refine z_iload_n C0 d_L_fewestMarked_48 rfl 3 rfl ?_
                      refine z_allV (As := [.int (nI (i))]) (rest := []) C0 (c_L_markedPages l D cI cZ x bc bp L hB0 (i) (by omega)) mt_L_markedPages ml_L_85 vt_L_markedPages rfl rfl ⟨Nat.le_of_ble_eq_true rfl, Nat.le_of_ble_eq_true rfl⟩ ⟨rfl, rfl⟩ ⟨Nat.zero_le _, Nat.zero_le _⟩ rfl rfl (Nat.le_of_ble_eq_true rfl) d_L_fewestMarked_49 ?_
                      refine z_st (stn := [.int (nI (sl_mk bp (zl_m L) (i)))]) rfl ?_
                      refine z_aload_n C0 d_L_fewestMarked_52 rfl 0 rfl ?_
                      refine z_iload_n C0 d_L_fewestMarked_53 rfl 2 rfl ?_
                      refine z_allV (As := [.int (nI (q0))]) (rest := [.int (nI (sl_mk bp (zl_m L) (i)))]) C0 (c_L_markedPages l D cI cZ x bc bp L hB0 (q0) (by omega)) mt_L_markedPages ml_L_85 vt_L_markedPages rfl rfl ⟨Nat.le_of_ble_eq_true rfl, Nat.le_of_ble_eq_true rfl⟩ ⟨rfl, rfl⟩ ⟨Nat.zero_le _, Nat.zero_le _⟩ rfl rfl (Nat.le_of_ble_eq_true rfl) d_L_fewestMarked_54 ?_
                      refine z_st (stn := [.int (nI (sl_mk bp (zl_m L) (q0))), .int (nI (sl_mk bp (zl_m L) (i)))]) rfl ?_
                      refine z_icmpN_ge (tgt := 62) C0 d_L_fewestMarked_57 (by decide) (Nat.lt_of_le_of_lt (zq_mkLe _ _ _) (by omega)) (Nat.lt_of_le_of_lt (zq_mkLe _ _ _) (by omega)) (fun (c57_10 : sl_mk bp (zl_m L) (q0) ≤ sl_mk bp (zl_m L) (i)) => ?_) (fun (c57_10 : sl_mk bp (zl_m L) (i) < sl_mk bp (zl_m L) (q0)) => ?_)
                      · skip
                        refine z_iincN (q := 3) (lvn := [(0, .ref (x 7)), (1, .int (-1)), (2, .int (nI (q0))), (3, .int (nI (i + 1)))]) C0 d_L_fewestMarked_62 rfl (by decide) [1, 2, 3, 0] rfl ?_
                        refine z_gotoK (tgt := 21) C0 d_L_fewestMarked_65 (by decide) ?_
                        exact ih (i + 1) (some (q0)) (by omega) (fun q h => by cases h; omega) (by rw [hR]; simp [sl_fms, sl_fewer, c26_5, c39_7, Nat.not_lt.mpr c57_10])
                      · skip
                        refine z_iload_n C0 d_L_fewestMarked_60 rfl 3 rfl ?_
                        refine z_istore_n (lvn := [(0, .ref (x 7)), (1, .int (-1)), (2, .int (nI (i))), (3, .int (nI (i)))]) C0 d_L_fewestMarked_61 rfl (by decide) [1, 2, 0, 3] rfl ?_
                        refine z_iincN (q := 3) (lvn := [(0, .ref (x 7)), (1, .int (-1)), (2, .int (nI (i))), (3, .int (nI (i + 1)))]) C0 d_L_fewestMarked_62 rfl (by decide) [1, 2, 3, 0] rfl ?_
                        refine z_gotoK (tgt := 21) C0 d_L_fewestMarked_65 (by decide) ?_
                        exact ih (i + 1) (some (i)) (by omega) (fun q h => by cases h; omega) (by rw [hR]; simp [sl_fms, sl_fewer, c26_5, c39_7, c57_10])
        exact lp21 (bc) (0) none (by omega) (fun q h => by cases h) (by unfold sl_fm sl_open; rw [if_pos e5_1])
    · refine z_st (stn := [.int (-1), .int (nI (g5_2))]) (by first | rfl | (rw [e5_1]; rfl)) ?_
      have hg5 := zq_hgLt hh e5_1
      rw [hhd] at e5_1; cases e5_1
  · refine z_lvs (lvn := [(0, .ref (x 7))]) (by first | rfl | (rw [hhd]; rfl)) ?_
    have hlt : hd < bc := hh hd hhd
    refine z_aload_n C0 d_L_fewestMarked_0 rfl 0 rfl ?_
    refine z_allV (As := []) (rest := []) C0 (c_L_headGap l D cI cZ x bc bp L hB0  (hh)) mt_L_headGap ml_L_69 vt_L_headGap rfl rfl ⟨Nat.le_of_ble_eq_true rfl, Nat.le_of_ble_eq_true rfl⟩ ⟨rfl, rfl⟩ ⟨Nat.zero_le _, Nat.zero_le _⟩ rfl rfl (Nat.le_of_ble_eq_true rfl) d_L_fewestMarked_1 ?_
    refine z_st (stn := [.int (oN (sl_hg bp (zl_w L) (zl_h L)))]) rfl ?_
    refine z_iconst (v := -1) C0 d_L_fewestMarked_4 (by decide) ?_
    rcases e5_11 : sl_hg bp (zl_w L) (zl_h L) with _ | g5_12
    · refine z_st (stn := [.int (-1), .int (-1)]) (by first | rfl | (rw [e5_11]; rfl)) ?_
      refine z_icmp_ne (tgt := 12) C0 d_L_fewestMarked_5 (by decide) (fun c5_13 => ?_) (fun c5_13 => ?_)
      · exact absurd rfl c5_13
      · skip
        refine z_iconst (v := -1) C0 d_L_fewestMarked_8 (by decide) ?_
        refine z_gotoK (tgt := 16) C0 d_L_fewestMarked_9 (by decide) ?_
        refine z_istore_n (lvn := [(0, .ref (x 7)), (1, .int (-1))]) C0 d_L_fewestMarked_16 rfl (by decide) [1, 0] rfl ?_
        refine z_iconst (v := -1) C0 d_L_fewestMarked_17 (by decide) ?_
        refine z_istore_n (lvn := [(0, .ref (x 7)), (1, .int (-1)), (2, .int (-1))]) C0 d_L_fewestMarked_18 rfl (by decide) [1, 2, 0] rfl ?_
        refine z_iconst (v := nI 0) C0 d_L_fewestMarked_19 (by decide) ?_
        refine z_istore_n (lvn := [(0, .ref (x 7)), (1, .int (-1)), (2, .int (-1)), (3, .int (nI (0)))]) C0 d_L_fewestMarked_20 rfl (by decide) [1, 2, 3, 0] rfl ?_
        have lp21 : ∀ (n : Nat) (i : Nat) (best : Option Nat), (i + n = bc) → (∀ q, best = some q → q < i) → (sl_fm bc bp (zl_w L) (zl_m L) (zl_h L) = sl_fms bp (zl_w L) (zl_m L) none n i best) → zc_Pt p l e { frames := 2, cells := 0, slots := 0, locals := 44 } s m args below meth c 4 D A 0 0 Q 21 [(0, .ref (x 7)), (1, .int (-1)), (2, .int (oN (best))), (3, .int (nI (i)))] [] (zl_W cI cZ x bc bp L) := by
          intro n
          induction n with
          | zero =>
            intro i best hi hb hR
            refine z_iload_n C0 d_L_fewestMarked_21 rfl 3 rfl ?_
            refine z_aload_n C0 d_L_fewestMarked_22 rfl 0 rfl ?_
            refine z_get C0 gf_L_9 0 rfl rfl d_L_fewestMarked_23 ?_
            refine z_icmpN_ge (tgt := 68) C0 d_L_fewestMarked_26 (by decide) (by omega) (by omega) (fun (c26_14 : bc ≤ i) => ?_) (fun (c26_14 : i < bc) => ?_)
            · skip
              refine z_iload_n C0 d_L_fewestMarked_68 rfl 2 rfl ?_
              exact z_iret C0 hA hQ hr d_L_fewestMarked_69 (⟨by rw [hR]; rfl, rfl⟩)
            · exact absurd c26_14 (by omega)
          | succ n ih =>
            intro i best hi hb hR
            refine z_iload_n C0 d_L_fewestMarked_21 rfl 3 rfl ?_
            refine z_aload_n C0 d_L_fewestMarked_22 rfl 0 rfl ?_
            refine z_get C0 gf_L_9 0 rfl rfl d_L_fewestMarked_23 ?_
            refine z_icmpN_ge (tgt := 68) C0 d_L_fewestMarked_26 (by decide) (by omega) (by omega) (fun (c26_15 : bc ≤ i) => ?_) (fun (c26_15 : i < bc) => ?_)
            · exact absurd c26_15 (by omega)
            · skip
              refine z_iload_n C0 d_L_fewestMarked_29 rfl 3 rfl ?_
              refine z_iload_n C0 d_L_fewestMarked_30 rfl 1 rfl ?_
              refine z_icmp_eq (tgt := 62) C0 d_L_fewestMarked_31 (by decide) (fun c31_16 => ?_) (fun c31_16 => ?_)
              · exact absurd c31_16 (nI_m1 (by omega))
              · skip
                refine z_aload_n C0 d_L_fewestMarked_34 rfl 0 rfl ?_
                refine z_iload_n C0 d_L_fewestMarked_35 rfl 3 rfl ?_
                refine z_allV (As := [.int (nI (i))]) (rest := []) C0 (c_L_isFree l D cI cZ x bc bp L hB0 (i) (by omega)) mt_L_isFree ml_L_48 vt_L_isFree rfl rfl ⟨Nat.le_of_ble_eq_true rfl, Nat.le_of_ble_eq_true rfl⟩ ⟨rfl, rfl⟩ ⟨Nat.zero_le _, Nat.zero_le _⟩ rfl rfl (Nat.le_of_ble_eq_true rfl) d_L_fewestMarked_36 ?_
                refine z_st (stn := [.int (bI (sl_free bp (zl_w L) (i)))]) rfl ?_
                refine z_ifB_ne (tgt := 62) C0 d_L_fewestMarked_39 (by decide) (fun (c39_17 : sl_free bp (zl_w L) (i) = true) => ?_) (fun (c39_17 : sl_free bp (zl_w L) (i) = false) => ?_)
                · skip
                  refine z_iincN (q := 3) (lvn := [(0, .ref (x 7)), (1, .int (-1)), (2, .int (oN (best))), (3, .int (nI (i + 1)))]) C0 d_L_fewestMarked_62 rfl (by decide) [1, 2, 3, 0] rfl ?_
                  refine z_gotoK (tgt := 21) C0 d_L_fewestMarked_65 (by decide) ?_
                  exact ih (i + 1) (best) (by omega) (fun q h => by have := hb q h; omega) (by rw [hR]; simp [sl_fms, sl_fewer, c26_15, c39_17])
                · skip
                  rcases best with _ | q0
                  · refine z_lvs (lvn := [(0, .ref (x 7)), (1, .int (-1)), (2, .int (-1)), (3, .int (nI (i)))]) rfl ?_
                    refine z_iload_n C0 d_L_fewestMarked_42 rfl 2 rfl ?_
                    refine z_iconst (v := -1) C0 d_L_fewestMarked_43 (by decide) ?_
                    refine z_icmp_eq (tgt := 60) C0 d_L_fewestMarked_44 (by decide) (fun c44_18 => ?_) (fun c44_18 => ?_)
                    · skip
                      refine z_iload_n C0 d_L_fewestMarked_60 rfl 3 rfl ?_
                      refine z_istore_n (lvn := [(0, .ref (x 7)), (1, .int (-1)), (2, .int (nI (i))), (3, .int (nI (i)))]) C0 d_L_fewestMarked_61 rfl (by decide) [1, 2, 0, 3] rfl ?_
                      refine z_iincN (q := 3) (lvn := [(0, .ref (x 7)), (1, .int (-1)), (2, .int (nI (i))), (3, .int (nI (i + 1)))]) C0 d_L_fewestMarked_62 rfl (by decide) [1, 2, 3, 0] rfl ?_
                      refine z_gotoK (tgt := 21) C0 d_L_fewestMarked_65 (by decide) ?_
                      exact ih (i + 1) (some (i)) (by omega) (fun q h => by cases h; omega) (by rw [hR]; simp [sl_fms, sl_fewer, c26_15, c39_17])
                    · exact absurd rfl c44_18
                  · refine z_lvs (lvn := [(0, .ref (x 7)), (1, .int (-1)), (2, .int (nI (q0))), (3, .int (nI (i)))]) rfl ?_
                    have hq0 := hb q0 rfl
                    refine z_iload_n C0 d_L_fewestMarked_42 rfl 2 rfl ?_
                    refine z_iconst (v := -1) C0 d_L_fewestMarked_43 (by decide) ?_
                    refine z_icmp_eq (tgt := 60) C0 d_L_fewestMarked_44 (by decide) (fun c44_19 => ?_) (fun c44_19 => ?_)
                    · exact absurd c44_19 (nI_m1 (by omega))
                    · skip
                      refine z_aload_n C0 d_L_fewestMarked_47 rfl 0 rfl ?_
                      refine z_iload_n C0 d_L_fewestMarked_48 rfl 3 rfl ?_
                      refine z_allV (As := [.int (nI (i))]) (rest := []) C0 (c_L_markedPages l D cI cZ x bc bp L hB0 (i) (by omega)) mt_L_markedPages ml_L_85 vt_L_markedPages rfl rfl ⟨Nat.le_of_ble_eq_true rfl, Nat.le_of_ble_eq_true rfl⟩ ⟨rfl, rfl⟩ ⟨Nat.zero_le _, Nat.zero_le _⟩ rfl rfl (Nat.le_of_ble_eq_true rfl) d_L_fewestMarked_49 ?_
                      refine z_st (stn := [.int (nI (sl_mk bp (zl_m L) (i)))]) rfl ?_
                      refine z_aload_n C0 d_L_fewestMarked_52 rfl 0 rfl ?_
                      refine z_iload_n C0 d_L_fewestMarked_53 rfl 2 rfl ?_
                      refine z_allV (As := [.int (nI (q0))]) (rest := [.int (nI (sl_mk bp (zl_m L) (i)))]) C0 (c_L_markedPages l D cI cZ x bc bp L hB0 (q0) (by omega)) mt_L_markedPages ml_L_85 vt_L_markedPages rfl rfl ⟨Nat.le_of_ble_eq_true rfl, Nat.le_of_ble_eq_true rfl⟩ ⟨rfl, rfl⟩ ⟨Nat.zero_le _, Nat.zero_le _⟩ rfl rfl (Nat.le_of_ble_eq_true rfl) d_L_fewestMarked_54 ?_
                      refine z_st (stn := [.int (nI (sl_mk bp (zl_m L) (q0))), .int (nI (sl_mk bp (zl_m L) (i)))]) rfl ?_
                      refine z_icmpN_ge (tgt := 62) C0 d_L_fewestMarked_57 (by decide) (Nat.lt_of_le_of_lt (zq_mkLe _ _ _) (by omega)) (Nat.lt_of_le_of_lt (zq_mkLe _ _ _) (by omega)) (fun (c57_20 : sl_mk bp (zl_m L) (q0) ≤ sl_mk bp (zl_m L) (i)) => ?_) (fun (c57_20 : sl_mk bp (zl_m L) (i) < sl_mk bp (zl_m L) (q0)) => ?_)
                      · skip
                        refine z_iincN (q := 3) (lvn := [(0, .ref (x 7)), (1, .int (-1)), (2, .int (nI (q0))), (3, .int (nI (i + 1)))]) C0 d_L_fewestMarked_62 rfl (by decide) [1, 2, 3, 0] rfl ?_
                        refine z_gotoK (tgt := 21) C0 d_L_fewestMarked_65 (by decide) ?_
                        exact ih (i + 1) (some (q0)) (by omega) (fun q h => by cases h; omega) (by rw [hR]; simp [sl_fms, sl_fewer, c26_15, c39_17, Nat.not_lt.mpr c57_20])
                      · skip
                        refine z_iload_n C0 d_L_fewestMarked_60 rfl 3 rfl ?_
                        refine z_istore_n (lvn := [(0, .ref (x 7)), (1, .int (-1)), (2, .int (nI (i))), (3, .int (nI (i)))]) C0 d_L_fewestMarked_61 rfl (by decide) [1, 2, 0, 3] rfl ?_
                        refine z_iincN (q := 3) (lvn := [(0, .ref (x 7)), (1, .int (-1)), (2, .int (nI (i))), (3, .int (nI (i + 1)))]) C0 d_L_fewestMarked_62 rfl (by decide) [1, 2, 3, 0] rfl ?_
                        refine z_gotoK (tgt := 21) C0 d_L_fewestMarked_65 (by decide) ?_
                        exact ih (i + 1) (some (i)) (by omega) (fun q h => by cases h; omega) (by rw [hR]; simp [sl_fms, sl_fewer, c26_15, c39_17, c57_20])
        exact lp21 (bc) (0) none (by omega) (fun q h => by cases h) (by unfold sl_fm sl_open; rw [if_pos e5_11])
    · refine z_st (stn := [.int (-1), .int (nI (g5_12))]) (by first | rfl | (rw [e5_11]; rfl)) ?_
      have hg5 := zq_hgLt hh e5_11
      refine z_icmp_ne (tgt := 12) C0 d_L_fewestMarked_5 (by decide) (fun c5_21 => ?_) (fun c5_21 => ?_)
      · skip
        refine z_aload_n C0 d_L_fewestMarked_12 rfl 0 rfl ?_
        refine z_get C0 gf_L_42 0 rfl rfl d_L_fewestMarked_13 ?_
        refine z_top (vn := .int (nI (hd))) (by first | rfl | (rw [hhd]; rfl)) ?_
        refine z_istore_n (lvn := [(0, .ref (x 7)), (1, .int (nI (hd)))]) C0 d_L_fewestMarked_16 rfl (by decide) [1, 0] rfl ?_
        refine z_iconst (v := -1) C0 d_L_fewestMarked_17 (by decide) ?_
        refine z_istore_n (lvn := [(0, .ref (x 7)), (1, .int (nI (hd))), (2, .int (-1))]) C0 d_L_fewestMarked_18 rfl (by decide) [1, 2, 0] rfl ?_
        refine z_iconst (v := nI 0) C0 d_L_fewestMarked_19 (by decide) ?_
        refine z_istore_n (lvn := [(0, .ref (x 7)), (1, .int (nI (hd))), (2, .int (-1)), (3, .int (nI (0)))]) C0 d_L_fewestMarked_20 rfl (by decide) [1, 2, 3, 0] rfl ?_
        have lp21 : ∀ (n : Nat) (i : Nat) (best : Option Nat), (i + n = bc) → (∀ q, best = some q → q < i) → (sl_fm bc bp (zl_w L) (zl_m L) (zl_h L) = sl_fms bp (zl_w L) (zl_m L) (some hd) n i best) → zc_Pt p l e { frames := 2, cells := 0, slots := 0, locals := 44 } s m args below meth c 4 D A 0 0 Q 21 [(0, .ref (x 7)), (1, .int (nI (hd))), (2, .int (oN (best))), (3, .int (nI (i)))] [] (zl_W cI cZ x bc bp L) := by
          intro n
          induction n with
          | zero =>
            intro i best hi hb hR
            refine z_iload_n C0 d_L_fewestMarked_21 rfl 3 rfl ?_
            refine z_aload_n C0 d_L_fewestMarked_22 rfl 0 rfl ?_
            refine z_get C0 gf_L_9 0 rfl rfl d_L_fewestMarked_23 ?_
            refine z_icmpN_ge (tgt := 68) C0 d_L_fewestMarked_26 (by decide) (by omega) (by omega) (fun (c26_22 : bc ≤ i) => ?_) (fun (c26_22 : i < bc) => ?_)
            · skip
              refine z_iload_n C0 d_L_fewestMarked_68 rfl 2 rfl ?_
              exact z_iret C0 hA hQ hr d_L_fewestMarked_69 (⟨by rw [hR]; rfl, rfl⟩)
            · exact absurd c26_22 (by omega)
          | succ n ih =>
            intro i best hi hb hR
            refine z_iload_n C0 d_L_fewestMarked_21 rfl 3 rfl ?_
            refine z_aload_n C0 d_L_fewestMarked_22 rfl 0 rfl ?_
            refine z_get C0 gf_L_9 0 rfl rfl d_L_fewestMarked_23 ?_
            refine z_icmpN_ge (tgt := 68) C0 d_L_fewestMarked_26 (by decide) (by omega) (by omega) (fun (c26_23 : bc ≤ i) => ?_) (fun (c26_23 : i < bc) => ?_)
            · exact absurd c26_23 (by omega)
            · skip
              refine z_iload_n C0 d_L_fewestMarked_29 rfl 3 rfl ?_
              refine z_iload_n C0 d_L_fewestMarked_30 rfl 1 rfl ?_
              refine z_icmpN_eq (tgt := 62) C0 d_L_fewestMarked_31 (by decide) (by omega) (by omega) (fun (c31_24 : i = hd) => ?_) (fun (c31_24 : i ≠ hd) => ?_)
              · skip
                refine z_iincN (q := 3) (lvn := [(0, .ref (x 7)), (1, .int (nI (hd))), (2, .int (oN (best))), (3, .int (nI (i + 1)))]) C0 d_L_fewestMarked_62 rfl (by decide) [1, 2, 3, 0] rfl ?_
                refine z_gotoK (tgt := 21) C0 d_L_fewestMarked_65 (by decide) ?_
                exact ih (i + 1) (best) (by omega) (fun q h => by have := hb q h; omega) (by rw [hR]; simp [sl_fms, sl_fewer, c26_23, c31_24])
              · skip
                refine z_aload_n C0 d_L_fewestMarked_34 rfl 0 rfl ?_
                refine z_iload_n C0 d_L_fewestMarked_35 rfl 3 rfl ?_
                refine z_allV (As := [.int (nI (i))]) (rest := []) C0 (c_L_isFree l D cI cZ x bc bp L hB0 (i) (by omega)) mt_L_isFree ml_L_48 vt_L_isFree rfl rfl ⟨Nat.le_of_ble_eq_true rfl, Nat.le_of_ble_eq_true rfl⟩ ⟨rfl, rfl⟩ ⟨Nat.zero_le _, Nat.zero_le _⟩ rfl rfl (Nat.le_of_ble_eq_true rfl) d_L_fewestMarked_36 ?_
                refine z_st (stn := [.int (bI (sl_free bp (zl_w L) (i)))]) rfl ?_
                refine z_ifB_ne (tgt := 62) C0 d_L_fewestMarked_39 (by decide) (fun (c39_25 : sl_free bp (zl_w L) (i) = true) => ?_) (fun (c39_25 : sl_free bp (zl_w L) (i) = false) => ?_)
                · skip
                  refine z_iincN (q := 3) (lvn := [(0, .ref (x 7)), (1, .int (nI (hd))), (2, .int (oN (best))), (3, .int (nI (i + 1)))]) C0 d_L_fewestMarked_62 rfl (by decide) [1, 2, 3, 0] rfl ?_
                  refine z_gotoK (tgt := 21) C0 d_L_fewestMarked_65 (by decide) ?_
                  exact ih (i + 1) (best) (by omega) (fun q h => by have := hb q h; omega) (by rw [hR]; simp [sl_fms, sl_fewer, c26_23, Ne.symm c31_24, c39_25])
                · skip
                  rcases best with _ | q0
                  · refine z_lvs (lvn := [(0, .ref (x 7)), (1, .int (nI (hd))), (2, .int (-1)), (3, .int (nI (i)))]) rfl ?_
                    refine z_iload_n C0 d_L_fewestMarked_42 rfl 2 rfl ?_
                    refine z_iconst (v := -1) C0 d_L_fewestMarked_43 (by decide) ?_
                    refine z_icmp_eq (tgt := 60) C0 d_L_fewestMarked_44 (by decide) (fun c44_26 => ?_) (fun c44_26 => ?_)
                    · skip
                      refine z_iload_n C0 d_L_fewestMarked_60 rfl 3 rfl ?_
                      refine z_istore_n (lvn := [(0, .ref (x 7)), (1, .int (nI (hd))), (2, .int (nI (i))), (3, .int (nI (i)))]) C0 d_L_fewestMarked_61 rfl (by decide) [1, 2, 0, 3] rfl ?_
                      refine z_iincN (q := 3) (lvn := [(0, .ref (x 7)), (1, .int (nI (hd))), (2, .int (nI (i))), (3, .int (nI (i + 1)))]) C0 d_L_fewestMarked_62 rfl (by decide) [1, 2, 3, 0] rfl ?_
                      refine z_gotoK (tgt := 21) C0 d_L_fewestMarked_65 (by decide) ?_
                      exact ih (i + 1) (some (i)) (by omega) (fun q h => by cases h; omega) (by rw [hR]; simp [sl_fms, sl_fewer, c26_23, Ne.symm c31_24, c39_25])
                    · exact absurd rfl c44_26
                  · refine z_lvs (lvn := [(0, .ref (x 7)), (1, .int (nI (hd))), (2, .int (nI (q0))), (3, .int (nI (i)))]) rfl ?_
                    have hq0 := hb q0 rfl
                    refine z_iload_n C0 d_L_fewestMarked_42 rfl 2 rfl ?_
                    refine z_iconst (v := -1) C0 d_L_fewestMarked_43 (by decide) ?_
                    refine z_icmp_eq (tgt := 60) C0 d_L_fewestMarked_44 (by decide) (fun c44_27 => ?_) (fun c44_27 => ?_)
                    · exact absurd c44_27 (nI_m1 (by omega))
                    · skip
                      refine z_aload_n C0 d_L_fewestMarked_47 rfl 0 rfl ?_
                      refine z_iload_n C0 d_L_fewestMarked_48 rfl 3 rfl ?_
                      refine z_allV (As := [.int (nI (i))]) (rest := []) C0 (c_L_markedPages l D cI cZ x bc bp L hB0 (i) (by omega)) mt_L_markedPages ml_L_85 vt_L_markedPages rfl rfl ⟨Nat.le_of_ble_eq_true rfl, Nat.le_of_ble_eq_true rfl⟩ ⟨rfl, rfl⟩ ⟨Nat.zero_le _, Nat.zero_le _⟩ rfl rfl (Nat.le_of_ble_eq_true rfl) d_L_fewestMarked_49 ?_
                      refine z_st (stn := [.int (nI (sl_mk bp (zl_m L) (i)))]) rfl ?_
                      refine z_aload_n C0 d_L_fewestMarked_52 rfl 0 rfl ?_
                      refine z_iload_n C0 d_L_fewestMarked_53 rfl 2 rfl ?_
                      refine z_allV (As := [.int (nI (q0))]) (rest := [.int (nI (sl_mk bp (zl_m L) (i)))]) C0 (c_L_markedPages l D cI cZ x bc bp L hB0 (q0) (by omega)) mt_L_markedPages ml_L_85 vt_L_markedPages rfl rfl ⟨Nat.le_of_ble_eq_true rfl, Nat.le_of_ble_eq_true rfl⟩ ⟨rfl, rfl⟩ ⟨Nat.zero_le _, Nat.zero_le _⟩ rfl rfl (Nat.le_of_ble_eq_true rfl) d_L_fewestMarked_54 ?_
                      refine z_st (stn := [.int (nI (sl_mk bp (zl_m L) (q0))), .int (nI (sl_mk bp (zl_m L) (i)))]) rfl ?_
                      refine z_icmpN_ge (tgt := 62) C0 d_L_fewestMarked_57 (by decide) (Nat.lt_of_le_of_lt (zq_mkLe _ _ _) (by omega)) (Nat.lt_of_le_of_lt (zq_mkLe _ _ _) (by omega)) (fun (c57_28 : sl_mk bp (zl_m L) (q0) ≤ sl_mk bp (zl_m L) (i)) => ?_) (fun (c57_28 : sl_mk bp (zl_m L) (i) < sl_mk bp (zl_m L) (q0)) => ?_)
                      · skip
                        refine z_iincN (q := 3) (lvn := [(0, .ref (x 7)), (1, .int (nI (hd))), (2, .int (nI (q0))), (3, .int (nI (i + 1)))]) C0 d_L_fewestMarked_62 rfl (by decide) [1, 2, 3, 0] rfl ?_
                        refine z_gotoK (tgt := 21) C0 d_L_fewestMarked_65 (by decide) ?_
                        exact ih (i + 1) (some (q0)) (by omega) (fun q h => by cases h; omega) (by rw [hR]; simp [sl_fms, sl_fewer, c26_23, Ne.symm c31_24, c39_25, Nat.not_lt.mpr c57_28])
                      · skip
                        refine z_iload_n C0 d_L_fewestMarked_60 rfl 3 rfl ?_
                        refine z_istore_n (lvn := [(0, .ref (x 7)), (1, .int (nI (hd))), (2, .int (nI (i))), (3, .int (nI (i)))]) C0 d_L_fewestMarked_61 rfl (by decide) [1, 2, 0, 3] rfl ?_
                        refine z_iincN (q := 3) (lvn := [(0, .ref (x 7)), (1, .int (nI (hd))), (2, .int (nI (i))), (3, .int (nI (i + 1)))]) C0 d_L_fewestMarked_62 rfl (by decide) [1, 2, 3, 0] rfl ?_
                        refine z_gotoK (tgt := 21) C0 d_L_fewestMarked_65 (by decide) ?_
                        exact ih (i + 1) (some (i)) (by omega) (fun q h => by cases h; omega) (by rw [hR]; simp [sl_fms, sl_fewer, c26_23, Ne.symm c31_24, c39_25, c57_28])
        exact lp21 (bc) (0) none (by omega) (fun q h => by cases h) (by unfold sl_fm sl_open; rw [if_neg (by rw [e5_11]; exact fun z => by cases z), hhd])
      · exact absurd c5_21 (nI_m1 (by omega))

set_option maxHeartbeats 4000000 in
set_option maxRecDepth 100000 in
theorem c_L_chooseBlock (l : Launch) (D : va_G) (cI cZ : ClassId) (x : Nat → Nat) (bc bp : Nat) (L : zl_S) (hB : zb_ok bc bp)  (hh : zh_ok bc (zl_h L)) : zc_Con l y_L_chooseBlock b_L_chooseBlock 3 (some .int) { frames := 3, cells := 0, slots := 0, locals := 67 } D cI cZ [.ref (x 7)] (zl_W cI cZ x bc bp L) (zo (some (.int (oN (sl_choose bc bp L)))) (zl_W cI cZ x bc bp (sl_setM L (sl_mn bc bp L)))) := by
  refine zc_start (by decide) (Nat.le_of_ble_eq_true rfl) ?_
  intro p e s m args below meth c A Q hA hQ C0 hr hin
  have C0 : zc_Cx p s m args meth c b_L_chooseBlock 3 R_L D cI cZ A := C0
  have hB0 := hB
  obtain ⟨hB1, hB2, hB3, hB4⟩ := hB
  have hN : bc * bp ≤ 20 := Nat.mul_le_mul hB2 hB4
  refine z_lvs (lvn := [(0, .ref (x 7))]) rfl ?_
  rcases hhd : zl_h L with _ | hd
  · refine z_lvs (lvn := [(0, .ref (x 7))]) (by first | rfl | (rw [hhd]; rfl)) ?_
    refine z_aload_n C0 d_L_chooseBlock_0 rfl 0 rfl ?_
    refine z_allV (As := []) (rest := []) C0 (c_L_markNeeded l D cI cZ x bc bp L hB0  (hh)) mt_L_markNeeded ml_L_79 vt_L_markNeeded rfl rfl ⟨Nat.le_of_ble_eq_true rfl, Nat.le_of_ble_eq_true rfl⟩ ⟨rfl, rfl⟩ ⟨Nat.zero_le _, Nat.zero_le _⟩ rfl rfl (Nat.le_of_ble_eq_true rfl) d_L_chooseBlock_1 ?_
    refine z_st (stn := []) rfl ?_
    refine z_aload_n C0 d_L_chooseBlock_4 rfl 0 rfl ?_
    refine z_allV (As := []) (rest := []) C0 (c_L_fewestMarked l D cI cZ x bc bp (sl_setM L (sl_mn bc bp L)) hB0  (hh)) mt_L_fewestMarked ml_L_82 vt_L_fewestMarked rfl rfl ⟨Nat.le_of_ble_eq_true rfl, Nat.le_of_ble_eq_true rfl⟩ ⟨rfl, rfl⟩ ⟨Nat.zero_le _, Nat.zero_le _⟩ rfl rfl (Nat.le_of_ble_eq_true rfl) d_L_chooseBlock_5 ?_
    refine z_st (stn := [.int (oN (sl_fm bc bp (zl_w L) (sl_mn bc bp L) (zl_h L)))]) rfl ?_
    refine z_istore_n (lvn := [(0, .ref (x 7)), (1, .int (oN (sl_fm bc bp (zl_w L) (sl_mn bc bp L) (zl_h L))))]) C0 d_L_chooseBlock_8 rfl (by decide) [1, 0] rfl ?_
    refine z_iload_n C0 d_L_chooseBlock_9 rfl 1 rfl ?_
    refine z_iconst (v := -1) C0 d_L_chooseBlock_10 (by decide) ?_
    rcases e11_1 : sl_fm bc bp (zl_w L) (sl_mn bc bp L) (zl_h L) with _ | g11_2
    · refine z_st (stn := [.int (-1), .int (-1)]) (by first | rfl | (rw [e11_1]; rfl)) ?_
      refine z_lvs (lvn := [(0, .ref (x 7)), (1, .int (-1))]) (by first | rfl | (rw [e11_1]; rfl)) ?_
      refine z_icmp_eq (tgt := 26) C0 d_L_chooseBlock_11 (by decide) (fun c11_3 => ?_) (fun c11_3 => ?_)
      · skip
        refine z_iconst (v := -1) C0 d_L_chooseBlock_26 (by decide) ?_
        exact z_iret C0 hA hQ hr d_L_chooseBlock_27 (by have e9 : sl_choose bc bp L = none := (by unfold sl_choose; rw [e11_1, hhd]; simp [sl_fit, ]); exact ⟨by rw [e9]; rfl, rfl⟩)
      · exact absurd rfl c11_3
    · refine z_st (stn := [.int (-1), .int (nI (g11_2))]) (by first | rfl | (rw [e11_1]; rfl)) ?_
      refine z_lvs (lvn := [(0, .ref (x 7)), (1, .int (nI (g11_2)))]) (by first | rfl | (rw [e11_1]; rfl)) ?_
      have hg11 := zq_fmLt e11_1
      refine z_icmp_eq (tgt := 26) C0 d_L_chooseBlock_11 (by decide) (fun c11_4 => ?_) (fun c11_4 => ?_)
      · exact absurd c11_4 (nI_m1 (by omega))
      · skip
        refine z_aload_n C0 d_L_chooseBlock_14 rfl 0 rfl ?_
        refine z_iload_n C0 d_L_chooseBlock_15 rfl 1 rfl ?_
        refine z_allV (As := [.int (nI (g11_2))]) (rest := []) C0 (c_L_markedPages l D cI cZ x bc bp (sl_setM L (sl_mn bc bp L)) hB0 (g11_2) (by omega)) mt_L_markedPages ml_L_85 vt_L_markedPages rfl rfl ⟨Nat.le_of_ble_eq_true rfl, Nat.le_of_ble_eq_true rfl⟩ ⟨rfl, rfl⟩ ⟨Nat.zero_le _, Nat.zero_le _⟩ rfl rfl (Nat.le_of_ble_eq_true rfl) d_L_chooseBlock_16 ?_
        refine z_st (stn := [.int (nI (sl_mk bp (sl_mn bc bp L) (g11_2)))]) rfl ?_
        refine z_aload_n C0 d_L_chooseBlock_19 rfl 0 rfl ?_
        refine z_get C0 gf_L_15 0 rfl rfl d_L_chooseBlock_20 ?_
        refine z_icmpN_ne (tgt := 28) C0 d_L_chooseBlock_23 (by decide) (Nat.lt_of_le_of_lt (zq_mkLe _ _ _) (by omega)) (by omega) (fun (c23_5 : sl_mk bp (sl_mn bc bp L) (g11_2) ≠ bp) => ?_) (fun (c23_5 : sl_mk bp (sl_mn bc bp L) (g11_2) = bp) => ?_)
        · skip
          refine z_aload_n C0 d_L_chooseBlock_28 rfl 0 rfl ?_
          refine z_allV (As := []) (rest := []) C0 (c_L_headGap l D cI cZ x bc bp (sl_setM L (sl_mn bc bp L)) hB0  (hh)) mt_L_headGap ml_L_69 vt_L_headGap rfl rfl ⟨Nat.le_of_ble_eq_true rfl, Nat.le_of_ble_eq_true rfl⟩ ⟨rfl, rfl⟩ ⟨Nat.zero_le _, Nat.zero_le _⟩ rfl rfl (Nat.le_of_ble_eq_true rfl) d_L_chooseBlock_29 ?_
          refine z_st (stn := [.int (oN (sl_hg bp (zl_w L) (zl_h L)))]) rfl ?_
          refine z_iconst (v := -1) C0 d_L_chooseBlock_32 (by decide) ?_
          rcases e33_6 : sl_hg bp (zl_w L) (zl_h L) with _ | g33_7
          · refine z_st (stn := [.int (-1), .int (-1)]) (by first | rfl | (rw [e33_6]; rfl)) ?_
            refine z_icmp_eq (tgt := 52) C0 d_L_chooseBlock_33 (by decide) (fun c33_8 => ?_) (fun c33_8 => ?_)
            · skip
              refine z_iconst (v := nI 1) C0 d_L_chooseBlock_52 (by decide) ?_
              refine z_gotoK (tgt := 57) C0 d_L_chooseBlock_53 (by decide) ?_
              refine z_istore_n (lvn := [(0, .ref (x 7)), (1, .int (nI (g11_2))), (2, .int (nI (1)))]) C0 d_L_chooseBlock_57 rfl (by decide) [1, 2, 0] rfl ?_
              refine z_iload_n C0 d_L_chooseBlock_58 rfl 2 rfl ?_
              refine z_ifN_eq (tgt := 66) C0 d_L_chooseBlock_59 (by decide) (by omega) (fun c59_9 => ?_) (fun c59_9 => ?_)
              · exact absurd c59_9 (by decide)
              · skip
                refine z_iload_n C0 d_L_chooseBlock_62 rfl 1 rfl ?_
                refine z_gotoK (tgt := 67) C0 d_L_chooseBlock_63 (by decide) ?_
                exact z_iret C0 hA hQ hr d_L_chooseBlock_67 (by have e33 : sl_hg bp (zl_w L) none = none := (congrArg (sl_hg bp (zl_w L)) hhd).symm.trans e33_6; have e9 : sl_choose bc bp L = some g11_2 := (by unfold sl_choose; rw [e11_1, hhd]; simp [sl_fit, c23_5, e33]); exact ⟨by rw [e9]; rfl, rfl⟩)
            · exact absurd rfl c33_8
          · refine z_st (stn := [.int (-1), .int (nI (g33_7))]) (by first | rfl | (rw [e33_6]; rfl)) ?_
            have hg33 := zq_hgLt hh e33_6
            rw [hhd] at e33_6; cases e33_6
        · skip
          refine z_iconst (v := -1) C0 d_L_chooseBlock_26 (by decide) ?_
          exact z_iret C0 hA hQ hr d_L_chooseBlock_27 (by have e9 : sl_choose bc bp L = none := (by unfold sl_choose; rw [e11_1, hhd]; simp [sl_fit, c23_5]); exact ⟨by rw [e9]; rfl, rfl⟩)
  · refine z_lvs (lvn := [(0, .ref (x 7))]) (by first | rfl | (rw [hhd]; rfl)) ?_
    have hlt : hd < bc := hh hd hhd
    refine z_aload_n C0 d_L_chooseBlock_0 rfl 0 rfl ?_
    refine z_allV (As := []) (rest := []) C0 (c_L_markNeeded l D cI cZ x bc bp L hB0  (hh)) mt_L_markNeeded ml_L_79 vt_L_markNeeded rfl rfl ⟨Nat.le_of_ble_eq_true rfl, Nat.le_of_ble_eq_true rfl⟩ ⟨rfl, rfl⟩ ⟨Nat.zero_le _, Nat.zero_le _⟩ rfl rfl (Nat.le_of_ble_eq_true rfl) d_L_chooseBlock_1 ?_
    refine z_st (stn := []) rfl ?_
    refine z_aload_n C0 d_L_chooseBlock_4 rfl 0 rfl ?_
    refine z_allV (As := []) (rest := []) C0 (c_L_fewestMarked l D cI cZ x bc bp (sl_setM L (sl_mn bc bp L)) hB0  (hh)) mt_L_fewestMarked ml_L_82 vt_L_fewestMarked rfl rfl ⟨Nat.le_of_ble_eq_true rfl, Nat.le_of_ble_eq_true rfl⟩ ⟨rfl, rfl⟩ ⟨Nat.zero_le _, Nat.zero_le _⟩ rfl rfl (Nat.le_of_ble_eq_true rfl) d_L_chooseBlock_5 ?_
    refine z_st (stn := [.int (oN (sl_fm bc bp (zl_w L) (sl_mn bc bp L) (zl_h L)))]) rfl ?_
    refine z_istore_n (lvn := [(0, .ref (x 7)), (1, .int (oN (sl_fm bc bp (zl_w L) (sl_mn bc bp L) (zl_h L))))]) C0 d_L_chooseBlock_8 rfl (by decide) [1, 0] rfl ?_
    refine z_iload_n C0 d_L_chooseBlock_9 rfl 1 rfl ?_
    refine z_iconst (v := -1) C0 d_L_chooseBlock_10 (by decide) ?_
    rcases e11_10 : sl_fm bc bp (zl_w L) (sl_mn bc bp L) (zl_h L) with _ | g11_11
    · refine z_st (stn := [.int (-1), .int (-1)]) (by first | rfl | (rw [e11_10]; rfl)) ?_
      refine z_lvs (lvn := [(0, .ref (x 7)), (1, .int (-1))]) (by first | rfl | (rw [e11_10]; rfl)) ?_
      refine z_icmp_eq (tgt := 26) C0 d_L_chooseBlock_11 (by decide) (fun c11_12 => ?_) (fun c11_12 => ?_)
      · skip
        refine z_iconst (v := -1) C0 d_L_chooseBlock_26 (by decide) ?_
        exact z_iret C0 hA hQ hr d_L_chooseBlock_27 (by have e9 : sl_choose bc bp L = none := (by unfold sl_choose; rw [e11_10, hhd]; simp [sl_fit, ]); exact ⟨by rw [e9]; rfl, rfl⟩)
      · exact absurd rfl c11_12
    · refine z_st (stn := [.int (-1), .int (nI (g11_11))]) (by first | rfl | (rw [e11_10]; rfl)) ?_
      refine z_lvs (lvn := [(0, .ref (x 7)), (1, .int (nI (g11_11)))]) (by first | rfl | (rw [e11_10]; rfl)) ?_
      have hg11 := zq_fmLt e11_10
      refine z_icmp_eq (tgt := 26) C0 d_L_chooseBlock_11 (by decide) (fun c11_13 => ?_) (fun c11_13 => ?_)
      · exact absurd c11_13 (nI_m1 (by omega))
      · skip
        refine z_aload_n C0 d_L_chooseBlock_14 rfl 0 rfl ?_
        refine z_iload_n C0 d_L_chooseBlock_15 rfl 1 rfl ?_
        refine z_allV (As := [.int (nI (g11_11))]) (rest := []) C0 (c_L_markedPages l D cI cZ x bc bp (sl_setM L (sl_mn bc bp L)) hB0 (g11_11) (by omega)) mt_L_markedPages ml_L_85 vt_L_markedPages rfl rfl ⟨Nat.le_of_ble_eq_true rfl, Nat.le_of_ble_eq_true rfl⟩ ⟨rfl, rfl⟩ ⟨Nat.zero_le _, Nat.zero_le _⟩ rfl rfl (Nat.le_of_ble_eq_true rfl) d_L_chooseBlock_16 ?_
        refine z_st (stn := [.int (nI (sl_mk bp (sl_mn bc bp L) (g11_11)))]) rfl ?_
        refine z_aload_n C0 d_L_chooseBlock_19 rfl 0 rfl ?_
        refine z_get C0 gf_L_15 0 rfl rfl d_L_chooseBlock_20 ?_
        refine z_icmpN_ne (tgt := 28) C0 d_L_chooseBlock_23 (by decide) (Nat.lt_of_le_of_lt (zq_mkLe _ _ _) (by omega)) (by omega) (fun (c23_14 : sl_mk bp (sl_mn bc bp L) (g11_11) ≠ bp) => ?_) (fun (c23_14 : sl_mk bp (sl_mn bc bp L) (g11_11) = bp) => ?_)
        · skip
          refine z_aload_n C0 d_L_chooseBlock_28 rfl 0 rfl ?_
          refine z_allV (As := []) (rest := []) C0 (c_L_headGap l D cI cZ x bc bp (sl_setM L (sl_mn bc bp L)) hB0  (hh)) mt_L_headGap ml_L_69 vt_L_headGap rfl rfl ⟨Nat.le_of_ble_eq_true rfl, Nat.le_of_ble_eq_true rfl⟩ ⟨rfl, rfl⟩ ⟨Nat.zero_le _, Nat.zero_le _⟩ rfl rfl (Nat.le_of_ble_eq_true rfl) d_L_chooseBlock_29 ?_
          refine z_st (stn := [.int (oN (sl_hg bp (zl_w L) (zl_h L)))]) rfl ?_
          refine z_iconst (v := -1) C0 d_L_chooseBlock_32 (by decide) ?_
          rcases e33_15 : sl_hg bp (zl_w L) (zl_h L) with _ | g33_16
          · refine z_st (stn := [.int (-1), .int (-1)]) (by first | rfl | (rw [e33_15]; rfl)) ?_
            refine z_icmp_eq (tgt := 52) C0 d_L_chooseBlock_33 (by decide) (fun c33_17 => ?_) (fun c33_17 => ?_)
            · skip
              refine z_iconst (v := nI 1) C0 d_L_chooseBlock_52 (by decide) ?_
              refine z_gotoK (tgt := 57) C0 d_L_chooseBlock_53 (by decide) ?_
              refine z_istore_n (lvn := [(0, .ref (x 7)), (1, .int (nI (g11_11))), (2, .int (nI (1)))]) C0 d_L_chooseBlock_57 rfl (by decide) [1, 2, 0] rfl ?_
              refine z_iload_n C0 d_L_chooseBlock_58 rfl 2 rfl ?_
              refine z_ifN_eq (tgt := 66) C0 d_L_chooseBlock_59 (by decide) (by omega) (fun c59_18 => ?_) (fun c59_18 => ?_)
              · exact absurd c59_18 (by decide)
              · skip
                refine z_iload_n C0 d_L_chooseBlock_62 rfl 1 rfl ?_
                refine z_gotoK (tgt := 67) C0 d_L_chooseBlock_63 (by decide) ?_
                exact z_iret C0 hA hQ hr d_L_chooseBlock_67 (by have e33 : sl_hg bp (zl_w L) (some hd) = none := (congrArg (sl_hg bp (zl_w L)) hhd).symm.trans e33_15; have e9 : sl_choose bc bp L = some g11_11 := (by unfold sl_choose; rw [e11_10, hhd]; simp [sl_fit, c23_14, e33]); exact ⟨by rw [e9]; rfl, rfl⟩)
            · exact absurd rfl c33_17
          · refine z_st (stn := [.int (-1), .int (nI (g33_16))]) (by first | rfl | (rw [e33_15]; rfl)) ?_
            have hg33 := zq_hgLt hh e33_15
            refine z_icmp_eq (tgt := 52) C0 d_L_chooseBlock_33 (by decide) (fun c33_19 => ?_) (fun c33_19 => ?_)
            · exact absurd c33_19 (nI_m1 (by omega))
            · skip
              refine z_aload_n C0 d_L_chooseBlock_36 rfl 0 rfl ?_
              refine z_iload_n C0 d_L_chooseBlock_37 rfl 1 rfl ?_
              refine z_allV (As := [.int (nI (g11_11))]) (rest := []) C0 (c_L_markedPages l D cI cZ x bc bp (sl_setM L (sl_mn bc bp L)) hB0 (g11_11) (by omega)) mt_L_markedPages ml_L_85 vt_L_markedPages rfl rfl ⟨Nat.le_of_ble_eq_true rfl, Nat.le_of_ble_eq_true rfl⟩ ⟨rfl, rfl⟩ ⟨Nat.zero_le _, Nat.zero_le _⟩ rfl rfl (Nat.le_of_ble_eq_true rfl) d_L_chooseBlock_38 ?_
              refine z_st (stn := [.int (nI (sl_mk bp (sl_mn bc bp L) (g11_11)))]) rfl ?_
              refine z_aload_n C0 d_L_chooseBlock_41 rfl 0 rfl ?_
              refine z_aload_n C0 d_L_chooseBlock_42 rfl 0 rfl ?_
              refine z_get C0 gf_L_42 0 rfl rfl d_L_chooseBlock_43 ?_
              refine z_top (vn := .int (oN (zl_h L))) rfl ?_
              refine z_top (vn := .int (nI (hd))) (by first | rfl | (rw [hhd]; rfl)) ?_
              refine z_allV (As := [.int (nI (hd))]) (rest := [.int (nI (sl_mk bp (sl_mn bc bp L) (g11_11)))]) C0 (c_L_gaps l D cI cZ x bc bp (sl_setM L (sl_mn bc bp L)) hB0 (hd) (by omega)) mt_L_gaps ml_L_52 vt_L_gaps rfl rfl ⟨Nat.le_of_ble_eq_true rfl, Nat.le_of_ble_eq_true rfl⟩ ⟨rfl, rfl⟩ ⟨Nat.zero_le _, Nat.zero_le _⟩ rfl rfl (Nat.le_of_ble_eq_true rfl) d_L_chooseBlock_46 ?_
              refine z_st (stn := [.int (nI (sl_gap bp (zl_w L) (hd))), .int (nI (sl_mk bp (sl_mn bc bp L) (g11_11)))]) rfl ?_
              refine z_icmpN_gt (tgt := 56) C0 d_L_chooseBlock_49 (by decide) (Nat.lt_of_le_of_lt (zq_mkLe _ _ _) (by omega)) (Nat.lt_of_le_of_lt (zq_gapLe _ _ _) (by omega)) (fun (c49_20 : sl_gap bp (zl_w L) (hd) < sl_mk bp (sl_mn bc bp L) (g11_11)) => ?_) (fun (c49_20 : sl_mk bp (sl_mn bc bp L) (g11_11) ≤ sl_gap bp (zl_w L) (hd)) => ?_)
              · skip
                refine z_iconst (v := nI 0) C0 d_L_chooseBlock_56 (by decide) ?_
                refine z_istore_n (lvn := [(0, .ref (x 7)), (1, .int (nI (g11_11))), (2, .int (nI (0)))]) C0 d_L_chooseBlock_57 rfl (by decide) [1, 2, 0] rfl ?_
                refine z_iload_n C0 d_L_chooseBlock_58 rfl 2 rfl ?_
                refine z_ifN_eq (tgt := 66) C0 d_L_chooseBlock_59 (by decide) (by omega) (fun c59_21 => ?_) (fun c59_21 => ?_)
                · skip
                  refine z_iconst (v := -1) C0 d_L_chooseBlock_66 (by decide) ?_
                  exact z_iret C0 hA hQ hr d_L_chooseBlock_67 (by have e33 : sl_hg bp (zl_w L) (some hd) = some g33_16 := (congrArg (sl_hg bp (zl_w L)) hhd).symm.trans e33_15; have e9 : sl_choose bc bp L = none := (by unfold sl_choose; rw [e11_10, hhd]; simp [sl_fit, c23_14, Nat.not_le.mpr c49_20, e33]); exact ⟨by rw [e9]; rfl, rfl⟩)
                · exact absurd c59_21 (by decide)
              · skip
                refine z_iconst (v := nI 1) C0 d_L_chooseBlock_52 (by decide) ?_
                refine z_gotoK (tgt := 57) C0 d_L_chooseBlock_53 (by decide) ?_
                refine z_istore_n (lvn := [(0, .ref (x 7)), (1, .int (nI (g11_11))), (2, .int (nI (1)))]) C0 d_L_chooseBlock_57 rfl (by decide) [1, 2, 0] rfl ?_
                refine z_iload_n C0 d_L_chooseBlock_58 rfl 2 rfl ?_
                refine z_ifN_eq (tgt := 66) C0 d_L_chooseBlock_59 (by decide) (by omega) (fun c59_22 => ?_) (fun c59_22 => ?_)
                · exact absurd c59_22 (by decide)
                · skip
                  refine z_iload_n C0 d_L_chooseBlock_62 rfl 1 rfl ?_
                  refine z_gotoK (tgt := 67) C0 d_L_chooseBlock_63 (by decide) ?_
                  exact z_iret C0 hA hQ hr d_L_chooseBlock_67 (by have e33 : sl_hg bp (zl_w L) (some hd) = some g33_16 := (congrArg (sl_hg bp (zl_w L)) hhd).symm.trans e33_15; have e9 : sl_choose bc bp L = some g11_11 := (by unfold sl_choose; rw [e11_10, hhd]; simp [sl_fit, c23_14, c49_20, e33]); exact ⟨by rw [e9]; rfl, rfl⟩)
        · skip
          refine z_iconst (v := -1) C0 d_L_chooseBlock_26 (by decide) ?_
          exact z_iret C0 hA hQ hr d_L_chooseBlock_27 (by have e9 : sl_choose bc bp L = none := (by unfold sl_choose; rw [e11_10, hhd]; simp [sl_fit, c23_14]); exact ⟨by rw [e9]; rfl, rfl⟩)
