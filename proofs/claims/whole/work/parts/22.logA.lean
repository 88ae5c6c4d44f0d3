set_option maxHeartbeats 4000000 in
set_option maxRecDepth 100000 in
theorem c_L_gaps (l : Launch) (D : va_G) (cI cZ : ClassId) (x : Nat → Nat) (bc bp : Nat) (L : zl_S) (hB : zb_ok bc bp) (b : Nat) (hb : b < bc) : zc_Con l y_L_gaps b_L_gaps 4 (some .int) { frames := 0, cells := 0, slots := 0, locals := 0 } D cI cZ [.ref (x 7), .int (nI (b))] (zl_W cI cZ x bc bp L) (zo (some (.int (nI (sl_gap bp (zl_w L) b)))) (zl_W cI cZ x bc bp L)) := by
  refine zc_start (by decide) (Nat.le_of_ble_eq_true rfl) ?_
  intro p e s m args below meth c A Q hA hQ C0 hr hin
  have C0 : zc_Cx p s m args meth c b_L_gaps 4 R_L D cI cZ A := C0
  have hB0 := hB
  obtain ⟨hB1, hB2, hB3, hB4⟩ := hB
  have hN : bc * bp ≤ 20 := Nat.mul_le_mul hB2 hB4
  refine z_lvs (lvn := [(0, .ref (x 7)), (1, .int (nI (b)))]) rfl ?_
  refine z_iconst (v := nI 0) C0 d_L_gaps_0 (by decide) ?_
  refine z_istore_n (lvn := [(0, .ref (x 7)), (1, .int (nI (b))), (2, .int (nI (0)))]) C0 d_L_gaps_1 rfl (by decide) [1, 2, 0] rfl ?_
  refine z_iconst (v := nI 0) C0 d_L_gaps_2 (by decide) ?_
  refine z_istore_n (lvn := [(0, .ref (x 7)), (1, .int (nI (b))), (2, .int (nI (0))), (3, .int (nI (0)))]) C0 d_L_gaps_3 rfl (by decide) [1, 2, 3, 0] rfl ?_
  have lp4 : ∀ (n : Nat) (i : Nat) (a : Nat), (i + n = bp) → (sl_gap bp (zl_w L) b = sl_gaps bp (zl_w L) b n i a) → zc_Pt p l e { frames := 0, cells := 0, slots := 0, locals := 0 } s m args below meth c 4 D A 0 0 Q 4 [(0, .ref (x 7)), (1, .int (nI (b))), (2, .int (nI (a))), (3, .int (nI (i)))] [] (zl_W cI cZ x bc bp L) := by
    intro n
    induction n with
    | zero =>
      intro i a hi hR
      refine z_iload_n C0 d_L_gaps_4 rfl 3 rfl ?_
      refine z_aload_n C0 d_L_gaps_5 rfl 0 rfl ?_
      refine z_get C0 gf_L_15 0 rfl rfl d_L_gaps_6 ?_
      refine z_icmpN_ge (tgt := 37) C0 d_L_gaps_9 (by decide) (by omega) (by omega) (fun (c9_1 : bp ≤ i) => ?_) (fun (c9_1 : i < bp) => ?_)
      · skip
        refine z_iload_n C0 d_L_gaps_37 rfl 2 rfl ?_
        exact z_iret C0 hA hQ hr d_L_gaps_38 (⟨by rw [hR]; rfl, rfl⟩)
      · exact absurd c9_1 (by omega)
    | succ n ih =>
      intro i a hi hR
      refine z_iload_n C0 d_L_gaps_4 rfl 3 rfl ?_
      refine z_aload_n C0 d_L_gaps_5 rfl 0 rfl ?_
      refine z_get C0 gf_L_15 0 rfl rfl d_L_gaps_6 ?_
      refine z_icmpN_ge (tgt := 37) C0 d_L_gaps_9 (by decide) (by omega) (by omega) (fun (c9_2 : bp ≤ i) => ?_) (fun (c9_2 : i < bp) => ?_)
      · exact absurd c9_2 (by omega)
      · skip
        refine z_aload_n C0 d_L_gaps_12 rfl 0 rfl ?_
        refine z_get C0 gf_L_31 0 rfl rfl d_L_gaps_13 ?_
        refine z_iload_n C0 d_L_gaps_16 rfl 1 rfl ?_
        refine z_aload_n C0 d_L_gaps_17 rfl 0 rfl ?_
        refine z_get C0 gf_L_15 0 rfl rfl d_L_gaps_18 ?_
        refine z_imulN C0 d_L_gaps_21 ?_
        refine z_iload_n C0 d_L_gaps_22 rfl 3 rfl ?_
        refine z_iaddN C0 d_L_gaps_23 ?_
        refine z_zald C0 5 rfl (zq_ix hb (by omega)) (by omega) d_L_gaps_24 ?_
        refine z_ifB_ne (tgt := 31) C0 d_L_gaps_25 (by decide) (fun (c25_3 : (zl_w L) (b * bp + i) = true) => ?_) (fun (c25_3 : (zl_w L) (b * bp + i) = false) => ?_)
        · skip
          refine z_iincN (q := 3) (lvn := [(0, .ref (x 7)), (1, .int (nI (b))), (2, .int (nI (a))), (3, .int (nI (i + 1)))]) C0 d_L_gaps_31 rfl (by decide) [1, 2, 3, 0] rfl ?_
          refine z_gotoK (tgt := 4) C0 d_L_gaps_34 (by decide) ?_
          exact ih (i + 1) (a) (by omega) (by rw [hR]; simp [sl_gaps, c9_2, c25_3])
        · skip
          refine z_iincN (q := 2) (lvn := [(0, .ref (x 7)), (1, .int (nI (b))), (2, .int (nI (a + 1))), (3, .int (nI (i)))]) C0 d_L_gaps_28 rfl (by decide) [1, 2, 0, 3] rfl ?_
          refine z_iincN (q := 3) (lvn := [(0, .ref (x 7)), (1, .int (nI (b))), (2, .int (nI (a + 1))), (3, .int (nI (i + 1)))]) C0 d_L_gaps_31 rfl (by decide) [1, 2, 3, 0] rfl ?_
          refine z_gotoK (tgt := 4) C0 d_L_gaps_34 (by decide) ?_
          exact ih (i + 1) (a + 1) (by omega) (by rw [hR]; simp [sl_gaps, c9_2, c25_3])
  exact lp4 (bp) (0) (0) (by omega) (rfl)

set_option maxHeartbeats 4000000 in
set_option maxRecDepth 100000 in
theorem c_L_markedPages (l : Launch) (D : va_G) (cI cZ : ClassId) (x : Nat → Nat) (bc bp : Nat) (L : zl_S) (hB : zb_ok bc bp) (b : Nat) (hb : b < bc) : zc_Con l y_L_markedPages b_L_markedPages 4 (some .int) { frames := 0, cells := 0, slots := 0, locals := 0 } D cI cZ [.ref (x 7), .int (nI (b))] (zl_W cI cZ x bc bp L) (zo (some (.int (nI (sl_mk bp (zl_m L) b)))) (zl_W cI cZ x bc bp L)) := by
  refine zc_start (by decide) (Nat.le_of_ble_eq_true rfl) ?_
  intro p e s m args below meth c A Q hA hQ C0 hr hin
  have C0 : zc_Cx p s m args meth c b_L_markedPages 4 R_L D cI cZ A := C0
  have hB0 := hB
  obtain ⟨hB1, hB2, hB3, hB4⟩ := hB
  have hN : bc * bp ≤ 20 := Nat.mul_le_mul hB2 hB4
  refine z_lvs (lvn := [(0, .ref (x 7)), (1, .int (nI (b)))]) rfl ?_
  refine z_iconst (v := nI 0) C0 d_L_markedPages_0 (by decide) ?_
  refine z_istore_n (lvn := [(0, .ref (x 7)), (1, .int (nI (b))), (2, .int (nI (0)))]) C0 d_L_markedPages_1 rfl (by decide) [1, 2, 0] rfl ?_
  refine z_iconst (v := nI 0) C0 d_L_markedPages_2 (by decide) ?_
  refine z_istore_n (lvn := [(0, .ref (x 7)), (1, .int (nI (b))), (2, .int (nI (0))), (3, .int (nI (0)))]) C0 d_L_markedPages_3 rfl (by decide) [1, 2, 3, 0] rfl ?_
  have lp4 : ∀ (n : Nat) (i : Nat) (a : Nat), (i + n = bp) → (sl_mk bp (zl_m L) b = sl_mks bp (zl_m L) b n i a) → zc_Pt p l e { frames := 0, cells := 0, slots := 0, locals := 0 } s m args below meth c 4 D A 0 0 Q 4 [(0, .ref (x 7)), (1, .int (nI (b))), (2, .int (nI (a))), (3, .int (nI (i)))] [] (zl_W cI cZ x bc bp L) := by
    intro n
    induction n with
    | zero =>
      intro i a hi hR
      refine z_iload_n C0 d_L_markedPages_4 rfl 3 rfl ?_
      refine z_aload_n C0 d_L_markedPages_5 rfl 0 rfl ?_
      refine z_get C0 gf_L_15 0 rfl rfl d_L_markedPages_6 ?_
      refine z_icmpN_ge (tgt := 37) C0 d_L_markedPages_9 (by decide) (by omega) (by omega) (fun (c9_1 : bp ≤ i) => ?_) (fun (c9_1 : i < bp) => ?_)
      · skip
        refine z_iload_n C0 d_L_markedPages_37 rfl 2 rfl ?_
        exact z_iret C0 hA hQ hr d_L_markedPages_38 (⟨by rw [hR]; rfl, rfl⟩)
      · exact absurd c9_1 (by omega)
    | succ n ih =>
      intro i a hi hR
      refine z_iload_n C0 d_L_markedPages_4 rfl 3 rfl ?_
      refine z_aload_n C0 d_L_markedPages_5 rfl 0 rfl ?_
      refine z_get C0 gf_L_15 0 rfl rfl d_L_markedPages_6 ?_
      refine z_icmpN_ge (tgt := 37) C0 d_L_markedPages_9 (by decide) (by omega) (by omega) (fun (c9_2 : bp ≤ i) => ?_) (fun (c9_2 : i < bp) => ?_)
      · exact absurd c9_2 (by omega)
      · skip
        refine z_aload_n C0 d_L_markedPages_12 rfl 0 rfl ?_
        refine z_get C0 gf_L_35 0 rfl rfl d_L_markedPages_13 ?_
        refine z_iload_n C0 d_L_markedPages_16 rfl 1 rfl ?_
        refine z_aload_n C0 d_L_markedPages_17 rfl 0 rfl ?_
        refine z_get C0 gf_L_15 0 rfl rfl d_L_markedPages_18 ?_
        refine z_imulN C0 d_L_markedPages_21 ?_
        refine z_iload_n C0 d_L_markedPages_22 rfl 3 rfl ?_
        refine z_iaddN C0 d_L_markedPages_23 ?_
        refine z_zald C0 4 rfl (zq_ix hb (by omega)) (by omega) d_L_markedPages_24 ?_
        refine z_ifB_eq (tgt := 31) C0 d_L_markedPages_25 (by decide) (fun (c25_3 : (zl_m L) (b * bp + i) = false) => ?_) (fun (c25_3 : (zl_m L) (b * bp + i) = true) => ?_)
        · skip
          refine z_iincN (q := 3) (lvn := [(0, .ref (x 7)), (1, .int (nI (b))), (2, .int (nI (a))), (3, .int (nI (i + 1)))]) C0 d_L_markedPages_31 rfl (by decide) [1, 2, 3, 0] rfl ?_
          refine z_gotoK (tgt := 4) C0 d_L_markedPages_34 (by decide) ?_
          exact ih (i + 1) (a) (by omega) (by rw [hR]; simp [sl_mks, c9_2, c25_3])
        · skip
          refine z_iincN (q := 2) (lvn := [(0, .ref (x 7)), (1, .int (nI (b))), (2, .int (nI (a + 1))), (3, .int (nI (i)))]) C0 d_L_markedPages_28 rfl (by decide) [1, 2, 0, 3] rfl ?_
          refine z_iincN (q := 3) (lvn := [(0, .ref (x 7)), (1, .int (nI (b))), (2, .int (nI (a + 1))), (3, .int (nI (i + 1)))]) C0 d_L_markedPages_31 rfl (by decide) [1, 2, 3, 0] rfl ?_
          refine z_gotoK (tgt := 4) C0 d_L_markedPages_34 (by decide) ?_
          exact ih (i + 1) (a + 1) (by omega) (by rw [hR]; simp [sl_mks, c9_2, c25_3])
  exact lp4 (bp) (0) (0) (by omega) (rfl)

set_option maxHeartbeats 4000000 in
set_option maxRecDepth 100000 in
theorem c_L_isFree (l : Launch) (D : va_G) (cI cZ : ClassId) (x : Nat → Nat) (bc bp : Nat) (L : zl_S) (hB : zb_ok bc bp) (b : Nat) (hb : b < bc) : zc_Con l y_L_isFree b_L_isFree 2 (some .boolean) { frames := 1, cells := 0, slots := 0, locals := 23 } D cI cZ [.ref (x 7), .int (nI (b))] (zl_W cI cZ x bc bp L) (zo (some (.int (bI (sl_free bp (zl_w L) b)))) (zl_W cI cZ x bc bp L)) := by
  refine zc_start (by decide) (Nat.le_of_ble_eq_true rfl) ?_
  intro p e s m args below meth c A Q hA hQ C0 hr hin
  have C0 : zc_Cx p s m args meth c b_L_isFree 2 R_L D cI cZ A := C0
  have hB0 := hB
  obtain ⟨hB1, hB2, hB3, hB4⟩ := hB
  have hN : bc * bp ≤ 20 := Nat.mul_le_mul hB2 hB4
  refine z_lvs (lvn := [(0, .ref (x 7)), (1, .int (nI (b)))]) rfl ?_
  refine z_aload_n C0 d_L_isFree_0 rfl 0 rfl ?_
  refine z_iload_n C0 d_L_isFree_1 rfl 1 rfl ?_
  refine z_allV (As := [.int (nI (b))]) (rest := []) C0 (c_L_gaps l D cI cZ x bc bp L hB0 (b) (hb)) mt_L_gaps ml_L_52 vt_L_gaps rfl rfl ⟨Nat.le_of_ble_eq_true rfl, Nat.le_of_ble_eq_true rfl⟩ ⟨rfl, rfl⟩ ⟨Nat.zero_le _, Nat.zero_le _⟩ rfl rfl (Nat.le_of_ble_eq_true rfl) d_L_isFree_2 ?_
  refine z_st (stn := [.int (nI (sl_gap bp (zl_w L) (b)))]) rfl ?_
  refine z_aload_n C0 d_L_isFree_5 rfl 0 rfl ?_
  refine z_get C0 gf_L_15 0 rfl rfl d_L_isFree_6 ?_
  refine z_icmpN_ne (tgt := 16) C0 d_L_isFree_9 (by decide) (Nat.lt_of_le_of_lt (zq_gapLe _ _ _) (by omega)) (by omega) (fun (c9_1 : sl_gap bp (zl_w L) (b) ≠ bp) => ?_) (fun (c9_1 : sl_gap bp (zl_w L) (b) = bp) => ?_)
  · skip
    refine z_iconst (v := nI 0) C0 d_L_isFree_16 (by decide) ?_
    refine z_topi (x := nI 0) (xn := bI false) (by decide) ?_
    exact z_zret C0 hA hQ hr d_L_isFree_17 (⟨by simp [sl_free, c9_1], rfl⟩)
  · skip
    refine z_iconst (v := nI 1) C0 d_L_isFree_12 (by decide) ?_
    refine z_gotoK (tgt := 17) C0 d_L_isFree_13 (by decide) ?_
    refine z_topi (x := nI 1) (xn := bI true) (by decide) ?_
    exact z_zret C0 hA hQ hr d_L_isFree_17 (⟨by simp [sl_free, c9_1], rfl⟩)

set_option maxHeartbeats 4000000 in
set_option maxRecDepth 100000 in
theorem c_L_freeBlocks (l : Launch) (D : va_G) (cI cZ : ClassId) (x : Nat → Nat) (bc bp : Nat) (L : zl_S) (hB : zb_ok bc bp)   : zc_Con l y_L_freeBlocks b_L_freeBlocks 3 (some .int) { frames := 2, cells := 0, slots := 0, locals := 44 } D cI cZ [.ref (x 7)] (zl_W cI cZ x bc bp L) (zo (some (.int (nI (sl_fr bc bp L)))) (zl_W cI cZ x bc bp L)) := by
  refine zc_start (by decide) (Nat.le_of_ble_eq_true rfl) ?_
  intro p e s m args below meth c A Q hA hQ C0 hr hin
  have C0 : zc_Cx p s m args meth c b_L_freeBlocks 3 R_L D cI cZ A := C0
  have hB0 := hB
  obtain ⟨hB1, hB2, hB3, hB4⟩ := hB
  have hN : bc * bp ≤ 20 := Nat.mul_le_mul hB2 hB4
  refine z_lvs (lvn := [(0, .ref (x 7))]) rfl ?_
  refine z_iconst (v := nI 0) C0 d_L_freeBlocks_0 (by decide) ?_
  refine z_istore_n (lvn := [(0, .ref (x 7)), (1, .int (nI (0)))]) C0 d_L_freeBlocks_1 rfl (by decide) [1, 0] rfl ?_
  refine z_iconst (v := nI 0) C0 d_L_freeBlocks_2 (by decide) ?_
  refine z_istore_n (lvn := [(0, .ref (x 7)), (1, .int (nI (0))), (2, .int (nI (0)))]) C0 d_L_freeBlocks_3 rfl (by decide) [1, 2, 0] rfl ?_
  have lp4 : ∀ (n : Nat) (b : Nat) (a : Nat), (b + n = bc) → (sl_fr bc bp L = sl_frs bp (zl_w L) n b a) → zc_Pt p l e { frames := 2, cells := 0, slots := 0, locals := 44 } s m args below meth c 3 D A 0 0 Q 4 [(0, .ref (x 7)), (1, .int (nI (a))), (2, .int (nI (b)))] [] (zl_W cI cZ x bc bp L) := by
    intro n
    induction n with
    | zero =>
      intro b a hi hR
      refine z_iload_n C0 d_L_freeBlocks_4 rfl 2 rfl ?_
      refine z_aload_n C0 d_L_freeBlocks_5 rfl 0 rfl ?_
      refine z_get C0 gf_L_9 0 rfl rfl d_L_freeBlocks_6 ?_
      refine z_icmpN_ge (tgt := 29) C0 d_L_freeBlocks_9 (by decide) (by omega) (by omega) (fun (c9_1 : bc ≤ b) => ?_) (fun (c9_1 : b < bc) => ?_)
      · skip
        refine z_iload_n C0 d_L_freeBlocks_29 rfl 1 rfl ?_
        exact z_iret C0 hA hQ hr d_L_freeBlocks_30 (⟨by rw [hR]; rfl, rfl⟩)
      · exact absurd c9_1 (by omega)
    | succ n ih =>
      intro b a hi hR
      refine z_iload_n C0 d_L_freeBlocks_4 rfl 2 rfl ?_
      refine z_aload_n C0 d_L_freeBlocks_5 rfl 0 rfl ?_
      refine z_get C0 gf_L_9 0 rfl rfl d_L_freeBlocks_6 ?_
      refine z_icmpN_ge (tgt := 29) C0 d_L_freeBlocks_9 (by decide) (by omega) (by omega) (fun (c9_2 : bc ≤ b) => ?_) (fun (c9_2 : b < bc) => ?_)
      · exact absurd c9_2 (by omega)
      · skip
        refine z_aload_n C0 d_L_freeBlocks_12 rfl 0 rfl ?_
        refine z_iload_n C0 d_L_freeBlocks_13 rfl 2 rfl ?_
        refine z_allV (As := [.int (nI (b))]) (rest := []) C0 (c_L_isFree l D cI cZ x bc bp L hB0 (b) (by omega)) mt_L_isFree ml_L_48 vt_L_isFree rfl rfl ⟨Nat.le_of_ble_eq_true rfl, Nat.le_of_ble_eq_true rfl⟩ ⟨rfl, rfl⟩ ⟨Nat.zero_le _, Nat.zero_le _⟩ rfl rfl (Nat.le_of_ble_eq_true rfl) d_L_freeBlocks_14 ?_
        refine z_st (stn := [.int (bI (sl_free bp (zl_w L) (b)))]) rfl ?_
        refine z_ifB_eq (tgt := 23) C0 d_L_freeBlocks_17 (by decide) (fun (c17_3 : sl_free bp (zl_w L) (b) = false) => ?_) (fun (c17_3 : sl_free bp (zl_w L) (b) = true) => ?_)
        · skip
          refine z_iincN (q := 2) (lvn := [(0, .ref (x 7)), (1, .int (nI (a))), (2, .int (nI (b + 1)))]) C0 d_L_freeBlocks_23 rfl (by decide) [1, 2, 0] rfl ?_
          refine z_gotoK (tgt := 4) C0 d_L_freeBlocks_26 (by decide) ?_
          exact ih (b + 1) (a) (by omega) (by rw [hR]; simp [sl_frs, c9_2, c17_3])
        · skip
          refine z_iincN (q := 1) (lvn := [(0, .ref (x 7)), (1, .int (nI (a + 1))), (2, .int (nI (b)))]) C0 d_L_freeBlocks_20 rfl (by decide) [1, 0, 2] rfl ?_
          refine z_iincN (q := 2) (lvn := [(0, .ref (x 7)), (1, .int (nI (a + 1))), (2, .int (nI (b + 1)))]) C0 d_L_freeBlocks_23 rfl (by decide) [1, 2, 0] rfl ?_
          refine z_gotoK (tgt := 4) C0 d_L_freeBlocks_26 (by decide) ?_
          exact ih (b + 1) (a + 1) (by omega) (by rw [hR]; simp [sl_frs, c9_2, c17_3])
  exact lp4 (bc) (0) (0) (by omega) (rfl)

set_option maxHeartbeats 4000000 in
set_option maxRecDepth 100000 in
theorem c_L_lowestFree (l : Launch) (D : va_G) (cI cZ : ClassId) (x : Nat → Nat) (bc bp : Nat) (L : zl_S) (hB : zb_ok bc bp)   : zc_Con l y_L_lowestFree b_L_lowestFree 2 (some .int) { frames := 2, cells := 0, slots := 0, locals := 44 } D cI cZ [.ref (x 7)] (zl_W cI cZ x bc bp L) (zo (some (.int (oN (sl_lows bp (zl_w L) bc 0)))) (zl_W cI cZ x bc bp L)) := by
  refine zc_start (by decide) (Nat.le_of_ble_eq_true rfl) ?_
  intro p e s m args below meth c A Q hA hQ C0 hr hin
  have C0 : zc_Cx p s m args meth c b_L_lowestFree 2 R_L D cI cZ A := C0
  have hB0 := hB
  obtain ⟨hB1, hB2, hB3, hB4⟩ := hB
  have hN : bc * bp ≤ 20 := Nat.mul_le_mul hB2 hB4
  refine z_lvs (lvn := [(0, .ref (x 7))]) rfl ?_
  refine z_iconst (v := nI 0) C0 d_L_lowestFree_0 (by decide) ?_
  refine z_istore_n (lvn := [(0, .ref (x 7)), (1, .int (nI (0)))]) C0 d_L_lowestFree_1 rfl (by decide) [1, 0] rfl ?_
  have lp2 : ∀ (n : Nat) (b : Nat), (b + n = bc) → (sl_lows bp (zl_w L) bc 0 = sl_lows bp (zl_w L) n b) → zc_Pt p l e { frames := 2, cells := 0, slots := 0, locals := 44 } s m args below meth c 2 D A 0 0 Q 2 [(0, .ref (x 7)), (1, .int (nI (b)))] [] (zl_W cI cZ x bc bp L) := by
    intro n
    induction n with
    | zero =>
      intro b hi hR
      refine z_iload_n C0 d_L_lowestFree_2 rfl 1 rfl ?_
      refine z_aload_n C0 d_L_lowestFree_3 rfl 0 rfl ?_
      refine z_get C0 gf_L_9 0 rfl rfl d_L_lowestFree_4 ?_
      refine z_icmpN_ge (tgt := 26) C0 d_L_lowestFree_7 (by decide) (by omega) (by omega) (fun (c7_1 : bc ≤ b) => ?_) (fun (c7_1 : b < bc) => ?_)
      · skip
        refine z_iconst (v := -1) C0 d_L_lowestFree_26 (by decide) ?_
        exact z_iret C0 hA hQ hr d_L_lowestFree_27 (⟨by rw [hR]; rfl, rfl⟩)
      · exact absurd c7_1 (by omega)
    | succ n ih =>
      intro b hi hR
      refine z_iload_n C0 d_L_lowestFree_2 rfl 1 rfl ?_
      refine z_aload_n C0 d_L_lowestFree_3 rfl 0 rfl ?_
      refine z_get C0 gf_L_9 0 rfl rfl d_L_lowestFree_4 ?_
      refine z_icmpN_ge (tgt := 26) C0 d_L_lowestFree_7 (by decide) (by omega) (by omega) (fun (c7_2 : bc ≤ b) => ?_) (fun (c7_2 : b < bc) => ?_)
      · exact absurd c7_2 (by omega)
      · skip
        refine z_aload_n C0 d_L_lowestFree_10 rfl 0 rfl ?_
        refine z_iload_n C0 d_L_lowestFree_11 rfl 1 rfl ?_
        refine z_allV (As := [.int (nI (b))]) (rest := []) C0 (c_L_isFree l D cI cZ x bc bp L hB0 (b) (by omega)) mt_L_isFree ml_L_48 vt_L_isFree rfl rfl ⟨Nat.le_of_ble_eq_true rfl, Nat.le_of_ble_eq_true rfl⟩ ⟨rfl, rfl⟩ ⟨Nat.zero_le _, Nat.zero_le _⟩ rfl rfl (Nat.le_of_ble_eq_true rfl) d_L_lowestFree_12 ?_
        refine z_st (stn := [.int (bI (sl_free bp (zl_w L) (b)))]) rfl ?_
        refine z_ifB_eq (tgt := 20) C0 d_L_lowestFree_15 (by decide) (fun (c15_3 : sl_free bp (zl_w L) (b) = false) => ?_) (fun (c15_3 : sl_free bp (zl_w L) (b) = true) => ?_)
        · skip
          refine z_iincN (q := 1) (lvn := [(0, .ref (x 7)), (1, .int (nI (b + 1)))]) C0 d_L_lowestFree_20 rfl (by decide) [1, 0] rfl ?_
          refine z_gotoK (tgt := 2) C0 d_L_lowestFree_23 (by decide) ?_
          exact ih (b + 1) (by omega) (by rw [hR]; simp [sl_lows, c7_2, c15_3])
        · skip
          refine z_iload_n C0 d_L_lowestFree_18 rfl 1 rfl ?_
          exact z_iret C0 hA hQ hr d_L_lowestFree_19 (⟨by rw [hR]; simp [sl_lows, c7_2, c15_3, oN], rfl⟩)
  exact lp2 (bc) (0) (by omega) (rfl)

set_option maxHeartbeats 4000000 in
set_option maxRecDepth 100000 in
theorem c_L_forgetBlock (l : Launch) (D : va_G) (cI cZ : ClassId) (x : Nat → Nat) (bc bp : Nat) (L : zl_S) (hB : zb_ok bc bp) (b : Nat) (hb : b < bc) : zc_Con l y_L_forgetBlock b_L_forgetBlock 3 none { frames := 0, cells := 0, slots := 0, locals := 0 } D cI cZ [.ref (x 7), .int (nI (b))] (zl_W cI cZ x bc bp L) (zo none (zl_W cI cZ x bc bp (sl_setW L (sl_fb bp b (zl_w L))))) := by
  refine zc_start (by decide) (Nat.le_of_ble_eq_true rfl) ?_
  intro p e s m args below meth c A Q hA hQ C0 hr hin
  have C0 : zc_Cx p s m args meth c b_L_forgetBlock 3 R_L D cI cZ A := C0
  have hB0 := hB
  obtain ⟨hB1, hB2, hB3, hB4⟩ := hB
  have hN : bc * bp ≤ 20 := Nat.mul_le_mul hB2 hB4
  refine z_lvs (lvn := [(0, .ref (x 7)), (1, .int (nI (b)))]) rfl ?_
  refine z_iconst (v := nI 0) C0 d_L_forgetBlock_0 (by decide) ?_
  refine z_istore_n (lvn := [(0, .ref (x 7)), (1, .int (nI (b))), (2, .int (nI (0)))]) C0 d_L_forgetBlock_1 rfl (by decide) [1, 2, 0] rfl ?_
  have lp2 : ∀ (n : Nat) (i : Nat) (w : Nat → Bool), (i + n = bp) → (sl_fb bp b (zl_w L) = sl_fbs bp b n i w) → zc_Pt p l e { frames := 0, cells := 0, slots := 0, locals := 0 } s m args below meth c 3 D A 0 0 Q 2 [(0, .ref (x 7)), (1, .int (nI (b))), (2, .int (nI (i)))] [] (zl_W cI cZ x bc bp (w, zl_m L, zl_s L, zl_k L, zl_d L, zl_h L, zl_x L)) := by
    intro n
    induction n with
    | zero =>
      intro i w hi hR
      refine z_iload_n C0 d_L_forgetBlock_2 rfl 2 rfl ?_
      refine z_aload_n C0 d_L_forgetBlock_3 rfl 0 rfl ?_
      refine z_get C0 gf_L_15 0 rfl rfl d_L_forgetBlock_4 ?_
      refine z_icmpN_ge (tgt := 30) C0 d_L_forgetBlock_7 (by decide) (by omega) (by omega) (fun (c7_1 : bp ≤ i) => ?_) (fun (c7_1 : i < bp) => ?_)
      · skip
        exact z_vret C0 hA hQ hr d_L_forgetBlock_30 (⟨rfl, by rw [hR]; rfl⟩)
      · exact absurd c7_1 (by omega)
    | succ n ih =>
      intro i w hi hR
      refine z_iload_n C0 d_L_forgetBlock_2 rfl 2 rfl ?_
      refine z_aload_n C0 d_L_forgetBlock_3 rfl 0 rfl ?_
      refine z_get C0 gf_L_15 0 rfl rfl d_L_forgetBlock_4 ?_
      refine z_icmpN_ge (tgt := 30) C0 d_L_forgetBlock_7 (by decide) (by omega) (by omega) (fun (c7_2 : bp ≤ i) => ?_) (fun (c7_2 : i < bp) => ?_)
      · exact absurd c7_2 (by omega)
      · skip
        refine z_aload_n C0 d_L_forgetBlock_10 rfl 0 rfl ?_
        refine z_get C0 gf_L_31 0 rfl rfl d_L_forgetBlock_11 ?_
        refine z_iload_n C0 d_L_forgetBlock_14 rfl 1 rfl ?_
        refine z_aload_n C0 d_L_forgetBlock_15 rfl 0 rfl ?_
        refine z_get C0 gf_L_15 0 rfl rfl d_L_forgetBlock_16 ?_
        refine z_imulN C0 d_L_forgetBlock_19 ?_
        refine z_iload_n C0 d_L_forgetBlock_20 rfl 2 rfl ?_
        refine z_iaddN C0 d_L_forgetBlock_21 ?_
        refine z_iconst (v := nI 0) C0 d_L_forgetBlock_22 (by decide) ?_
        refine z_topi (x := nI 0) (xn := bI false) (by decide) ?_
        refine z_zast C0 5 rfl (zq_ix hb (by omega)) (by omega) d_L_forgetBlock_23 ?_
        refine z_iincN (q := 2) (lvn := [(0, .ref (x 7)), (1, .int (nI (b))), (2, .int (nI (i + 1)))]) C0 d_L_forgetBlock_24 rfl (by decide) [1, 2, 0] rfl ?_
        refine z_gotoK (tgt := 2) C0 d_L_forgetBlock_27 (by decide) ?_
        refine z_ws (wsn := zl_W cI cZ x bc bp (ub w (b * bp + i) (false), zl_m L, zl_s L, zl_k L, zl_d L, zl_h L, zl_x L)) rfl ?_
        exact ih (i + 1) (ub w (b * bp + i) (false)) (by omega) (by rw [hR]; rfl)
  exact lp2 (bp) (0) (zl_w L) (by omega) (rfl)

set_option maxHeartbeats 4000000 in
set_option maxRecDepth 100000 in
theorem c_L_forgetAll (l : Launch) (D : va_G) (cI cZ : ClassId) (x : Nat → Nat) (bc bp : Nat) (L : zl_S) (hB : zb_ok bc bp)   : zc_Con l y_L_forgetAll b_L_forgetAll 2 none { frames := 1, cells := 0, slots := 0, locals := 22 } D cI cZ [.ref (x 7)] (zl_W cI cZ x bc bp L) (zo none (zl_W cI cZ x bc bp (sl_all bc bp L))) := by
  refine zc_start (by decide) (Nat.le_of_ble_eq_true rfl) ?_
  intro p e s m args below meth c A Q hA hQ C0 hr hin
  have C0 : zc_Cx p s m args meth c b_L_forgetAll 2 R_L D cI cZ A := C0
  have hB0 := hB
  obtain ⟨hB1, hB2, hB3, hB4⟩ := hB
  have hN : bc * bp ≤ 20 := Nat.mul_le_mul hB2 hB4
  refine z_lvs (lvn := [(0, .ref (x 7))]) rfl ?_
  refine z_iconst (v := nI 0) C0 d_L_forgetAll_0 (by decide) ?_
  refine z_istore_n (lvn := [(0, .ref (x 7)), (1, .int (nI (0)))]) C0 d_L_forgetAll_1 rfl (by decide) [1, 0] rfl ?_
  have lp2 : ∀ (n : Nat) (b : Nat) (w : Nat → Bool), (b + n = bc) → (sl_fas bp bc 0 (zl_w L) = sl_fas bp n b w) → zc_Pt p l e { frames := 1, cells := 0, slots := 0, locals := 22 } s m args below meth c 2 D A 0 0 Q 2 [(0, .ref (x 7)), (1, .int (nI (b)))] [] (zl_W cI cZ x bc bp (w, zl_m L, zl_s L, zl_k L, zl_d L, zl_h L, zl_x L)) := by
    intro n
    induction n with
    | zero =>
      intro b w hi hR
      refine z_iload_n C0 d_L_forgetAll_2 rfl 1 rfl ?_
      refine z_aload_n C0 d_L_forgetAll_3 rfl 0 rfl ?_
      refine z_get C0 gf_L_9 0 rfl rfl d_L_forgetAll_4 ?_
      refine z_icmpN_ge (tgt := 21) C0 d_L_forgetAll_7 (by decide) (by omega) (by omega) (fun (c7_1 : bc ≤ b) => ?_) (fun (c7_1 : b < bc) => ?_)
      · skip
        refine z_aload_n C0 d_L_forgetAll_21 rfl 0 rfl ?_
        refine z_iconst (v := -1) C0 d_L_forgetAll_22 (by decide) ?_
        refine z_topi (x := -1) (xn := oN none) rfl ?_
        refine z_put C0 gf_L_42 pf_L_6 0 rfl rfl rfl (Nat.le_of_ble_eq_true rfl) d_L_forgetAll_23 ?_
        refine z_aload_n C0 d_L_forgetAll_26 rfl 0 rfl ?_
        refine z_iconst (v := nI 1) C0 d_L_forgetAll_27 (by decide) ?_
        refine z_topi (x := nI 1) (xn := 1) (by decide) ?_
        refine z_put C0 gf_L_45 pf_L_7 0 rfl rfl rfl (Nat.le_of_ble_eq_true rfl) d_L_forgetAll_28 ?_
        refine z_ws (wsn := zl_W cI cZ x bc bp (w, zl_m L, zl_s L, zl_k L, zl_d L, none, 1)) rfl ?_
        exact z_vret C0 hA hQ hr d_L_forgetAll_31 (⟨rfl, by unfold sl_all; rw [hR]; rfl⟩)
      · exact absurd c7_1 (by omega)
    | succ n ih =>
      intro b w hi hR
      refine z_iload_n C0 d_L_forgetAll_2 rfl 1 rfl ?_
      refine z_aload_n C0 d_L_forgetAll_3 rfl 0 rfl ?_
      refine z_get C0 gf_L_9 0 rfl rfl d_L_forgetAll_4 ?_
      refine z_icmpN_ge (tgt := 21) C0 d_L_forgetAll_7 (by decide) (by omega) (by omega) (fun (c7_2 : bc ≤ b) => ?_) (fun (c7_2 : b < bc) => ?_)
      · exact absurd c7_2 (by omega)
      · skip
        refine z_aload_n C0 d_L_forgetAll_10 rfl 0 rfl ?_
        refine z_iload_n C0 d_L_forgetAll_11 rfl 1 rfl ?_
        refine z_allV (As := [.int (nI (b))]) (rest := []) C0 (c_L_forgetBlock l D cI cZ x bc bp (w, zl_m L, zl_s L, zl_k L, zl_d L, zl_h L, zl_x L) hB0 (b) (by omega)) mt_L_forgetBlock ml_L_38 vt_L_forgetBlock rfl rfl ⟨Nat.le_of_ble_eq_true rfl, Nat.le_of_ble_eq_true rfl⟩ ⟨rfl, rfl⟩ ⟨Nat.zero_le _, Nat.zero_le _⟩ rfl rfl (Nat.le_of_ble_eq_true rfl) d_L_forgetAll_12 ?_
        refine z_st (stn := []) rfl ?_
        refine z_iincN (q := 1) (lvn := [(0, .ref (x 7)), (1, .int (nI (b + 1)))]) C0 d_L_forgetAll_15 rfl (by decide) [1, 0] rfl ?_
        refine z_gotoK (tgt := 2) C0 d_L_forgetAll_18 (by decide) ?_
        exact ih (b + 1) (zl_w (sl_setW (w, zl_m L, zl_s L, zl_k L, zl_d L, zl_h L, zl_x L) (sl_fb bp (b) (w)))) (by omega) (by rw [hR]; rfl)
  exact lp2 (bc) (0) (zl_w L) (by omega) (rfl)

set_option maxHeartbeats 4000000 in
set_option maxRecDepth 100000 in
theorem c_L_know (l : Launch) (D : va_G) (cI cZ : ClassId) (x : Nat → Nat) (bc bp : Nat) (L : zl_S) (hB : zb_ok bc bp) (pg : Nat) (sv : Int32) (kv : Int32) (dv : Int32) (hp : pg < bc * bp) : zc_Con l y_L_know b_L_know 5 none { frames := 0, cells := 0, slots := 0, locals := 0 } D cI cZ [.ref (x 7), .int (nI (pg)), .int (sv), .int (kv), .int (dv)] (zl_W cI cZ x bc bp L) (zo none (zl_W cI cZ x bc bp (sl_know L pg sv kv dv))) := by
  refine zc_start (by decide) (Nat.le_of_ble_eq_true rfl) ?_
  intro p e s m args below meth c A Q hA hQ C0 hr hin
  have C0 : zc_Cx p s m args meth c b_L_know 5 R_L D cI cZ A := C0
  have hB0 := hB
  obtain ⟨hB1, hB2, hB3, hB4⟩ := hB
  have hN : bc * bp ≤ 20 := Nat.mul_le_mul hB2 hB4
  refine z_lvs (lvn := [(0, .ref (x 7)), (1, .int (nI (pg))), (2, .int (sv)), (3, .int (kv)), (4, .int (dv))]) rfl ?_
  refine z_aload_n C0 d_L_know_0 rfl 0 rfl ?_
  refine z_get C0 gf_L_31 0 rfl rfl d_L_know_1 ?_
  refine z_iload_n C0 d_L_know_4 rfl 1 rfl ?_
  refine z_iconst (v := nI 1) C0 d_L_know_5 (by decide) ?_
  refine z_topi (x := nI 1) (xn := bI true) (by decide) ?_
  refine z_zast C0 5 rfl (by omega) (by omega) d_L_know_6 ?_
  refine z_aload_n C0 d_L_know_7 rfl 0 rfl ?_
  refine z_get C0 gf_L_21 0 rfl rfl d_L_know_8 ?_
  refine z_iload_n C0 d_L_know_11 rfl 1 rfl ?_
  refine z_iload_n C0 d_L_know_12 rfl 2 rfl ?_
  refine z_iast C0 1 rfl (by omega) (by omega) d_L_know_13 ?_
  refine z_aload_n C0 d_L_know_14 rfl 0 rfl ?_
  refine z_get C0 gf_L_25 0 rfl rfl d_L_know_15 ?_
  refine z_iload_n C0 d_L_know_18 rfl 1 rfl ?_
  refine z_iload_n C0 d_L_know_19 rfl 3 rfl ?_
  refine z_iast C0 2 rfl (by omega) (by omega) d_L_know_20 ?_
  refine z_aload_n C0 d_L_know_21 rfl 0 rfl ?_
  refine z_get C0 gf_L_28 0 rfl rfl d_L_know_22 ?_
  refine z_iload_n C0 d_L_know_25 rfl 1 rfl ?_
  refine z_iload C0 d_L_know_26 4 rfl ?_
  refine z_iast C0 3 rfl (by omega) (by omega) d_L_know_28 ?_
  refine z_ws (wsn := zl_W cI cZ x bc bp (ub (zl_w L) (pg) (true), zl_m L, upd (zl_s L) (pg) (sv), upd (zl_k L) (pg) (kv), upd (zl_d L) (pg) (dv), zl_h L, zl_x L)) rfl ?_
  exact z_vret C0 hA hQ hr d_L_know_29 (⟨rfl, rfl⟩)
