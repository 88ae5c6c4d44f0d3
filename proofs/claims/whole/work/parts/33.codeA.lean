set_option maxHeartbeats 4000000 in
set_option maxRecDepth 100000 in
theorem c_JI_bitCount (l : Launch) (D : va_G) (cI cZ : ClassId)  (n : Int32)  : zc_Con l y_JI_bitCount b_JI_bitCount 1 (some .int) { frames := 0, cells := 0, slots := 0, locals := 0 } D cI cZ [.int (n)] ([]) (zo (some (.int (nI (pc n)))) ([])) := by
  refine zc_start (by decide) (Nat.le_of_ble_eq_true rfl) ?_
  intro p e s m args below meth c A Q hA hQ C0 hr hin
  have C0 : zc_Cx p s m args meth c b_JI_bitCount 1 R_JI D cI cZ A := C0
  obtain ⟨N, hN, hNe⟩ := wb_of32 n
  subst hNe
  have hp1 := bc_l1 hN
  have hp2 := bc_l2 N
  have hp3 := bc_l3 N
  have hp4 := bc_l4 N
  refine z_lvs (lvn := [(0, .int (nI (N)))]) rfl ?_
  refine z_iload_n C0 d_JI_bitCount_0 rfl 0 rfl ?_
  refine z_iload_n C0 d_JI_bitCount_1 rfl 0 rfl ?_
  refine z_iconst (v := 1) C0 d_JI_bitCount_2 (by decide) ?_
  refine z_iushr C0 d_JI_bitCount_3 rfl ?_
  refine z_top (vn := .int (nI (N / 2 ^ 1))) (by rw [pk_ushrN hN 1 1 (by decide)]) ?_
  refine z_ldcw (v := 1431655765) C0 ck_JI_265 d_JI_bitCount_4 ?_
  refine z_topi (x := 1431655765) (xn := nI 1431655765) (by decide) ?_
  refine z_iand C0 d_JI_bitCount_7 ?_
  refine z_top (vn := .int (nI ((N / 2 ^ 1) &&& 1431655765))) (by rw [nx_and]) ?_
  refine z_isubN C0 d_JI_bitCount_8 (Nat.le_trans Nat.and_le_left (Nat.div_le_self _ _)) ?_
  refine z_top (vn := .int (nI (bc_p1 8 N))) (rfl) ?_
  refine z_istore_n (lvn := [(0, .int (nI (bc_p1 8 N)))]) C0 d_JI_bitCount_9 rfl (by decide) [0] rfl ?_
  refine z_iload_n C0 d_JI_bitCount_10 rfl 0 rfl ?_
  refine z_ldcw (v := 858993459) C0 ck_JI_266 d_JI_bitCount_11 ?_
  refine z_topi (x := 858993459) (xn := nI 858993459) (by decide) ?_
  refine z_iand C0 d_JI_bitCount_14 ?_
  refine z_top (vn := .int (nI (bc_p1 8 N &&& 858993459))) (by rw [nx_and]) ?_
  refine z_iload_n C0 d_JI_bitCount_15 rfl 0 rfl ?_
  refine z_iconst (v := 2) C0 d_JI_bitCount_16 (by decide) ?_
  refine z_iushr C0 d_JI_bitCount_17 rfl ?_
  refine z_top (vn := .int (nI (bc_p1 8 N / 2 ^ 2))) (by rw [pk_ushrN hp1 2 2 (by decide)]) ?_
  refine z_ldcw (v := 858993459) C0 ck_JI_266 d_JI_bitCount_18 ?_
  refine z_topi (x := 858993459) (xn := nI 858993459) (by decide) ?_
  refine z_iand C0 d_JI_bitCount_21 ?_
  refine z_top (vn := .int (nI (bc_p1 8 N / 2 ^ 2 &&& 858993459))) (by rw [nx_and]) ?_
  refine z_iaddN C0 d_JI_bitCount_22 ?_
  refine z_top (vn := .int (nI (bc_p2 8 (bc_p1 8 N)))) (rfl) ?_
  refine z_istore_n (lvn := [(0, .int (nI (bc_p2 8 (bc_p1 8 N))))]) C0 d_JI_bitCount_23 rfl (by decide) [0] rfl ?_
  refine z_iload_n C0 d_JI_bitCount_24 rfl 0 rfl ?_
  refine z_iload_n C0 d_JI_bitCount_25 rfl 0 rfl ?_
  refine z_iconst (v := 4) C0 d_JI_bitCount_26 (by decide) ?_
  refine z_iushr C0 d_JI_bitCount_27 rfl ?_
  refine z_top (vn := .int (nI (bc_p2 8 (bc_p1 8 N) / 2 ^ 4))) (by rw [pk_ushrN hp2 4 4 (by decide)]) ?_
  refine z_iaddN C0 d_JI_bitCount_28 ?_
  refine z_ldcw (v := 252645135) C0 ck_JI_267 d_JI_bitCount_29 ?_
  refine z_topi (x := 252645135) (xn := nI 252645135) (by decide) ?_
  refine z_iand C0 d_JI_bitCount_32 ?_
  refine z_top (vn := .int (nI (bc_b N))) (by rw [nx_and]; rfl) ?_
  refine z_istore_n (lvn := [(0, .int (nI (bc_b N)))]) C0 d_JI_bitCount_33 rfl (by decide) [0] rfl ?_
  refine z_iload_n C0 d_JI_bitCount_34 rfl 0 rfl ?_
  refine z_iload_n C0 d_JI_bitCount_35 rfl 0 rfl ?_
  refine z_bipush (v := 8) C0 d_JI_bitCount_36 (by decide) ?_
  refine z_iushr C0 d_JI_bitCount_38 rfl ?_
  refine z_top (vn := .int (nI (bc_b N / 2 ^ 8))) (by rw [pk_ushrN hp3 8 8 (by decide)]) ?_
  refine z_iaddN C0 d_JI_bitCount_39 ?_
  refine z_top (vn := .int (nI (bc_d N))) (rfl) ?_
  refine z_istore_n (lvn := [(0, .int (nI (bc_d N)))]) C0 d_JI_bitCount_40 rfl (by decide) [0] rfl ?_
  refine z_iload_n C0 d_JI_bitCount_41 rfl 0 rfl ?_
  refine z_iload_n C0 d_JI_bitCount_42 rfl 0 rfl ?_
  refine z_bipush (v := 16) C0 d_JI_bitCount_43 (by decide) ?_
  refine z_iushr C0 d_JI_bitCount_45 rfl ?_
  refine z_top (vn := .int (nI (bc_d N / 2 ^ 16))) (by rw [pk_ushrN hp4 16 16 (by decide)]) ?_
  refine z_iaddN C0 d_JI_bitCount_46 ?_
  refine z_istore_n (lvn := [(0, .int (nI (bc_d N + (bc_d N / 2 ^ 16))))]) C0 d_JI_bitCount_47 rfl (by decide) [0] rfl ?_
  refine z_iload_n C0 d_JI_bitCount_48 rfl 0 rfl ?_
  refine z_bipush (v := nI 63) C0 d_JI_bitCount_49 (by decide) ?_
  refine z_iand C0 d_JI_bitCount_51 ?_
  refine z_top (vn := .int (nI ((bc_d N + bc_d N / 2 ^ 16) &&& 63))) (by rw [nx_and]) ?_
  exact z_iret C0 hA hQ hr d_JI_bitCount_52 (⟨by rw [bc_fin hN], rfl⟩)

set_option maxHeartbeats 4000000 in
set_option maxRecDepth 100000 in
theorem c_JA_fill (l : Launch) (D : va_G) (cI cZ : ClassId) (a n : Nat) (f : Nat → Int32) (v : Int32) (hn : n < 2 ^ 31) : zc_Con l y_JA_fill b_JA_fill 4 none { frames := 0, cells := 0, slots := 0, locals := 0 } D cI cZ [.ref (a), .int (v)] (za_W cI a n f) (zo none (za_W cI a n (sf_fls v n 0 f))) := by
  refine zc_start (by decide) (Nat.le_of_ble_eq_true rfl) ?_
  intro p e s m args below meth c A Q hA hQ C0 hr hin
  have C0 : zc_Cx p s m args meth c b_JA_fill 4 R_JA D cI cZ A := C0
  refine z_lvs (lvn := [(0, .ref (a)), (1, .int (v))]) rfl ?_
  refine z_iconst (v := nI 0) C0 d_JA_fill_0 (by decide) ?_
  refine z_istore_n (lvn := [(0, .ref (a)), (1, .int (v)), (2, .int (nI (0)))]) C0 d_JA_fill_1 rfl (by decide) [1, 2, 0] rfl ?_
  refine z_aload_n C0 d_JA_fill_2 rfl 0 rfl ?_
  refine z_alen C0 0 0 rfl rfl d_JA_fill_3 ?_
  refine z_istore_n (lvn := [(0, .ref (a)), (1, .int (v)), (2, .int (nI (0))), (3, .int (nI (n)))]) C0 d_JA_fill_4 rfl (by decide) [1, 2, 3, 0] rfl ?_
  have lp : ∀ (k : Nat) (i : Nat) (g : Nat → Int32), (i + k = n) → (sf_fls v n 0 f = sf_fls v k i g) → zc_Pt p l e { frames := 0, cells := 0, slots := 0, locals := 0 } s m args below meth c 4 D A 0 0 Q 5 [(0, .ref (a)), (1, .int (v)), (2, .int (nI (i))), (3, .int (nI (n)))] [] (za_W cI a n g) := by
    intro k
    induction k with
    | zero =>
      intro i g hi hR
      refine z_iload_n C0 d_JA_fill_5 rfl 2 rfl ?_
      refine z_iload_n C0 d_JA_fill_6 rfl 3 rfl ?_
      refine z_icmpN_ge (tgt := 20) C0 d_JA_fill_7 (by decide) (by omega) (by omega) (fun (c7_1 : n ≤ i) => ?_) (fun (c7_1 : i < n) => ?_)
      · skip
        exact z_vret C0 hA hQ hr d_JA_fill_20 (⟨rfl, by rw [hR]; rfl⟩)
      · exact absurd c7_1 (by omega)
    | succ k ih =>
      intro i g hi hR
      refine z_iload_n C0 d_JA_fill_5 rfl 2 rfl ?_
      refine z_iload_n C0 d_JA_fill_6 rfl 3 rfl ?_
      refine z_icmpN_ge (tgt := 20) C0 d_JA_fill_7 (by decide) (by omega) (by omega) (fun (c7_2 : n ≤ i) => ?_) (fun (c7_2 : i < n) => ?_)
      · exact absurd c7_2 (by omega)
      · skip
        refine z_aload_n C0 d_JA_fill_10 rfl 0 rfl ?_
        refine z_iload_n C0 d_JA_fill_11 rfl 2 rfl ?_
        refine z_iload_n C0 d_JA_fill_12 rfl 1 rfl ?_
        refine z_iast C0 0 rfl (by omega) (by omega) d_JA_fill_13 ?_
        refine z_iincN (q := 2) (lvn := [(0, .ref (a)), (1, .int (v)), (2, .int (nI (i + 1))), (3, .int (nI (n)))]) C0 d_JA_fill_14 rfl (by decide) [1, 2, 0, 3] rfl ?_
        refine z_gotoK (tgt := 5) C0 d_JA_fill_17 (by decide) ?_
        refine z_ws (wsn := za_W cI a n (upd g (i) (v))) rfl ?_
        exact ih (i + 1) (upd g (i) (v)) (by omega) (by rw [hR]; rfl)
  exact lp (n) (0) (f) (by omega) (rfl)

set_option maxHeartbeats 4000000 in
set_option maxRecDepth 100000 in
theorem c_C_fold (l : Launch) (D : va_G) (cI cZ : ClassId)  (r : Nat)  : zc_Con l y_C_fold b_C_fold 3 (some .int) { frames := 0, cells := 0, slots := 0, locals := 0 } D cI cZ [.int (nI (r))] ([]) (zo (some (.int (nI (kf r)))) ([])) := by
  refine zc_start (by decide) (Nat.le_of_ble_eq_true rfl) ?_
  intro p e s m args below meth c A Q hA hQ C0 hr hin
  have C0 : zc_Cx p s m args meth c b_C_fold 3 R_C D cI cZ A := C0
  refine z_lvs (lvn := [(0, .int (nI (r)))]) rfl ?_
  refine z_iload_n C0 d_C_fold_0 rfl 0 rfl ?_
  refine z_istore_n (lvn := [(0, .int (nI (r))), (1, .int (nI (r)))]) C0 d_C_fold_1 rfl (by decide) [1, 0] rfl ?_
  refine z_bipush (v := nI 17) C0 d_C_fold_2 (by decide) ?_
  refine z_istore_n (lvn := [(0, .int (nI (r))), (1, .int (nI (r))), (2, .int (nI (17)))]) C0 d_C_fold_4 rfl (by decide) [1, 2, 0] rfl ?_
  have lp5 : ∀ (n : Nat) (a : Nat), (n ≤ 9) → (kfo 529 9 r = kfo 529 n a) → zc_Pt p l e { frames := 0, cells := 0, slots := 0, locals := 0 } s m args below meth c 3 D A 0 0 Q 5 [(0, .int (nI (r))), (1, .int (nI (a))), (2, .int (nI (8 + n)))] [] ([]) := by
    intro n
    induction n with
    | zero =>
      intro a hi hR
      refine z_lvs (lvn := [(0, .int (nI (r))), (1, .int (nI (a))), (2, .int (nI (8)))]) (rfl) ?_
      refine z_iload_n C0 d_C_fold_5 rfl 2 rfl ?_
      refine z_bipush (v := nI 9) C0 d_C_fold_6 (by decide) ?_
      refine z_icmpN_lt (tgt := 36) C0 d_C_fold_8 (by decide) (by omega) (by omega) (fun (c8_1 : 8 < 9) => ?_) (fun (c8_1 : 9 ≤ 8) => ?_)
      · skip
        refine z_iload_n C0 d_C_fold_36 rfl 1 rfl ?_
        refine z_sipush (v := nI 511) C0 d_C_fold_37 (by decide) ?_
        refine z_iand C0 d_C_fold_40 ?_
        refine z_top (vn := .int (nI (a % 512))) (by rw [kx_and]) ?_
        exact z_iret C0 hA hQ hr d_C_fold_41 (⟨by unfold kf; rw [hR]; rfl, rfl⟩)
      · exact absurd c8_1 (by decide)
    | succ n ih =>
      intro a hi hR
      refine z_lvs (lvn := [(0, .int (nI (r))), (1, .int (nI (a))), (2, .int (nI (8 + n + 1)))]) (rfl) ?_
      refine z_iload_n C0 d_C_fold_5 rfl 2 rfl ?_
      refine z_bipush (v := nI 9) C0 d_C_fold_6 (by decide) ?_
      refine z_icmpN_lt (tgt := 36) C0 d_C_fold_8 (by decide) (by omega) (by omega) (fun (c8_2 : 8 + n + 1 < 9) => ?_) (fun (c8_2 : 9 ≤ 8 + n + 1) => ?_)
      · exact absurd c8_2 (by omega)
      · skip
        refine z_iload_n C0 d_C_fold_11 rfl 1 rfl ?_
        refine z_iload_n C0 d_C_fold_12 rfl 2 rfl ?_
        refine z_iushr C0 d_C_fold_13 rfl ?_
        refine z_iconst (v := 1) C0 d_C_fold_14 (by decide) ?_
        refine z_iand C0 d_C_fold_15 ?_
        refine z_top (vn := .int (bI (Nat.testBit (a) (8 + n + 1)))) (by rw [show (1 : Int32) = 1 from rfl, kf_bit _ (by omega)]) ?_
        refine z_ifB_eq (tgt := 30) C0 d_C_fold_16 (by decide) (fun (c16_3 : Nat.testBit (a) (8 + n + 1) = false) => ?_) (fun (c16_3 : Nat.testBit (a) (8 + n + 1) = true) => ?_)
        · skip
          refine z_iincD (q := 2) (lvn := [(0, .int (nI (r))), (1, .int (nI (a))), (2, .int (nI (8 + n)))]) C0 d_C_fold_30 rfl (by decide) [1, 2, 0] rfl ?_
          refine z_gotoK (tgt := 5) C0 d_C_fold_33 (by decide) ?_
          exact ih (a) (by omega) (by rw [hR]; simp only [kfo, show 9 + n = 8 + n + 1 by omega]; simp [c8_2, c16_3])
        · skip
          refine z_iload_n C0 d_C_fold_19 rfl 1 rfl ?_
          refine z_sipush (v := nI 529) C0 d_C_fold_20 (by decide) ?_
          refine z_iload_n C0 d_C_fold_23 rfl 2 rfl ?_
          refine z_bipush (v := nI 9) C0 d_C_fold_24 (by decide) ?_
          refine z_isubN C0 d_C_fold_26 (by omega) ?_
          refine z_top (vn := .int (nI (n))) (by rw [show 8 + n + 1 - 9 = n by omega]) ?_
          refine z_ishl C0 d_C_fold_27 ?_
          refine z_top (vn := .int (nI (529 <<< n))) (by rw [kf_shl (by omega)]) ?_
          refine z_ixor C0 d_C_fold_28 ?_
          refine z_top (vn := .int (nI (a ^^^ (529 <<< n)))) (by rw [nx_xor]) ?_
          refine z_istore_n (lvn := [(0, .int (nI (r))), (1, .int (nI (a ^^^ (529 <<< n)))), (2, .int (nI (8 + n + 1)))]) C0 d_C_fold_29 rfl (by decide) [1, 0, 2] rfl ?_
          refine z_iincD (q := 2) (lvn := [(0, .int (nI (r))), (1, .int (nI (a ^^^ (529 <<< n)))), (2, .int (nI (8 + n)))]) C0 d_C_fold_30 rfl (by decide) [1, 2, 0] rfl ?_
          refine z_gotoK (tgt := 5) C0 d_C_fold_33 (by decide) ?_
          exact ih (a ^^^ (529 <<< n)) (by omega) (by rw [hR]; simp only [kfo, show 9 + n = 8 + n + 1 by omega]; simp [c8_2, c16_3])
  exact lp5 (9) (r) (by omega) (rfl)

set_option maxHeartbeats 4000000 in
set_option maxRecDepth 100000 in
theorem c_C_timesX (l : Launch) (D : va_G) (cI cZ : ClassId)  (r : Nat) (hr0 : r < 262144) : zc_Con l y_C_timesX b_C_timesX 2 (some .int) { frames := 0, cells := 0, slots := 0, locals := 0 } D cI cZ [.int (nI (r))] ([]) (zo (some (.int (nI (kstep r)))) ([])) := by
  refine zc_start (by decide) (Nat.le_of_ble_eq_true rfl) ?_
  intro p e s m args below meth c A Q hA hQ C0 hr hin
  have C0 : zc_Cx p s m args meth c b_C_timesX 2 R_C D cI cZ A := C0
  refine z_lvs (lvn := [(0, .int (nI (r)))]) rfl ?_
  refine z_iload_n C0 d_C_timesX_0 rfl 0 rfl ?_
  refine z_iconst (v := nI 1) C0 d_C_timesX_1 (by decide) ?_
  refine z_ishl C0 d_C_timesX_2 ?_
  refine z_top (vn := .int (nI (2 * r))) (by rw [kx_shl hr0]) ?_
  refine z_istore_n (lvn := [(0, .int (nI (r))), (1, .int (nI (2 * r)))]) C0 d_C_timesX_3 rfl (by decide) [1, 0] rfl ?_
  refine z_iload_n C0 d_C_timesX_4 rfl 1 rfl ?_
  refine z_bipush (v := nI 18) C0 d_C_timesX_5 (by decide) ?_
  refine z_iushr C0 d_C_timesX_7 rfl ?_
  refine z_iconst (v := 1) C0 d_C_timesX_8 (by decide) ?_
  refine z_iand C0 d_C_timesX_9 ?_
  refine z_top (vn := .int (bI (Nat.testBit (2 * r) 18))) (by rw [kf_bit _ (by omega)]) ?_
  refine z_ifB_eq (tgt := 20) C0 d_C_timesX_10 (by decide) (fun (c10_1 : Nat.testBit (2 * r) 18 = false) => ?_) (fun (c10_1 : Nat.testBit (2 * r) 18 = true) => ?_)
  · rw [kx_bit hr0] at c10_1
    refine z_iload_n C0 d_C_timesX_20 rfl 1 rfl ?_
    exact z_iret C0 hA hQ hr d_C_timesX_21 (⟨by unfold kstep; simp at c10_1; split <;> (first | rfl | (exfalso; omega)), rfl⟩)
  · rw [kx_bit hr0] at c10_1
    refine z_iload_n C0 d_C_timesX_13 rfl 1 rfl ?_
    refine z_ldc (v := 300489) C0 ck_C_41 d_C_timesX_14 ?_
    refine z_ixor C0 d_C_timesX_16 ?_
    refine z_top (vn := .int (nI ((2 * r) ^^^ 300489))) (by rw [show (300489 : Int32) = nI 300489 by decide, nx_xor]) ?_
    refine z_gotoK (tgt := 21) C0 d_C_timesX_17 (by decide) ?_
    exact z_iret C0 hA hQ hr d_C_timesX_21 (⟨by unfold kstep; simp at c10_1; split <;> (first | rfl | (exfalso; omega)), rfl⟩)

set_option maxHeartbeats 4000000 in
set_option maxRecDepth 100000 in
theorem c_C_check (l : Launch) (D : va_G) (cI cZ : ClassId) (a n : Nat) (f : Nat → Int32)  (hn : n = 6) : zc_Con l y_C_check b_C_check 2 (some .int) { frames := 0, cells := 0, slots := 0, locals := 0 } D cI cZ [.ref (a)] (za_W cI a n f) (zo (some (.int (pchk (f 0) (f 1) (f 2) (f 3)))) (za_W cI a n f)) := by
  refine zc_start (by decide) (Nat.le_of_ble_eq_true rfl) ?_
  intro p e s m args below meth c A Q hA hQ C0 hr hin
  have C0 : zc_Cx p s m args meth c b_C_check 2 R_C D cI cZ A := C0
  refine z_lvs (lvn := [(0, .ref (a))]) rfl ?_
  refine z_aload_n C0 d_C_check_0 rfl 0 rfl ?_
  refine z_iconst (v := nI 0) C0 d_C_check_1 (by decide) ?_
  refine z_iald C0 0 rfl (by omega) (by omega) d_C_check_2 ?_
  refine z_bipush (v := 31) C0 d_C_check_3 (by decide) ?_
  refine z_imul C0 d_C_check_5 ?_
  refine z_aload_n C0 d_C_check_6 rfl 0 rfl ?_
  refine z_iconst (v := nI 1) C0 d_C_check_7 (by decide) ?_
  refine z_iald C0 0 rfl (by omega) (by omega) d_C_check_8 ?_
  refine z_iadd C0 d_C_check_9 ?_
  refine z_bipush (v := 31) C0 d_C_check_10 (by decide) ?_
  refine z_imul C0 d_C_check_12 ?_
  refine z_aload_n C0 d_C_check_13 rfl 0 rfl ?_
  refine z_iconst (v := nI 2) C0 d_C_check_14 (by decide) ?_
  refine z_iald C0 0 rfl (by omega) (by omega) d_C_check_15 ?_
  refine z_iadd C0 d_C_check_16 ?_
  refine z_bipush (v := 31) C0 d_C_check_17 (by decide) ?_
  refine z_imul C0 d_C_check_19 ?_
  refine z_aload_n C0 d_C_check_20 rfl 0 rfl ?_
  refine z_iconst (v := nI 3) C0 d_C_check_21 (by decide) ?_
  refine z_iald C0 0 rfl (by omega) (by omega) d_C_check_22 ?_
  refine z_iadd C0 d_C_check_23 ?_
  refine z_istore_n (lvn := [(0, .ref (a)), (1, .int (((((((f (0)) * 31) + (f (1))) * 31) + (f (2))) * 31) + (f (3))))]) C0 d_C_check_24 rfl (by decide) [1, 0] rfl ?_
  refine z_iload_n C0 d_C_check_25 rfl 1 rfl ?_
  refine z_iload_n C0 d_C_check_26 rfl 1 rfl ?_
  refine z_bipush (v := 15) C0 d_C_check_27 (by decide) ?_
  refine z_iushr C0 d_C_check_29 rfl ?_
  refine z_ixor C0 d_C_check_30 ?_
  exact z_iret C0 hA hQ hr d_C_check_31 (⟨rfl, rfl⟩)

set_option maxHeartbeats 4000000 in
set_option maxRecDepth 100000 in
theorem c_C_turn (l : Launch) (D : va_G) (cI cZ : ClassId) (a n : Nat) (f : Nat → Int32) (i : Nat) (hn : n = 6) (hi : i < 178) : zc_Con l y_C_turn b_C_turn 2 none { frames := 0, cells := 0, slots := 0, locals := 0 } D cI cZ [.ref (a), .int (nI (i))] (za_W cI a n f) (zo none (za_W cI a n (ptn f i))) := by
  refine zc_start (by decide) (Nat.le_of_ble_eq_true rfl) ?_
  intro p e s m args below meth c A Q hA hQ C0 hr hin
  have C0 : zc_Cx p s m args meth c b_C_turn 2 R_C D cI cZ A := C0
  refine z_lvs (lvn := [(0, .ref (a)), (1, .int (nI (i)))]) rfl ?_
  refine z_aload_n C0 d_C_turn_0 rfl 0 rfl ?_
  refine z_iload_n C0 d_C_turn_1 rfl 1 rfl ?_
  refine z_bipush (v := nI 32) C0 d_C_turn_2 (by decide) ?_
  refine z_idivN C0 d_C_turn_4 (by omega) (by omega) (by omega) ?_
  refine z_dup2 C0 d_C_turn_5 rfl rfl ?_
  refine z_iald C0 0 rfl (by omega) (by omega) d_C_turn_6 ?_
  refine z_iconst (v := 1) C0 d_C_turn_7 (by decide) ?_
  refine z_iload_n C0 d_C_turn_8 rfl 1 rfl ?_
  refine z_bipush (v := nI 32) C0 d_C_turn_9 (by decide) ?_
  refine z_iremN C0 d_C_turn_11 (by omega) (by omega) (by omega) ?_
  refine z_ishl C0 d_C_turn_12 ?_
  refine z_ixor C0 d_C_turn_13 ?_
  refine z_iast C0 0 rfl (by omega) (by omega) d_C_turn_14 ?_
  refine z_ws (wsn := za_W cI a n (upd f (i / 32) ((f (i / 32)) ^^^ (1 <<< ((nI (i % 32)) &&& 31))))) rfl ?_
  exact z_vret C0 hA hQ hr d_C_turn_15 (⟨rfl, rfl⟩)

set_option maxHeartbeats 4000000 in
set_option maxRecDepth 100000 in
theorem c_C_remainder (l : Launch) (D : va_G) (cI cZ : ClassId) (x : Nat → Nat) (u : Nat → Int32) (bits : Nat) (hb : bits ≤ 178) : zc_Con l y_C_remainder b_C_remainder 5 (some .int) { frames := 0, cells := 0, slots := 0, locals := 0 } D cI cZ [.ref (x 3), .ref (x 2), .int (nI (bits))] (zk_W cI x u) (zo (some (.int (nI (prem u bits 0 0)))) (zk_W cI x u)) := by
  refine zc_start (by decide) (Nat.le_of_ble_eq_true rfl) ?_
  intro p e s m args below meth c A Q hA hQ C0 hr hin
  have C0 : zc_Cx p s m args meth c b_C_remainder 5 R_C D cI cZ A := C0
  refine z_lvs (lvn := [(0, .ref (x 3)), (1, .ref (x 2)), (2, .int (nI (bits)))]) rfl ?_
  refine z_iconst (v := nI 0) C0 d_C_remainder_0 (by decide) ?_
  refine z_istore_n (lvn := [(0, .ref (x 3)), (1, .ref (x 2)), (2, .int (nI (bits))), (3, .int (nI (0)))]) C0 d_C_remainder_1 rfl (by decide) [1, 2, 3, 0] rfl ?_
  refine z_iconst (v := nI 0) C0 d_C_remainder_2 (by decide) ?_
  refine z_istore (lvn := [(0, .ref (x 3)), (1, .ref (x 2)), (2, .int (nI (bits))), (3, .int (nI (0))), (4, .int (nI (0)))]) C0 d_C_remainder_3 (by decide) [1, 2, 3, 4, 0] rfl ?_
  have lp5 : ∀ (n : Nat) (i : Nat) (a : Nat), (i + n = bits) → (prem u bits 0 0 = prem u n i a) → zc_Pt p l e { frames := 0, cells := 0, slots := 0, locals := 0 } s m args below meth c 5 D A 0 0 Q 5 [(0, .ref (x 3)), (1, .ref (x 2)), (2, .int (nI (bits))), (3, .int (nI (a))), (4, .int (nI (i)))] [] (zk_W cI x u) := by
    intro n
    induction n with
    | zero =>
      intro i a hi hR
      refine z_iload C0 d_C_remainder_5 4 rfl ?_
      refine z_iload_n C0 d_C_remainder_7 rfl 2 rfl ?_
      refine z_icmpN_ge (tgt := 45) C0 d_C_remainder_8 (by decide) (by omega) (by omega) (fun (c8_1 : bits ≤ i) => ?_) (fun (c8_1 : i < bits) => ?_)
      · skip
        refine z_iload_n C0 d_C_remainder_45 rfl 3 rfl ?_
        exact z_iret C0 hA hQ hr d_C_remainder_46 (⟨by rw [hR]; rfl, rfl⟩)
      · exact absurd c8_1 (by omega)
    | succ n ih =>
      intro i a hi hR
      refine z_iload C0 d_C_remainder_5 4 rfl ?_
      refine z_iload_n C0 d_C_remainder_7 rfl 2 rfl ?_
      refine z_icmpN_ge (tgt := 45) C0 d_C_remainder_8 (by decide) (by omega) (by omega) (fun (c8_2 : bits ≤ i) => ?_) (fun (c8_2 : i < bits) => ?_)
      · exact absurd c8_2 (by omega)
      · skip
        refine z_aload_n C0 d_C_remainder_11 rfl 1 rfl ?_
        refine z_iload C0 d_C_remainder_12 4 rfl ?_
        refine z_bipush (v := nI 32) C0 d_C_remainder_14 (by decide) ?_
        refine z_idivN C0 d_C_remainder_16 (by omega) (by omega) (by omega) ?_
        refine z_iald C0 3 rfl (by omega) (by omega) d_C_remainder_17 ?_
        refine z_iload C0 d_C_remainder_18 4 rfl ?_
        refine z_bipush (v := nI 32) C0 d_C_remainder_20 (by decide) ?_
        refine z_iremN C0 d_C_remainder_22 (by omega) (by omega) (by omega) ?_
        refine z_iushr C0 d_C_remainder_23 rfl ?_
        refine z_iconst (v := 1) C0 d_C_remainder_24 (by decide) ?_
        refine z_iand C0 d_C_remainder_25 ?_
        refine z_top (vn := .int (bI (pbit u i))) (by rw [pb_u _ (by omega)]; rfl) ?_
        refine z_ifB_eq (tgt := 39) C0 d_C_remainder_26 (by decide) (fun (c26_3 : pbit u i = false) => ?_) (fun (c26_3 : pbit u i = true) => ?_)
        · skip
          refine z_iincN (q := 4) (lvn := [(0, .ref (x 3)), (1, .ref (x 2)), (2, .int (nI (bits))), (3, .int (nI (a))), (4, .int (nI (i + 1)))]) C0 d_C_remainder_39 rfl (by decide) [1, 2, 3, 4, 0] rfl ?_
          refine z_gotoK (tgt := 5) C0 d_C_remainder_42 (by decide) ?_
          exact ih (i + 1) (a) (by omega) (by rw [hR]; simp [prem, c8_2, c26_3])
        · skip
          refine z_iload_n C0 d_C_remainder_29 rfl 3 rfl ?_
          refine z_aload_n C0 d_C_remainder_30 rfl 0 rfl ?_
          refine z_get C0 gf_C_11 0 rfl rfl d_C_remainder_31 ?_
          refine z_iload C0 d_C_remainder_34 4 rfl ?_
          refine z_iald C0 1 rfl (by omega) (by omega) d_C_remainder_36 ?_
          refine z_ixor C0 d_C_remainder_37 ?_
          refine z_top (vn := .int (nI (a ^^^ kt i))) (by rw [show zk_R i = nI (kt i) from rfl, nx_xor]) ?_
          refine z_istore_n (lvn := [(0, .ref (x 3)), (1, .ref (x 2)), (2, .int (nI (bits))), (3, .int (nI (a ^^^ kt i))), (4, .int (nI (i)))]) C0 d_C_remainder_38 rfl (by decide) [1, 2, 3, 0, 4] rfl ?_
          refine z_iincN (q := 4) (lvn := [(0, .ref (x 3)), (1, .ref (x 2)), (2, .int (nI (bits))), (3, .int (nI (a ^^^ kt i))), (4, .int (nI (i + 1)))]) C0 d_C_remainder_39 rfl (by decide) [1, 2, 3, 4, 0] rfl ?_
          refine z_gotoK (tgt := 5) C0 d_C_remainder_42 (by decide) ?_
          exact ih (i + 1) (a ^^^ kt i) (by omega) (by rw [hR]; simp [prem, c8_2, c26_3])
  exact lp5 (bits) (0) (0) (by omega) (rfl)

set_option maxHeartbeats 4000000 in
set_option maxRecDepth 100000 in
theorem c_C_parity (l : Launch) (D : va_G) (cI cZ : ClassId) (x : Nat → Nat) (u : Nat → Int32)   : zc_Con l y_C_parity b_C_parity 2 (some .int) { frames := 1, cells := 0, slots := 0, locals := 24 } D cI cZ [.ref (x 3), .ref (x 2)] (zk_W cI x u) (zo (some (.int (nI (prem u 160 0 0)))) (zk_W cI x u)) := by
  refine zc_start (by decide) (Nat.le_of_ble_eq_true rfl) ?_
  intro p e s m args below meth c A Q hA hQ C0 hr hin
  have C0 : zc_Cx p s m args meth c b_C_parity 2 R_C D cI cZ A := C0
  refine z_lvs (lvn := [(0, .ref (x 3)), (1, .ref (x 2))]) rfl ?_
  refine z_aload_n C0 d_C_parity_0 rfl 0 rfl ?_
  refine z_aload_n C0 d_C_parity_1 rfl 1 rfl ?_
  refine z_sipush (v := nI 160) C0 d_C_parity_2 (by decide) ?_
  refine z_allV (As := [.ref (x 2), .int (nI (160))]) (rest := []) C0 (c_C_remainder l D cI cZ x u  (160) (by omega)) mt_C_remainder ml_C_31 vt_C_remainder rfl rfl ⟨Nat.le_of_ble_eq_true rfl, Nat.le_of_ble_eq_true rfl⟩ ⟨rfl, rfl⟩ ⟨Nat.zero_le _, Nat.zero_le _⟩ rfl rfl (Nat.le_of_ble_eq_true rfl) d_C_parity_5 ?_
  refine z_st (stn := [.int (nI (prem u (160) 0 0))]) rfl ?_
  exact z_iret C0 hA hQ hr d_C_parity_8 (⟨rfl, rfl⟩)

set_option maxHeartbeats 4000000 in
set_option maxRecDepth 100000 in
theorem c_C_bitWith (l : Launch) (D : va_G) (cI cZ : ClassId) (x : Nat → Nat) (r : Nat) (hr0 : r < 262144) : zc_Con l y_C_bitWith b_C_bitWith 3 (some .int) { frames := 1, cells := 0, slots := 0, locals := 22 } D cI cZ [.ref (x 3), .int (nI (r))] (zk_C cI x) (zo (some (.int (oN (kw r)))) (zk_C cI x)) := by
  refine zc_start (by decide) (Nat.le_of_ble_eq_true rfl) ?_
  intro p e s m args below meth c A Q hA hQ C0 hr hin
  have C0 : zc_Cx p s m args meth c b_C_bitWith 3 R_C D cI cZ A := C0
  refine z_lvs (lvn := [(0, .ref (x 3)), (1, .int (nI (r)))]) rfl ?_
  refine z_aload_n C0 d_C_bitWith_0 rfl 0 rfl ?_
  refine z_get C0 gf_C_15 0 rfl rfl d_C_bitWith_1 ?_
  refine z_iload_n C0 d_C_bitWith_4 rfl 1 rfl ?_
  refine z_nilS (As := [.int (nI (r))]) (rest := [.ref (x 5)]) C0 (c_C_fold l D cI cZ    (r) ) mt_C_fold ml_C_24 vt_C_fold ⟨Nat.le_of_ble_eq_true rfl, Nat.le_of_ble_eq_true rfl⟩ ⟨rfl, rfl⟩ ⟨Nat.zero_le _, Nat.zero_le _⟩ rfl rfl (Nat.le_of_ble_eq_true rfl) d_C_bitWith_5 ?_
  refine z_st (stn := [.int (nI (kf (r))), .ref (x 5)]) rfl ?_
  refine z_iald C0 2 rfl (kf_lt r) (by omega) d_C_bitWith_8 ?_
  refine z_top (vn := .int (oN (kbo (kf r)))) (by rw [show zk_B (kf r) = oN (kbo (kf r)) from if_pos (kf_lt r)]) ?_
  refine z_istore_n (lvn := [(0, .ref (x 3)), (1, .int (nI (r))), (2, .int (oN (kbo (kf r))))]) C0 d_C_bitWith_9 rfl (by decide) [1, 2, 0] rfl ?_
  refine z_iload_n C0 d_C_bitWith_10 rfl 2 rfl ?_
  refine z_iconst (v := -1) C0 d_C_bitWith_11 (by decide) ?_
  rcases e12_1 : kbo (kf r) with _ | g12_2
  · refine z_st (stn := [.int (-1), .int (-1)]) (by first | rfl | (rw [e12_1]; rfl)) ?_
    refine z_lvs (lvn := [(0, .ref (x 3)), (1, .int (nI (r))), (2, .int (-1))]) (by first | rfl | (rw [e12_1]; rfl)) ?_
    refine z_icmp_eq (tgt := 29) C0 d_C_bitWith_12 (by decide) (fun c12_3 => ?_) (fun c12_3 => ?_)
    · skip
      refine z_iconst (v := -1) C0 d_C_bitWith_29 (by decide) ?_
      exact z_iret C0 hA hQ hr d_C_bitWith_30 (⟨by rw [kbo_none e12_1]; rfl, rfl⟩)
    · exact absurd rfl c12_3
  · refine z_st (stn := [.int (-1), .int (nI (g12_2))]) (by first | rfl | (rw [e12_1]; rfl)) ?_
    refine z_lvs (lvn := [(0, .ref (x 3)), (1, .int (nI (r))), (2, .int (nI (g12_2)))]) (by first | rfl | (rw [e12_1]; rfl)) ?_
    obtain ⟨hg, hg2⟩ := kbo_some e12_1
    refine z_icmp_eq (tgt := 29) C0 d_C_bitWith_12 (by decide) (fun c12_4 => ?_) (fun c12_4 => ?_)
    · exact absurd c12_4 (nI_m1 (by omega))
    · skip
      refine z_aload_n C0 d_C_bitWith_15 rfl 0 rfl ?_
      refine z_get C0 gf_C_11 0 rfl rfl d_C_bitWith_16 ?_
      refine z_iload_n C0 d_C_bitWith_19 rfl 2 rfl ?_
      refine z_iald C0 1 rfl (by omega) (by omega) d_C_bitWith_20 ?_
      refine z_top (vn := .int (nI (kt (g12_2)))) (rfl) ?_
      refine z_iload_n C0 d_C_bitWith_21 rfl 1 rfl ?_
      refine z_icmpN_ne (tgt := 29) C0 d_C_bitWith_22 (by decide) (by have := (kt_lt1 hg2).1; omega) (by omega) (fun (c22_5 : kt (g12_2) ≠ r) => ?_) (fun (c22_5 : kt (g12_2) = r) => ?_)
      · skip
        refine z_iconst (v := -1) C0 d_C_bitWith_29 (by decide) ?_
        exact z_iret C0 hA hQ hr d_C_bitWith_30 (⟨by unfold kw; rw [if_neg (by rw [← hg]; exact fun z => c22_5 z.2)]; rfl, rfl⟩)
      · skip
        refine z_iload_n C0 d_C_bitWith_25 rfl 2 rfl ?_
        refine z_gotoK (tgt := 30) C0 d_C_bitWith_26 (by decide) ?_
        exact z_iret C0 hA hQ hr d_C_bitWith_30 (⟨by rw [show kw r = some g12_2 from kw_some.mpr ⟨hg2, c22_5⟩]; rfl, rfl⟩)

set_option maxHeartbeats 4000000 in
set_option maxRecDepth 100000 in
theorem c_C_mend (l : Launch) (D : va_G) (cI cZ : ClassId) (x : Nat → Nat) (u : Nat → Int32)   : zc_Con l y_C_mend b_C_mend 6 (some .int) { frames := 2, cells := 0, slots := 0, locals := 44 } D cI cZ [.ref (x 3), .ref (x 2)] (zk_W cI x u) (zo (some (.int (nI ((pmend u (prem u 178 0 0)).1)))) (zk_W cI x ((pmend u (prem u 178 0 0)).2))) := by
  refine zc_start (by decide) (Nat.le_of_ble_eq_true rfl) ?_
  intro p e s m args below meth c A Q hA hQ C0 hr hin
  have C0 : zc_Cx p s m args meth c b_C_mend 6 R_C D cI cZ A := C0
  refine z_lvs (lvn := [(0, .ref (x 3)), (1, .ref (x 2))]) rfl ?_
  refine z_aload_n C0 d_C_mend_0 rfl 0 rfl ?_
  refine z_aload_n C0 d_C_mend_1 rfl 1 rfl ?_
  refine z_sipush (v := nI 178) C0 d_C_mend_2 (by decide) ?_
  refine z_allV (As := [.ref (x 2), .int (nI (178))]) (rest := []) C0 (c_C_remainder l D cI cZ x u  (178) (by omega)) mt_C_remainder ml_C_31 vt_C_remainder rfl rfl ⟨Nat.le_of_ble_eq_true rfl, Nat.le_of_ble_eq_true rfl⟩ ⟨rfl, rfl⟩ ⟨Nat.zero_le _, Nat.zero_le _⟩ rfl rfl (Nat.le_of_ble_eq_true rfl) d_C_mend_5 ?_
  refine z_st (stn := [.int (nI (prem u (178) 0 0))]) rfl ?_
  refine z_istore_n (lvn := [(0, .ref (x 3)), (1, .ref (x 2)), (2, .int (nI (prem u (178) 0 0)))]) C0 d_C_mend_8 rfl (by decide) [1, 2, 0] rfl ?_
  refine z_iload_n C0 d_C_mend_9 rfl 2 rfl ?_
  refine z_ifN_ne (tgt := 15) C0 d_C_mend_10 (by decide) (by have := prem_lt u 178 0 0 (by omega); omega) (fun c10_1 => ?_) (fun c10_1 => ?_)
  · skip
    refine z_aload_n C0 d_C_mend_15 rfl 0 rfl ?_
    refine z_iload_n C0 d_C_mend_16 rfl 2 rfl ?_
    refine z_detV (As := [.int (nI (prem u (178) 0 0))]) (rest := []) (wsn := zk_W cI x u) C0 (c_C_bitWith l D cI cZ x   (prem u (178) 0 0) (by first | exact prem_lt u 178 0 0 (by omega) | exact kx_lt (prem_lt u 178 0 0 (by omega)) (kt_lt1 (by omega)).1)) mt_C_bitWith ml_C_35 vt_C_bitWith rfl rfl ⟨Nat.le_of_ble_eq_true rfl, Nat.le_of_ble_eq_true rfl⟩ ⟨rfl, rfl⟩ ⟨Nat.zero_le _, Nat.zero_le _⟩ rfl [0, 1, 2] [3] [1, 2, 3, 0] rfl (by decide) (wr := [(x 2, .inl (cI, 6, .inl (u)))]) rfl (by decide) (by decide) rfl (by decide) rfl (Nat.le_of_ble_eq_true rfl) d_C_mend_17 ?_
    refine z_st (stn := [.int (oN (kw (prem u (178) 0 0)))]) rfl ?_
    refine z_istore_n (lvn := [(0, .ref (x 3)), (1, .ref (x 2)), (2, .int (nI (prem u (178) 0 0))), (3, .int (oN (kw (prem u (178) 0 0))))]) C0 d_C_mend_20 rfl (by decide) [1, 2, 3, 0] rfl ?_
    refine z_iload_n C0 d_C_mend_21 rfl 3 rfl ?_
    refine z_iconst (v := -1) C0 d_C_mend_22 (by decide) ?_
    rcases e23_2 : kw (prem u (178) 0 0) with _ | g23_3
    · refine z_st (stn := [.int (-1), .int (-1)]) (by first | rfl | (rw [e23_2]; rfl)) ?_
      refine z_lvs (lvn := [(0, .ref (x 3)), (1, .ref (x 2)), (2, .int (nI (prem u (178) 0 0))), (3, .int (-1))]) (by first | rfl | (rw [e23_2]; rfl)) ?_
      refine z_icmp_eq (tgt := 33) C0 d_C_mend_23 (by decide) (fun c23_4 => ?_) (fun c23_4 => ?_)
      · skip
        refine z_iconst (v := nI 0) C0 d_C_mend_33 (by decide) ?_
        refine z_istore (lvn := [(0, .ref (x 3)), (1, .ref (x 2)), (2, .int (nI (prem u (178) 0 0))), (3, .int (-1)), (4, .int (nI (0)))]) C0 d_C_mend_34 (by decide) [1, 2, 3, 4, 0] rfl ?_
        have lp36 : ∀ (n : Nat) (i : Nat), (i + n = 178) → (kp2 (prem u 178 0 0) 178 0 = kp2 (prem u 178 0 0) n i) → zc_Pt p l e { frames := 2, cells := 0, slots := 0, locals := 44 } s m args below meth c 6 D A 0 0 Q 36 [(0, .ref (x 3)), (1, .ref (x 2)), (2, .int (nI (prem u (178) 0 0))), (3, .int (-1)), (4, .int (nI (i)))] [] (zk_W cI x u) := by
          intro n
          induction n with
          | zero =>
            intro i hi hR
            refine z_iload C0 d_C_mend_36 4 rfl ?_
            refine z_sipush (v := nI 178) C0 d_C_mend_38 (by decide) ?_
            refine z_icmpN_ge (tgt := 85) C0 d_C_mend_41 (by decide) (by omega) (by omega) (fun (c41_5 : 178 ≤ i) => ?_) (fun (c41_5 : i < 178) => ?_)
            · skip
              refine z_iconst (v := nI 3) C0 d_C_mend_85 (by decide) ?_
              exact z_iret C0 hA hQ hr d_C_mend_86 (by have e9 : pmend u (prem u 178 0 0) = (3, u) := (by unfold pmend; rw [if_neg (Nat.pos_iff_ne_zero.mp c10_1), e23_2]; show pmend2 u (kp2 (prem u 178 0 0) 178 0) = _; rw [hR]; rfl); rw [e9]; exact ⟨rfl, rfl⟩)
            · exact absurd c41_5 (by omega)
          | succ n ih =>
            intro i hi hR
            refine z_iload C0 d_C_mend_36 4 rfl ?_
            refine z_sipush (v := nI 178) C0 d_C_mend_38 (by decide) ?_
            refine z_icmpN_ge (tgt := 85) C0 d_C_mend_41 (by decide) (by omega) (by omega) (fun (c41_6 : 178 ≤ i) => ?_) (fun (c41_6 : i < 178) => ?_)
            · exact absurd c41_6 (by omega)
            · skip
              refine z_aload_n C0 d_C_mend_44 rfl 0 rfl ?_
              refine z_iload_n C0 d_C_mend_45 rfl 2 rfl ?_
              refine z_aload_n C0 d_C_mend_46 rfl 0 rfl ?_
              refine z_get C0 gf_C_11 0 rfl rfl d_C_mend_47 ?_
              refine z_iload C0 d_C_mend_50 4 rfl ?_
              refine z_iald C0 1 rfl (by omega) (by omega) d_C_mend_52 ?_
              refine z_ixor C0 d_C_mend_53 ?_
              refine z_top (vn := .int (nI ((prem u 178 0 0) ^^^ kt i))) (by rw [show zk_R i = nI (kt i) from rfl, nx_xor]) ?_
              refine z_detV (As := [.int (nI ((prem u 178 0 0) ^^^ kt i))]) (rest := []) (wsn := zk_W cI x u) C0 (c_C_bitWith l D cI cZ x   ((prem u 178 0 0) ^^^ kt i) (by first | exact prem_lt u 178 0 0 (by omega) | exact kx_lt (prem_lt u 178 0 0 (by omega)) (kt_lt1 (by omega)).1)) mt_C_bitWith ml_C_35 vt_C_bitWith rfl rfl ⟨Nat.le_of_ble_eq_true rfl, Nat.le_of_ble_eq_true rfl⟩ ⟨rfl, rfl⟩ ⟨Nat.zero_le _, Nat.zero_le _⟩ rfl [0, 1, 2] [3] [1, 2, 3, 0] rfl (by decide) (wr := [(x 2, .inl (cI, 6, .inl (u)))]) rfl (by decide) (by decide) rfl (by decide) rfl (Nat.le_of_ble_eq_true rfl) d_C_mend_54 ?_
              refine z_st (stn := [.int (oN (kw ((prem u 178 0 0) ^^^ kt i)))]) rfl ?_
              refine z_istore (lvn := [(0, .ref (x 3)), (1, .ref (x 2)), (2, .int (nI (prem u (178) 0 0))), (3, .int (-1)), (4, .int (nI (i))), (5, .int (oN (kw ((prem u 178 0 0) ^^^ kt i))))]) C0 d_C_mend_57 (by decide) [1, 2, 3, 4, 5, 0] rfl ?_
              refine z_iload C0 d_C_mend_59 5 rfl ?_
              refine z_iconst (v := -1) C0 d_C_mend_61 (by decide) ?_
              rcases e62_7 : kw ((prem u 178 0 0) ^^^ kt i) with _ | g62_8
              · refine z_st (stn := [.int (-1), .int (-1)]) (by first | rfl | (rw [e62_7]; rfl)) ?_
                refine z_lvs (lvn := [(0, .ref (x 3)), (1, .ref (x 2)), (2, .int (nI (prem u (178) 0 0))), (3, .int (-1)), (4, .int (nI (i))), (5, .int (-1))]) (by first | rfl | (rw [e62_7]; rfl)) ?_
                refine z_icmp_eq (tgt := 79) C0 d_C_mend_62 (by decide) (fun c62_9 => ?_) (fun c62_9 => ?_)
                · skip
                  refine z_iincN (q := 4) (lvn := [(0, .ref (x 3)), (1, .ref (x 2)), (2, .int (nI (prem u (178) 0 0))), (3, .int (-1)), (4, .int (nI (i + 1))), (5, .int (-1))]) C0 d_C_mend_79 rfl (by decide) [1, 2, 3, 4, 0, 5] rfl ?_
                  refine z_gotoK (tgt := 36) C0 d_C_mend_82 (by decide) ?_
                  refine z_lv [0, 1, 2, 3, 4] rfl ?_
                  exact ih (i + 1) (by omega) (by rw [hR]; simp only [kp2, e62_7])
                · exact absurd rfl c62_9
              · refine z_st (stn := [.int (-1), .int (nI (g62_8))]) (by first | rfl | (rw [e62_7]; rfl)) ?_
                refine z_lvs (lvn := [(0, .ref (x 3)), (1, .ref (x 2)), (2, .int (nI (prem u (178) 0 0))), (3, .int (-1)), (4, .int (nI (i))), (5, .int (nI (g62_8)))]) (by first | rfl | (rw [e62_7]; rfl)) ?_
                have hg62 := (kw_some.mp e62_7).1
                refine z_icmp_eq (tgt := 79) C0 d_C_mend_62 (by decide) (fun c62_10 => ?_) (fun c62_10 => ?_)
                · exact absurd c62_10 (nI_m1 (by omega))
                · skip
                  refine z_aload_n C0 d_C_mend_65 rfl 1 rfl ?_
                  refine z_iload C0 d_C_mend_66 4 rfl ?_
                  refine z_detS (As := [.ref (x 2), .int (nI (i))]) (rest := []) (wsn := zk_W cI x (ptn u (i))) C0 (c_C_turn l D cI cZ  (x 2) 6 u  (i) (rfl) (by omega)) mt_C_turn ml_C_38 vt_C_turn ⟨Nat.le_of_ble_eq_true rfl, Nat.le_of_ble_eq_true rfl⟩ ⟨rfl, rfl⟩ ⟨Nat.zero_le _, Nat.zero_le _⟩ rfl [3] [0, 1, 2] [0, 1, 2, 3] rfl (by decide) (wr := [(x 3, .inr (2, [.ref (x 4), .ref (x 5)])), (x 4, .inl (cI, 178, .inl (zk_R))), (x 5, .inl (cI, 512, .inl (zk_B)))]) rfl (by decide) (by decide) rfl (by decide) rfl (Nat.le_of_ble_eq_true rfl) d_C_mend_68 ?_
                  refine z_st (stn := []) rfl ?_
                  refine z_aload_n C0 d_C_mend_71 rfl 1 rfl ?_
                  refine z_iload C0 d_C_mend_72 5 rfl ?_
                  refine z_detS (As := [.ref (x 2), .int (nI (g62_8))]) (rest := []) (wsn := zk_W cI x (ptn (ptn u (i)) (g62_8))) C0 (c_C_turn l D cI cZ  (x 2) 6 (ptn u (i))  (g62_8) (rfl) (by omega)) mt_C_turn ml_C_38 vt_C_turn ⟨Nat.le_of_ble_eq_true rfl, Nat.le_of_ble_eq_true rfl⟩ ⟨rfl, rfl⟩ ⟨Nat.zero_le _, Nat.zero_le _⟩ rfl [3] [0, 1, 2] [0, 1, 2, 3] rfl (by decide) (wr := [(x 3, .inr (2, [.ref (x 4), .ref (x 5)])), (x 4, .inl (cI, 178, .inl (zk_R))), (x 5, .inl (cI, 512, .inl (zk_B)))]) rfl (by decide) (by decide) rfl (by decide) rfl (Nat.le_of_ble_eq_true rfl) d_C_mend_74 ?_
                  refine z_st (stn := []) rfl ?_
                  refine z_iconst (v := nI 2) C0 d_C_mend_77 (by decide) ?_
                  exact z_iret C0 hA hQ hr d_C_mend_78 (by have e9 : pmend u (prem u 178 0 0) = (2, ptn (ptn u i) g62_8) := (by unfold pmend; rw [if_neg (Nat.pos_iff_ne_zero.mp c10_1), e23_2]; show pmend2 u (kp2 (prem u 178 0 0) 178 0) = _; rw [hR]; simp only [kp2, e62_7]; rfl); rw [e9]; exact ⟨rfl, rfl⟩)
        exact lp36 (178) (0) (by omega) (rfl)
      · exact absurd rfl c23_4
    · refine z_st (stn := [.int (-1), .int (nI (g23_3))]) (by first | rfl | (rw [e23_2]; rfl)) ?_
      refine z_lvs (lvn := [(0, .ref (x 3)), (1, .ref (x 2)), (2, .int (nI (prem u (178) 0 0))), (3, .int (nI (g23_3)))]) (by first | rfl | (rw [e23_2]; rfl)) ?_
      have hg23 := (kw_some.mp e23_2).1
      refine z_icmp_eq (tgt := 33) C0 d_C_mend_23 (by decide) (fun c23_11 => ?_) (fun c23_11 => ?_)
      · exact absurd c23_11 (nI_m1 (by omega))
      · skip
        refine z_aload_n C0 d_C_mend_26 rfl 1 rfl ?_
        refine z_iload_n C0 d_C_mend_27 rfl 3 rfl ?_
        refine z_detS (As := [.ref (x 2), .int (nI (g23_3))]) (rest := []) (wsn := zk_W cI x (ptn u (g23_3))) C0 (c_C_turn l D cI cZ  (x 2) 6 u  (g23_3) (rfl) (by omega)) mt_C_turn ml_C_38 vt_C_turn ⟨Nat.le_of_ble_eq_true rfl, Nat.le_of_ble_eq_true rfl⟩ ⟨rfl, rfl⟩ ⟨Nat.zero_le _, Nat.zero_le _⟩ rfl [3] [0, 1, 2] [0, 1, 2, 3] rfl (by decide) (wr := [(x 3, .inr (2, [.ref (x 4), .ref (x 5)])), (x 4, .inl (cI, 178, .inl (zk_R))), (x 5, .inl (cI, 512, .inl (zk_B)))]) rfl (by decide) (by decide) rfl (by decide) rfl (Nat.le_of_ble_eq_true rfl) d_C_mend_28 ?_
        refine z_st (stn := []) rfl ?_
        refine z_iconst (v := nI 2) C0 d_C_mend_31 (by decide) ?_
        exact z_iret C0 hA hQ hr d_C_mend_32 (by have e9 : pmend u (prem u 178 0 0) = (2, ptn u g23_3) := (by unfold pmend; rw [if_neg (Nat.pos_iff_ne_zero.mp c10_1), e23_2]; rfl); rw [e9]; exact ⟨rfl, rfl⟩)
  · skip
    refine z_iconst (v := nI 1) C0 d_C_mend_13 (by decide) ?_
    exact z_iret C0 hA hQ hr d_C_mend_14 (⟨by rw [show pmend u (prem u 178 0 0) = (1, u) from if_pos c10_1], by rw [show pmend u (prem u 178 0 0) = (1, u) from if_pos c10_1]⟩)
