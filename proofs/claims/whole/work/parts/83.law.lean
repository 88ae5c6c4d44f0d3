set_option maxHeartbeats 4000000 in
set_option maxRecDepth 100000 in
theorem law_loop {p : Program} {e : Env} {s : State} {m : MethodId} {below : List Frame} {meth : Method} {c : Code} (l : Launch) {b L : Nat} {xs : Nat → Int32} {D : va_G} {cI cZ : ClassId} {x y : Nat → Nat} {bc bp : Nat} (C0 : zc_Cx p s m #[Value.ref b] meth c b_law 4 R_W D cI cZ (fun q : Nat => s.heap.size ≤ q)) (hX : va_X b L xs s s.heap) (hbl : b < s.heap.size) (hbA : ¬ (fun q : Nat => s.heap.size ≤ q) b) (hL : L < 2 ^ 31) (hB0 : zb_ok bc bp) (hr : meth.sig.returnType = ret) (hL8 : L < 2 ^ 31 - 8) : ∀ (n i : Nat) (S : zs_S) (M : zm_S), i ≤ L + 2 → L + 3 ≤ i + n → zR bc bp S M → zc_Pt p l e room_1 s m #[Value.ref b] below meth c 4 D (fun q : Nat => s.heap.size ≤ q) 22 1361 (lw_Z below #[Value.ref b] s) 38 [(0, .ref b), (1, .ref (x 0)), (2, .ref (y 0)), (3, .int (nI i))] [] (zs_W cI cZ x bc bp S ++ zm_W cI cZ y bc bp M) := by
  intro n
  induction n with
  | zero => intro i S M h1 h2 _; omega
  | succ n ih =>
    intro i S M h1 h2 hR
    refine z_iload_n C0 d_law_38 rfl 3 rfl ?_
    refine z_aload_n C0 d_law_39 rfl 0 rfl ?_
    refine z_slen C0 hX hbl hbA d_law_40 ?_
    refine z_iconst (v := nI 3) C0 d_law_41 (by decide) ?_
    refine z_isub C0 d_law_42 ?_
    refine z_icmp_gt (tgt := 464) C0 d_law_43 (by decide) (fun h => ?_) (fun h => ?_)
    · refine z_iconst (v := 1) C0 d_law_464 (by decide) ?_
      refine z_widen (k := 600000) (n := 7302250) (Nat.le_of_ble_eq_true rfl) (Nat.le_of_ble_eq_true rfl) ?_
      intro H locs ls hP hD hS hlv
      exact va_forget hS.2.2 (lw_ret C0.1 C0.2.1 hr C0.2.2.2.2.2.2.2 d_law_465)
    · have hi := lw_le hL (by omega) h
      refine z_aload_n C0 d_law_46 rfl 0 rfl ?_
      refine z_iload_n C0 d_law_47 rfl 3 rfl ?_
      refine z_sld C0 hX hbl hbA (by omega) hL d_law_48 ?_
      refine z_bipush (v := nI 15) C0 d_law_49 (by decide) ?_
      refine z_iand C0 d_law_51 ?_
      obtain ⟨k, hk, e0⟩ := lw_15 (xs i)
      refine z_topi e0 ?_
      have go : ∀ S M, zR bc bp S M → zc_Pt p l e room_1 s m #[Value.ref b] below meth c 4 D (fun q : Nat => s.heap.size ≤ q) 22 1361 (lw_Z below #[Value.ref b] s) 458 [(0, .ref b), (1, .ref (x 0)), (2, .ref (y 0)), (3, .int (nI i))] [] (zs_W cI cZ x bc bp S ++ zm_W cI cZ y bc bp M) := by
        intro S M hR
        refine z_iinc (q := 3) (v := nI (i + 3)) (lvn := [(0, .ref b), (1, .ref (x 0)), (2, .ref (y 0)), (3, .int (nI (i + 3)))]) C0 d_law_458 rfl (nI_3 i) (by decide) [1, 2, 3, 0] rfl ?_
        refine z_gotoK (tgt := 38) C0 d_law_461 (by decide) ?_
        exact ih (i + 3) S M (by omega) (by omega) hR
      rcases (show k = 0 ∨ k = 1 ∨ k = 2 ∨ k = 3 ∨ k = 4 ∨ k = 5 ∨ k = 6 ∨ k = 7 ∨ k = 8 ∨ k = 9 ∨ k = 10 ∨ k = 11 ∨ k = 12 ∨ k = 13 ∨ k = 14 ∨ k = 15 by omega) with rfl | rfl | rfl | rfl | rfl | rfl | rfl | rfl | rfl | rfl | rfl | rfl | rfl | rfl | rfl | rfl
      · exact z_table (tgt := 132) C0 d_law_52 (by decide) (by decide) rfl (by decide) (law_0 l C0 hX hbl hbA hL hB0 hi hR go)
      · exact z_table (tgt := 143) C0 d_law_52 (by decide) (by decide) rfl (by decide) (law_1 l C0 hX hbl hbA hL hB0 hi hR go)
      · exact z_table (tgt := 156) C0 d_law_52 (by decide) (by decide) rfl (by decide) (law_2 l C0 hX hbl hbA hL hB0 hi hR go)
      · exact z_table (tgt := 189) C0 d_law_52 (by decide) (by decide) rfl (by decide) (law_3 l C0 hX hbl hbA hL hB0 hi hR go)
      · exact z_table (tgt := 212) C0 d_law_52 (by decide) (by decide) rfl (by decide) (law_4 l C0 hX hbl hbA hL hB0 hi hR go)
      · exact z_table (tgt := 235) C0 d_law_52 (by decide) (by decide) rfl (by decide) (law_5 l C0 hX hbl hbA hL hB0 hi hR go)
      · exact z_table (tgt := 258) C0 d_law_52 (by decide) (by decide) rfl (by decide) (law_6 l C0 hX hbl hbA hL hB0 hi hR go)
      · exact z_table (tgt := 271) C0 d_law_52 (by decide) (by decide) rfl (by decide) (law_7 l C0 hX hbl hbA hL hB0 hi hR go)
      · exact z_table (tgt := 304) C0 d_law_52 (by decide) (by decide) rfl (by decide) (law_8 l C0 hX hbl hbA hL hB0 hi hR go)
      · exact z_table (tgt := 317) C0 d_law_52 (by decide) (by decide) rfl (by decide) (law_9 l C0 hX hbl hbA hL hB0 hi hR go)
      · exact z_table (tgt := 340) C0 d_law_52 (by decide) (by decide) rfl (by decide) (law_10 l C0 hX hbl hbA hL hB0 hi hR go)
      · exact z_table (tgt := 353) C0 d_law_52 (by decide) (by decide) rfl (by decide) (law_11 l C0 hX hbl hbA hL hB0 hi hR go)
      · exact z_table (tgt := 376) C0 d_law_52 (by decide) (by decide) rfl (by decide) (law_12 l C0 hX hbl hbA hL hB0 hi hR go)
      · exact z_table (tgt := 409) C0 d_law_52 (by decide) (by decide) rfl (by decide) (law_13 l C0 hX hbl hbA hL hB0 hi hR go)
      · exact z_table (tgt := 432) C0 d_law_52 (by decide) (by decide) rfl (by decide) (law_14 l C0 hX hbl hbA hL hB0 hi hR go)
      · exact z_table (tgt := 445) C0 d_law_52 (by decide) (by decide) rfl (by decide) (law_15 l C0 hX hbl hbA hL hB0 hi hR go)
set_option maxHeartbeats 4000000 in
set_option maxRecDepth 100000 in
theorem whole_pt {p : Program} {e : Env} {s : State} {m : MethodId} {below : List Frame} {meth : Method} {c : Code} (l : Launch) {b L : Nat} {xs : Nat → Int32} {D : va_G} {cI cZ : ClassId} (C0 : zc_Cx p s m #[Value.ref b] meth c b_law 4 R_W D cI cZ (fun q : Nat => s.heap.size ≤ q)) (hX : va_X b L xs s s.heap) (hbl : b < s.heap.size) (hbA : ¬ (fun q : Nat => s.heap.size ≤ q) b) (hL8 : L < 2 ^ 31 - 8) (hr : meth.sig.returnType = ret) : W p l e room_1 s m #[Value.ref b] below meth c s.heap [] 0 0 (lw_Z below #[Value.ref b] s) (entryFrame m ([Value.ref b] : List Value).toArray 4) := by
  have hL : L < 2 ^ 31 := by omega
  obtain ⟨v0, h0⟩ : ∃ v : Int32, (if 0 < L then xs 0 else 0) = v := ⟨_, rfl⟩
  obtain ⟨v1, h1⟩ : ∃ v : Int32, (if 1 < L then xs 1 else 0) = v := ⟨_, rfl⟩
  have hB := zc_ok v0 v1
  obtain ⟨bc, hbc⟩ : ∃ n, zcB v0 = n := ⟨_, rfl⟩
  obtain ⟨bp, hbp2⟩ : ∃ n, zcP v1 = n := ⟨_, rfl⟩
  rw [hbc, hbp2] at hB
  have hB0 := hB
  have hN : bc * bp ≤ 20 := Nat.mul_le_mul hB.2.1 hB.2.2.2
  have key : zc_Pt p l e room_1 s m #[Value.ref b] below meth c 4 D (fun q : Nat => s.heap.size ≤ q) 0 0 (lw_Z below #[Value.ref b] s) 0 [(0, .ref b)] [] [] := by
    refine z_new (ci := 0) (fs := [.null, .null, .int (bI (false)), .int (bI (false)), .int (bI (false)), .int (0), .int (0)]) C0 i_S rfl t_S_ok cl_W_7 in_S ii_S (fun j hj => match j, hj with | 0, _ => rfl | 1, _ => rfl | 2, _ => rfl | 3, _ => rfl | 4, _ => rfl | 5, _ => rfl | 6, _ => rfl | _ + 7, h => absurd h (by omega)) (Nat.le_of_ble_eq_true rfl) (Nat.le_of_ble_eq_true rfl) d_law_0 (fun q1 => ?_)
    refine z_widen (k := 1) (n := 7) (Nat.le_of_ble_eq_true rfl) (Nat.le_of_ble_eq_true rfl) ?_
    refine z_ws (wsn := [(q1, .inr (0, [.null, .null, .int (bI (false)), .int (bI (false)), .int (bI (false)), .int (0), .int (0)]))]) rfl ?_
    refine z_dup C0 d_law_3 rfl ?_
    refine z_aload_n C0 d_law_4 rfl 0 rfl ?_
    refine z_iconst (v := nI 0) C0 d_law_5 (by decide) ?_
    refine z_xcall (As := [.ref b, .int (nI 0)]) (rest := [.ref (q1), .ref (q1)]) C0 hX hbl hbA (c_W_cell l D cI cZ b L xs 0 (by decide) hL) mt_W_cell ml_W_9 vt_W_cell ⟨Nat.le_of_ble_eq_true rfl, Nat.le_of_ble_eq_true rfl⟩ ⟨rfl, rfl⟩ ⟨Nat.le_of_ble_eq_true rfl, Nat.le_of_ble_eq_true rfl⟩ rfl rfl (Nat.le_of_ble_eq_true rfl) d_law_6 ?_
    refine z_st (stn := [.int (v0), .ref (q1), .ref (q1)]) (by rw [h0]; rfl) ?_
    refine z_aload_n C0 d_law_9 rfl 0 rfl ?_
    refine z_iconst (v := nI 1) C0 d_law_10 (by decide) ?_
    refine z_xcall (As := [.ref b, .int (nI 1)]) (rest := [.int (v0), .ref (q1), .ref (q1)]) C0 hX hbl hbA (c_W_cell l D cI cZ b L xs 1 (by decide) hL) mt_W_cell ml_W_9 vt_W_cell ⟨Nat.le_of_ble_eq_true rfl, Nat.le_of_ble_eq_true rfl⟩ ⟨rfl, rfl⟩ ⟨Nat.le_of_ble_eq_true rfl, Nat.le_of_ble_eq_true rfl⟩ rfl rfl (Nat.le_of_ble_eq_true rfl) d_law_11 ?_
    refine z_st (stn := [.int (v1), .int (v0), .ref (q1), .ref (q1)]) (by rw [h1]; rfl) ?_
    refine z_callI (As := [.int (v0), .int (v1)]) (rest := [.ref (q1)]) (wr := []) C0 (c_S_ini l D cI cZ q1 v0 v1 bc bp hbc hbp2 hB0) mt_S_ini ml_W_15 vt_S_ini ⟨Nat.le_of_ble_eq_true rfl, Nat.le_of_ble_eq_true rfl⟩ ⟨Nat.le_of_ble_eq_true rfl, Nat.le_of_ble_eq_true rfl⟩ rfl [0] [] rfl (by decide) rfl (by decide) (by decide) rfl (Nat.le_of_ble_eq_true rfl) d_law_14 ?_
    rintro ov w ⟨rfl, x2, rfl, rfl⟩
    refine z_widen (k := 13) (n := 939) (Nat.le_of_ble_eq_true rfl) (Nat.le_of_ble_eq_true rfl) ?_
    refine z_st (stn := [.ref (x2 0)]) rfl ?_
    refine z_lvs (lvn := [(0, .ref (b))]) rfl ?_
    refine z_ws (wsn := [(x2 0, .inr (0, [.ref (x2 1), .ref (x2 7), .int (bI (ss_r (ss_init bc bp zs_0))), .int (bI (ss_f (ss_init bc bp zs_0))), .int (bI (ss_a (ss_init bc bp zs_0))), .int (ss_n (ss_init bc bp zs_0)), .int (ss_d (ss_init bc bp zs_0))])), (x2 1, .inr (1, [.int (nI (bc * bp)), .ref (x2 6), .ref (x2 2), .ref (x2 3)])), (x2 6, .inl (cI, bc * bp * 6, .inl (zf_c (ss_F (ss_init bc bp zs_0))))), (x2 2, .inl (cI, 6, .inl (zf_e (ss_F (ss_init bc bp zs_0))))), (x2 3, .inr (2, [.ref (x2 4), .ref (x2 5)])), (x2 4, .inl (cI, 178, .inl (zk_R))), (x2 5, .inl (cI, 512, .inl (zk_B))), (x2 7, .inr (3, [.int (nI (bc)), .int (nI (bp)), .ref (x2 8), .ref (x2 9), .ref (x2 10), .ref (x2 11), .int (oN (zl_h (ss_L (ss_init bc bp zs_0)))), .int (zl_x (ss_L (ss_init bc bp zs_0))), .int (nI (bc * bp)), .ref (x2 12)])), (x2 8, .inl (cI, bc * bp, .inl (zl_s (ss_L (ss_init bc bp zs_0))))), (x2 9, .inl (cI, bc * bp, .inl (zl_k (ss_L (ss_init bc bp zs_0))))), (x2 10, .inl (cI, bc * bp, .inl (zl_d (ss_L (ss_init bc bp zs_0))))), (x2 11, .inl (cZ, bc * bp, .inl (bF (zl_m (ss_L (ss_init bc bp zs_0)))))), (x2 12, .inl (cZ, bc * bp, .inl (bF (zl_w (ss_L (ss_init bc bp zs_0))))))]) rfl ?_
    refine z_astore_n (lvn := [(0, .ref (b)), (1, .ref (x2 0))]) C0 d_law_17 rfl (by decide) [1, 0] rfl ?_
    refine z_new (ci := 4) (fs := [.int (nI (0)), .int (nI (0)), .int (nI (0)), .null, .null, .null, .null, .null, .null, .null, .int (bI (false)), .int (bI (false)), .int (oN (some 0)), .int (0), .int (0), .int (0), .int (nI (0)), .null]) C0 i_M rfl t_M_ok cl_W_18 in_M ii_M (fun j hj => match j, hj with | 0, _ => rfl | 1, _ => rfl | 2, _ => rfl | 3, _ => rfl | 4, _ => rfl | 5, _ => rfl | 6, _ => rfl | 7, _ => rfl | 8, _ => rfl | 9, _ => rfl | 10, _ => rfl | 11, _ => rfl | 12, _ => rfl | 13, _ => rfl | 14, _ => rfl | 15, _ => rfl | 16, _ => rfl | 17, _ => rfl | _ + 18, h => absurd h (by omega)) (Nat.le_of_ble_eq_true rfl) (Nat.le_of_ble_eq_true rfl) d_law_18 (fun q3 => ?_)
    refine z_widen (k := 14) (n := 957) (Nat.le_of_ble_eq_true rfl) (Nat.le_of_ble_eq_true rfl) ?_
    refine z_ws (wsn := [(x2 0, .inr (0, [.ref (x2 1), .ref (x2 7), .int (bI (ss_r (ss_init bc bp zs_0))), .int (bI (ss_f (ss_init bc bp zs_0))), .int (bI (ss_a (ss_init bc bp zs_0))), .int (ss_n (ss_init bc bp zs_0)), .int (ss_d (ss_init bc bp zs_0))])), (x2 1, .inr (1, [.int (nI (bc * bp)), .ref (x2 6), .ref (x2 2), .ref (x2 3)])), (x2 6, .inl (cI, bc * bp * 6, .inl (zf_c (ss_F (ss_init bc bp zs_0))))), (x2 2, .inl (cI, 6, .inl (zf_e (ss_F (ss_init bc bp zs_0))))), (x2 3, .inr (2, [.ref (x2 4), .ref (x2 5)])), (x2 4, .inl (cI, 178, .inl (zk_R))), (x2 5, .inl (cI, 512, .inl (zk_B))), (x2 7, .inr (3, [.int (nI (bc)), .int (nI (bp)), .ref (x2 8), .ref (x2 9), .ref (x2 10), .ref (x2 11), .int (oN (zl_h (ss_L (ss_init bc bp zs_0)))), .int (zl_x (ss_L (ss_init bc bp zs_0))), .int (nI (bc * bp)), .ref (x2 12)])), (x2 8, .inl (cI, bc * bp, .inl (zl_s (ss_L (ss_init bc bp zs_0))))), (x2 9, .inl (cI, bc * bp, .inl (zl_k (ss_L (ss_init bc bp zs_0))))), (x2 10, .inl (cI, bc * bp, .inl (zl_d (ss_L (ss_init bc bp zs_0))))), (x2 11, .inl (cZ, bc * bp, .inl (bF (zl_m (ss_L (ss_init bc bp zs_0)))))), (x2 12, .inl (cZ, bc * bp, .inl (bF (zl_w (ss_L (ss_init bc bp zs_0)))))), (q3, .inr (4, [.int (nI (0)), .int (nI (0)), .int (nI (0)), .null, .null, .null, .null, .null, .null, .null, .int (bI (false)), .int (bI (false)), .int (oN (some 0)), .int (0), .int (0), .int (0), .int (nI (0)), .null]))]) rfl ?_
    refine z_dup C0 d_law_21 rfl ?_
    refine z_aload_n C0 d_law_22 rfl 0 rfl ?_
    refine z_iconst (v := nI 0) C0 d_law_23 (by decide) ?_
    refine z_xcall (As := [.ref b, .int (nI 0)]) (rest := [.ref (q3), .ref (q3)]) C0 hX hbl hbA (c_W_cell l D cI cZ b L xs 0 (by decide) hL) mt_W_cell ml_W_9 vt_W_cell ⟨Nat.le_of_ble_eq_true rfl, Nat.le_of_ble_eq_true rfl⟩ ⟨rfl, rfl⟩ ⟨Nat.le_of_ble_eq_true rfl, Nat.le_of_ble_eq_true rfl⟩ rfl rfl (Nat.le_of_ble_eq_true rfl) d_law_24 ?_
    refine z_st (stn := [.int (v0), .ref (q3), .ref (q3)]) (by rw [h0]; rfl) ?_
    refine z_aload_n C0 d_law_27 rfl 0 rfl ?_
    refine z_iconst (v := nI 1) C0 d_law_28 (by decide) ?_
    refine z_xcall (As := [.ref b, .int (nI 1)]) (rest := [.int (v0), .ref (q3), .ref (q3)]) C0 hX hbl hbA (c_W_cell l D cI cZ b L xs 1 (by decide) hL) mt_W_cell ml_W_9 vt_W_cell ⟨Nat.le_of_ble_eq_true rfl, Nat.le_of_ble_eq_true rfl⟩ ⟨rfl, rfl⟩ ⟨Nat.le_of_ble_eq_true rfl, Nat.le_of_ble_eq_true rfl⟩ rfl rfl (Nat.le_of_ble_eq_true rfl) d_law_29 ?_
    refine z_st (stn := [.int (v1), .int (v0), .ref (q3), .ref (q3)]) (by rw [h1]; rfl) ?_
    refine z_callI (As := [.int (v0), .int (v1)]) (rest := [.ref (q3)]) (wr := [(x2 0, .inr (0, [.ref (x2 1), .ref (x2 7), .int (bI (ss_r (ss_init bc bp zs_0))), .int (bI (ss_f (ss_init bc bp zs_0))), .int (bI (ss_a (ss_init bc bp zs_0))), .int (ss_n (ss_init bc bp zs_0)), .int (ss_d (ss_init bc bp zs_0))])), (x2 1, .inr (1, [.int (nI (bc * bp)), .ref (x2 6), .ref (x2 2), .ref (x2 3)])), (x2 6, .inl (cI, bc * bp * 6, .inl (zf_c (ss_F (ss_init bc bp zs_0))))), (x2 2, .inl (cI, 6, .inl (zf_e (ss_F (ss_init bc bp zs_0))))), (x2 3, .inr (2, [.ref (x2 4), .ref (x2 5)])), (x2 4, .inl (cI, 178, .inl (zk_R))), (x2 5, .inl (cI, 512, .inl (zk_B))), (x2 7, .inr (3, [.int (nI (bc)), .int (nI (bp)), .ref (x2 8), .ref (x2 9), .ref (x2 10), .ref (x2 11), .int (oN (zl_h (ss_L (ss_init bc bp zs_0)))), .int (zl_x (ss_L (ss_init bc bp zs_0))), .int (nI (bc * bp)), .ref (x2 12)])), (x2 8, .inl (cI, bc * bp, .inl (zl_s (ss_L (ss_init bc bp zs_0))))), (x2 9, .inl (cI, bc * bp, .inl (zl_k (ss_L (ss_init bc bp zs_0))))), (x2 10, .inl (cI, bc * bp, .inl (zl_d (ss_L (ss_init bc bp zs_0))))), (x2 11, .inl (cZ, bc * bp, .inl (bF (zl_m (ss_L (ss_init bc bp zs_0)))))), (x2 12, .inl (cZ, bc * bp, .inl (bF (zl_w (ss_L (ss_init bc bp zs_0))))))]) C0 (c_M_ini l D cI cZ q3 v0 v1 bc bp hbc hbp2 hB0) mt_M_ini ml_W_20 vt_M_ini ⟨Nat.le_of_ble_eq_true rfl, Nat.le_of_ble_eq_true rfl⟩ ⟨Nat.le_of_ble_eq_true rfl, Nat.le_of_ble_eq_true rfl⟩ rfl [13] [0, 1, 2, 3, 4, 5, 6, 7, 8, 9, 10, 11, 12] rfl (by decide) rfl (by decide) (by decide) rfl (Nat.le_of_ble_eq_true rfl) d_law_32 ?_
    rintro ov w ⟨rfl, x4, rfl, rfl⟩
    refine z_widen (k := 22) (n := 1361) (Nat.le_of_ble_eq_true rfl) (Nat.le_of_ble_eq_true rfl) ?_
    refine z_st (stn := [.ref (x4 0)]) rfl ?_
    refine z_lvs (lvn := [(0, .ref (b)), (1, .ref (x2 0))]) rfl ?_
    refine z_ws (wsn := [(x2 0, .inr (0, [.ref (x2 1), .ref (x2 7), .int (bI (ss_r (ss_init bc bp zs_0))), .int (bI (ss_f (ss_init bc bp zs_0))), .int (bI (ss_a (ss_init bc bp zs_0))), .int (ss_n (ss_init bc bp zs_0)), .int (ss_d (ss_init bc bp zs_0))])), (x2 1, .inr (1, [.int (nI (bc * bp)), .ref (x2 6), .ref (x2 2), .ref (x2 3)])), (x2 6, .inl (cI, bc * bp * 6, .inl (zf_c (ss_F (ss_init bc bp zs_0))))), (x2 2, .inl (cI, 6, .inl (zf_e (ss_F (ss_init bc bp zs_0))))), (x2 3, .inr (2, [.ref (x2 4), .ref (x2 5)])), (x2 4, .inl (cI, 178, .inl (zk_R))), (x2 5, .inl (cI, 512, .inl (zk_B))), (x2 7, .inr (3, [.int (nI (bc)), .int (nI (bp)), .ref (x2 8), .ref (x2 9), .ref (x2 10), .ref (x2 11), .int (oN (zl_h (ss_L (ss_init bc bp zs_0)))), .int (zl_x (ss_L (ss_init bc bp zs_0))), .int (nI (bc * bp)), .ref (x2 12)])), (x2 8, .inl (cI, bc * bp, .inl (zl_s (ss_L (ss_init bc bp zs_0))))), (x2 9, .inl (cI, bc * bp, .inl (zl_k (ss_L (ss_init bc bp zs_0))))), (x2 10, .inl (cI, bc * bp, .inl (zl_d (ss_L (ss_init bc bp zs_0))))), (x2 11, .inl (cZ, bc * bp, .inl (bF (zl_m (ss_L (ss_init bc bp zs_0)))))), (x2 12, .inl (cZ, bc * bp, .inl (bF (zl_w (ss_L (ss_init bc bp zs_0)))))), (x4 0, .inr (4, [.int (nI (bc)), .int (nI (bp)), .int (nI (bc * bp)), .ref (x4 1), .ref (x4 2), .ref (x4 3), .ref (x4 4), .ref (x4 5), .ref (x4 6), .ref (x4 7), .int (bI (mm_r (sm_begin zm_0))), .int (bI (mm_c (sm_begin zm_0))), .int (oN (mm_h (sm_begin zm_0))), .int (mm_x (sm_begin zm_0)), .int (mm_a (sm_begin zm_0)), .int (mm_n (sm_begin zm_0)), .int (nI (mm_t (sm_begin zm_0))), .ref (x4 8)])), (x4 1, .inl (cI, 120, .inl (mm_f (sm_begin zm_0)))), (x4 2, .inl (cI, 178, .inl (zk_R))), (x4 3, .inl (cZ, 20, .inl (bF (mm_w (sm_begin zm_0))))), (x4 4, .inl (cI, 20, .inl (mm_s (sm_begin zm_0)))), (x4 5, .inl (cI, 20, .inl (mm_k (sm_begin zm_0)))), (x4 6, .inl (cI, 20, .inl (mm_d (sm_begin zm_0)))), (x4 7, .inl (cZ, 20, .inl (bF (mm_q (sm_begin zm_0))))), (x4 8, .inl (cI, 6, .inl (mm_e (sm_begin zm_0))))]) rfl ?_
    refine z_astore_n (lvn := [(0, .ref (b)), (1, .ref (x2 0)), (2, .ref (x4 0))]) C0 d_law_35 rfl (by decide) [1, 2, 0] rfl ?_
    refine z_iconst (v := nI 2) C0 d_law_36 (by decide) ?_
    refine z_istore_n (lvn := [(0, .ref (b)), (1, .ref (x2 0)), (2, .ref (x4 0)), (3, .int (nI (2)))]) C0 d_law_37 rfl (by decide) [1, 2, 3, 0] rfl ?_
    exact law_loop l (x := x2) (y := x4) C0 hX hbl hbA hL hB0 hr hL8 (L + 1) 2 (ss_init bc bp zs_0) (sm_begin zm_0) (by omega) (by omega) (zR_start hN)
  have hl := lv_entry ([.ref b]) (n := 4) (Nat.le_of_ble_eq_true rfl)
  rw [lg_entry_eq]
  exact key s.heap [] _ zx_nilP zx_nilD va_S.rf hl
set_option maxHeartbeats 4000000 in
set_option maxRecDepth 100000 in
theorem whole_start {p : Program} {e : Env} {s : State} {m : MethodId} {below : List Frame} {meth : Method} {c : Code} (l : Launch) {b L : Nat} {xs : Nat → Int32} (hL : L ≤ 1538) (C0 : lw_At p s m meth c b L xs) : W p l e room_1 s m #[Value.ref b] below meth c s.heap [] 0 0 (lw_Z below #[Value.ref b] s) (entryFrame m ([Value.ref b] : List Value).toArray 4) := by
  obtain ⟨hx, hb, hr, hml, hown, hts, hX, hbl, hlocks, hgv⟩ := C0
  have hz : ∀ w ∈ zn_tbl, w.before #[Value.ref b] s = true := fun w hw => hts w (List.mem_filter.mp hw).1
  have hT : zn_T s := zn_T.of hz
  obtain ⟨c0, iS0, hK0⟩ := u_known (C := R_S) (T := F_S) (N := 7) (n := 7) hz i_S (hz _ in_S)
  obtain ⟨c1, iS1, hK1⟩ := u_known (C := R_F) (T := F_F) (N := 4) (n := 4) hz i_F (hz _ in_F)
  obtain ⟨c2, iS2, hK2⟩ := u_known (C := R_C) (T := F_C) (N := 2) (n := 2) hz i_C (hz _ in_C)
  obtain ⟨c3, iS3, hK3⟩ := u_known (C := R_L) (T := F_L) (N := 10) (n := 10) hz i_L (hz _ in_L)
  obtain ⟨c4, iS4, hK4⟩ := u_known (C := R_M) (T := F_M) (N := 18) (n := 18) hz i_M (hz _ in_M)
  obtain ⟨cI, kI, compI, fI1, fI2, fI3⟩ := Cond.arrayClass_spec (hz _ ar_I)
  obtain ⟨cZ, kZ, compZ, fZ1, fZ2, fZ3⟩ := Cond.arrayClass_spec (hz _ ar_Z)
  obtain ⟨dC, dI, hKc⟩ : ∃ (dC : Nat → ClassId) (dI : Nat → Nat → Nat), ∀ (k : Nat) (q : vw_C), classes[k]? = some q → u_Kn s q.1 q.2.1 q.2.2 (dC k) (dI k) := by
    refine ⟨fun k => if k = 0 then c0 else if k = 1 then c1 else if k = 2 then c2 else if k = 3 then c3 else c4, fun k => if k = 0 then iS0 else if k = 1 then iS1 else if k = 2 then iS2 else if k = 3 then iS3 else iS4, ?_⟩
    intro k q hq
    match k, hq with
    | 0, hq => cases hq; exact hK0
    | 1, hq => cases hq; exact hK1
    | 2, hq => cases hq; exact hK2
    | 3, hq => cases hq; exact hK3
    | 4, hq => cases hq; exact hK4
    | k + 5, hq => simp [classes] at hq
  have hK : va_K (dC, dI) classes (zc_tys cI cZ) s := by
    refine ⟨hKc, fun k q hq => ?_⟩
    match k, hq with
    | 0, hq => cases hq; exact ⟨fun n z => ⟨fun k h => (by cases h), kI, fI2, compI, fI3⟩, fI1⟩
    | 1, hq => cases hq; exact ⟨fun n z => ⟨fun k h => (by cases h), kZ, fZ2, compZ, fZ3⟩, fZ1⟩
    | k + 2, hq => simp [zc_tys] at hq
  have C0 : zc_Cx p s m #[Value.ref b] meth c b_law 4 R_W (dC, dI) cI cZ (fun q : Nat => s.heap.size ≤ q) := ⟨hx, hb, hml, hown, hT, hK, fun q h => h, hlocks⟩
  have hbA : ¬ (fun q : Nat => s.heap.size ≤ q) b := Nat.not_le.mpr hbl
  exact whole_pt l C0 hX hbl hbA (by omega) hr
