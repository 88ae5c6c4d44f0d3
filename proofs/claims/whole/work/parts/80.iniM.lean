set_option maxHeartbeats 4000000 in
set_option maxRecDepth 100000 in
theorem c_M_ini (l : Launch) (D : va_G) (cI cZ : ClassId) (q0 : Nat) (av bv : Int32) (bc bp : Nat) (hbc : zcB av = bc) (hbp : zcP bv = bp) (hB : zb_ok bc bp) : zc_Con l y_M_ini b_M_ini 5 none { frames := 2, cells := 8, slots := 404, locals := 43 } D cI cZ [.ref q0, .int (av), .int (bv)] [(q0, .inr (4, [.int (nI (0)), .int (nI (0)), .int (nI (0)), .null, .null, .null, .null, .null, .null, .null, .int (bI (false)), .int (bI (false)), .int (oN (some 0)), .int (0), .int (0), .int (0), .int (nI (0)), .null]))] (fun ov w => ov = none ∧ ∃ y : Nat → Nat, y 0 = q0 ∧ w = zm_W cI cZ y bc bp (sm_begin zm_0)) := by
  refine zc_start (by decide) (Nat.le_of_ble_eq_true rfl) ?_
  intro p e s m args below meth c A Q hA hQ C0 hr hin
  have C0 : zc_Cx p s m args meth c b_M_ini 5 R_M D cI cZ A := C0
  have hB0 := hB
  obtain ⟨hB1, hB2, hB3, hB4⟩ := hB
  have hN : bc * bp ≤ 20 := Nat.mul_le_mul hB2 hB4
  refine z_lvs (lvn := [(0, .ref (q0)), (1, .int (av)), (2, .int (bv))]) rfl ?_
  refine z_aload_n C0 d_M_ini_0 rfl 0 rfl ?_
  refine z_oini C0 oi_M_1 oi_i oi_c ⟨Nat.le_of_ble_eq_true rfl, Nat.le_of_ble_eq_true rfl⟩ (Nat.le_of_ble_eq_true rfl) d_M_ini_1 ?_
  refine z_aload_n C0 d_M_ini_4 rfl 0 rfl ?_
  refine z_bipush (v := nI 120) C0 d_M_ini_5 (by decide) ?_
  refine z_newI (N := 120) C0 (by decide) ar_I (Nat.le_of_ble_eq_true rfl) (Nat.le_of_ble_eq_true rfl) d_M_ini_7 (fun q1 => ?_)
  refine z_widen (k := 1) (n := 120) (Nat.le_of_ble_eq_true rfl) (Nat.le_of_ble_eq_true rfl) ?_
  refine z_ws (wsn := [(q0, .inr (4, [.int (nI (0)), .int (nI (0)), .int (nI (0)), .null, .null, .null, .null, .null, .null, .null, .int (bI (false)), .int (bI (false)), .int (oN (some 0)), .int (0), .int (0), .int (0), .int (nI (0)), .null])), (q1, .inl (cI, 120, .inl ((fun _ => 0))))]) rfl ?_
  refine z_putF C0 gf_M_7 pf_M_3 hin rfl 0 rfl rfl rfl (Nat.le_of_ble_eq_true rfl) d_M_ini_9 ?_
  refine z_aload_n C0 d_M_ini_12 rfl 0 rfl ?_
  refine z_sipush (v := nI 178) C0 d_M_ini_13 (by decide) ?_
  refine z_newI (N := 178) C0 (by decide) ar_I (Nat.le_of_ble_eq_true rfl) (Nat.le_of_ble_eq_true rfl) d_M_ini_16 (fun q2 => ?_)
  refine z_widen (k := 2) (n := 298) (Nat.le_of_ble_eq_true rfl) (Nat.le_of_ble_eq_true rfl) ?_
  refine z_ws (wsn := [(q0, .inr (4, [.int (nI (0)), .int (nI (0)), .int (nI (0)), .ref (q1), .null, .null, .null, .null, .null, .null, .int (bI (false)), .int (bI (false)), .int (oN (some 0)), .int (0), .int (0), .int (0), .int (nI (0)), .null])), (q1, .inl (cI, 120, .inl ((fun _ => 0)))), (q2, .inl (cI, 178, .inl ((fun _ => 0))))]) rfl ?_
  refine z_putF C0 gf_M_13 pf_M_4 hin rfl 0 rfl rfl rfl (Nat.le_of_ble_eq_true rfl) d_M_ini_18 ?_
  refine z_aload_n C0 d_M_ini_21 rfl 0 rfl ?_
  refine z_bipush (v := nI 20) C0 d_M_ini_22 (by decide) ?_
  refine z_newZ (N := 20) C0 (by decide) ar_Z (Nat.le_of_ble_eq_true rfl) (Nat.le_of_ble_eq_true rfl) d_M_ini_24 (fun q3 => ?_)
  refine z_widen (k := 3) (n := 318) (Nat.le_of_ble_eq_true rfl) (Nat.le_of_ble_eq_true rfl) ?_
  refine z_ws (wsn := [(q0, .inr (4, [.int (nI (0)), .int (nI (0)), .int (nI (0)), .ref (q1), .ref (q2), .null, .null, .null, .null, .null, .int (bI (false)), .int (bI (false)), .int (oN (some 0)), .int (0), .int (0), .int (0), .int (nI (0)), .null])), (q1, .inl (cI, 120, .inl ((fun _ => 0)))), (q2, .inl (cI, 178, .inl ((fun _ => 0)))), (q3, .inl (cZ, 20, .inl (bF ((fun _ => false)))))]) rfl ?_
  refine z_putF C0 gf_M_16 pf_M_5 hin rfl 0 rfl rfl rfl (Nat.le_of_ble_eq_true rfl) d_M_ini_26 ?_
  refine z_aload_n C0 d_M_ini_29 rfl 0 rfl ?_
  refine z_bipush (v := nI 20) C0 d_M_ini_30 (by decide) ?_
  refine z_newI (N := 20) C0 (by decide) ar_I (Nat.le_of_ble_eq_true rfl) (Nat.le_of_ble_eq_true rfl) d_M_ini_32 (fun q4 => ?_)
  refine z_widen (k := 4) (n := 338) (Nat.le_of_ble_eq_true rfl) (Nat.le_of_ble_eq_true rfl) ?_
  refine z_ws (wsn := [(q0, .inr (4, [.int (nI (0)), .int (nI (0)), .int (nI (0)), .ref (q1), .ref (q2), .ref (q3), .null, .null, .null, .null, .int (bI (false)), .int (bI (false)), .int (oN (some 0)), .int (0), .int (0), .int (0), .int (nI (0)), .null])), (q1, .inl (cI, 120, .inl ((fun _ => 0)))), (q2, .inl (cI, 178, .inl ((fun _ => 0)))), (q3, .inl (cZ, 20, .inl (bF ((fun _ => false))))), (q4, .inl (cI, 20, .inl ((fun _ => 0))))]) rfl ?_
  refine z_putF C0 gf_M_20 pf_M_6 hin rfl 0 rfl rfl rfl (Nat.le_of_ble_eq_true rfl) d_M_ini_34 ?_
  refine z_aload_n C0 d_M_ini_37 rfl 0 rfl ?_
  refine z_bipush (v := nI 20) C0 d_M_ini_38 (by decide) ?_
  refine z_newI (N := 20) C0 (by decide) ar_I (Nat.le_of_ble_eq_true rfl) (Nat.le_of_ble_eq_true rfl) d_M_ini_40 (fun q5 => ?_)
  refine z_widen (k := 5) (n := 358) (Nat.le_of_ble_eq_true rfl) (Nat.le_of_ble_eq_true rfl) ?_
  refine z_ws (wsn := [(q0, .inr (4, [.int (nI (0)), .int (nI (0)), .int (nI (0)), .ref (q1), .ref (q2), .ref (q3), .ref (q4), .null, .null, .null, .int (bI (false)), .int (bI (false)), .int (oN (some 0)), .int (0), .int (0), .int (0), .int (nI (0)), .null])), (q1, .inl (cI, 120, .inl ((fun _ => 0)))), (q2, .inl (cI, 178, .inl ((fun _ => 0)))), (q3, .inl (cZ, 20, .inl (bF ((fun _ => false))))), (q4, .inl (cI, 20, .inl ((fun _ => 0)))), (q5, .inl (cI, 20, .inl ((fun _ => 0))))]) rfl ?_
  refine z_putF C0 gf_M_23 pf_M_7 hin rfl 0 rfl rfl rfl (Nat.le_of_ble_eq_true rfl) d_M_ini_42 ?_
  refine z_aload_n C0 d_M_ini_45 rfl 0 rfl ?_
  refine z_bipush (v := nI 20) C0 d_M_ini_46 (by decide) ?_
  refine z_newI (N := 20) C0 (by decide) ar_I (Nat.le_of_ble_eq_true rfl) (Nat.le_of_ble_eq_true rfl) d_M_ini_48 (fun q6 => ?_)
  refine z_widen (k := 6) (n := 378) (Nat.le_of_ble_eq_true rfl) (Nat.le_of_ble_eq_true rfl) ?_
  refine z_ws (wsn := [(q0, .inr (4, [.int (nI (0)), .int (nI (0)), .int (nI (0)), .ref (q1), .ref (q2), .ref (q3), .ref (q4), .ref (q5), .null, .null, .int (bI (false)), .int (bI (false)), .int (oN (some 0)), .int (0), .int (0), .int (0), .int (nI (0)), .null])), (q1, .inl (cI, 120, .inl ((fun _ => 0)))), (q2, .inl (cI, 178, .inl ((fun _ => 0)))), (q3, .inl (cZ, 20, .inl (bF ((fun _ => false))))), (q4, .inl (cI, 20, .inl ((fun _ => 0)))), (q5, .inl (cI, 20, .inl ((fun _ => 0)))), (q6, .inl (cI, 20, .inl ((fun _ => 0))))]) rfl ?_
  refine z_putF C0 gf_M_26 pf_M_8 hin rfl 0 rfl rfl rfl (Nat.le_of_ble_eq_true rfl) d_M_ini_50 ?_
  refine z_aload_n C0 d_M_ini_53 rfl 0 rfl ?_
  refine z_bipush (v := nI 20) C0 d_M_ini_54 (by decide) ?_
  refine z_newZ (N := 20) C0 (by decide) ar_Z (Nat.le_of_ble_eq_true rfl) (Nat.le_of_ble_eq_true rfl) d_M_ini_56 (fun q7 => ?_)
  refine z_widen (k := 7) (n := 398) (Nat.le_of_ble_eq_true rfl) (Nat.le_of_ble_eq_true rfl) ?_
  refine z_ws (wsn := [(q0, .inr (4, [.int (nI (0)), .int (nI (0)), .int (nI (0)), .ref (q1), .ref (q2), .ref (q3), .ref (q4), .ref (q5), .ref (q6), .null, .int (bI (false)), .int (bI (false)), .int (oN (some 0)), .int (0), .int (0), .int (0), .int (nI (0)), .null])), (q1, .inl (cI, 120, .inl ((fun _ => 0)))), (q2, .inl (cI, 178, .inl ((fun _ => 0)))), (q3, .inl (cZ, 20, .inl (bF ((fun _ => false))))), (q4, .inl (cI, 20, .inl ((fun _ => 0)))), (q5, .inl (cI, 20, .inl ((fun _ => 0)))), (q6, .inl (cI, 20, .inl ((fun _ => 0)))), (q7, .inl (cZ, 20, .inl (bF ((fun _ => false)))))]) rfl ?_
  refine z_putF C0 gf_M_29 pf_M_9 hin rfl 0 rfl rfl rfl (Nat.le_of_ble_eq_true rfl) d_M_ini_58 ?_
  refine z_aload_n C0 d_M_ini_61 rfl 0 rfl ?_
  refine z_iconst (v := -1) C0 d_M_ini_62 (by decide) ?_
  refine z_topi (x := -1) (xn := oN none) rfl ?_
  refine z_put C0 gf_M_32 pf_M_12 0 rfl rfl rfl (Nat.le_of_ble_eq_true rfl) d_M_ini_63 ?_
  refine z_aload_n C0 d_M_ini_66 rfl 0 rfl ?_
  refine z_iconst (v := nI 1) C0 d_M_ini_67 (by decide) ?_
  refine z_topi (x := nI 1) (xn := 1) (by decide) ?_
  refine z_put C0 gf_M_36 pf_M_13 0 rfl rfl rfl (Nat.le_of_ble_eq_true rfl) d_M_ini_68 ?_
  refine z_aload_n C0 d_M_ini_71 rfl 0 rfl ?_
  refine z_iconst (v := -1) C0 d_M_ini_72 (by decide) ?_
  refine z_put C0 gf_M_39 pf_M_14 0 rfl rfl rfl (Nat.le_of_ble_eq_true rfl) d_M_ini_73 ?_
  refine z_aload_n C0 d_M_ini_76 rfl 0 rfl ?_
  refine z_bipush (v := nI 6) C0 d_M_ini_77 (by decide) ?_
  refine z_newI (N := 6) C0 (by decide) ar_I (Nat.le_of_ble_eq_true rfl) (Nat.le_of_ble_eq_true rfl) d_M_ini_79 (fun q8 => ?_)
  refine z_widen (k := 8) (n := 404) (Nat.le_of_ble_eq_true rfl) (Nat.le_of_ble_eq_true rfl) ?_
  refine z_ws (wsn := [(q0, .inr (4, [.int (nI (0)), .int (nI (0)), .int (nI (0)), .ref (q1), .ref (q2), .ref (q3), .ref (q4), .ref (q5), .ref (q6), .ref (q7), .int (bI (false)), .int (bI (false)), .int (oN (none)), .int (1), .int (-1), .int (0), .int (nI (0)), .null])), (q1, .inl (cI, 120, .inl ((fun _ => 0)))), (q2, .inl (cI, 178, .inl ((fun _ => 0)))), (q3, .inl (cZ, 20, .inl (bF ((fun _ => false))))), (q4, .inl (cI, 20, .inl ((fun _ => 0)))), (q5, .inl (cI, 20, .inl ((fun _ => 0)))), (q6, .inl (cI, 20, .inl ((fun _ => 0)))), (q7, .inl (cZ, 20, .inl (bF ((fun _ => false))))), (q8, .inl (cI, 6, .inl ((fun _ => 0))))]) rfl ?_
  refine z_putF C0 gf_M_42 pf_M_17 hin rfl 0 rfl rfl rfl (Nat.le_of_ble_eq_true rfl) d_M_ini_81 ?_
  have jn104 : (True) → zc_Pt p l e { frames := 2, cells := 8, slots := 404, locals := 43 } s m args below meth c 5 D A 8 404 Q 104 [(0, .ref (q0)), (1, .int (av)), (2, .int (bv))] [.int (nI (bc)), .ref (q0)] ([(q0, .inr (4, [.int (nI (0)), .int (nI (0)), .int (nI (0)), .ref (q1), .ref (q2), .ref (q3), .ref (q4), .ref (q5), .ref (q6), .ref (q7), .int (bI (false)), .int (bI (false)), .int (oN (none)), .int (1), .int (-1), .int (0), .int (nI (0)), .ref (q8)])), (q1, .inl (cI, 120, .inl ((fun _ => 0)))), (q2, .inl (cI, 178, .inl ((fun _ => 0)))), (q3, .inl (cZ, 20, .inl (bF ((fun _ => false))))), (q4, .inl (cI, 20, .inl ((fun _ => 0)))), (q5, .inl (cI, 20, .inl ((fun _ => 0)))), (q6, .inl (cI, 20, .inl ((fun _ => 0)))), (q7, .inl (cZ, 20, .inl (bF ((fun _ => false))))), (q8, .inl (cI, 6, .inl ((fun _ => 0))))]) := by
    intro hj1
    refine z_putF C0 gf_M_45 pf_M_0 hin rfl 0 rfl rfl rfl (Nat.le_of_ble_eq_true rfl) d_M_ini_104 ?_
    have jn127 : (True) → zc_Pt p l e { frames := 2, cells := 8, slots := 404, locals := 43 } s m args below meth c 5 D A 8 404 Q 127 [(0, .ref (q0)), (1, .int (av)), (2, .int (bv))] [.int (nI (bp)), .ref (q0)] ([(q0, .inr (4, [.int (nI (bc)), .int (nI (0)), .int (nI (0)), .ref (q1), .ref (q2), .ref (q3), .ref (q4), .ref (q5), .ref (q6), .ref (q7), .int (bI (false)), .int (bI (false)), .int (oN (none)), .int (1), .int (-1), .int (0), .int (nI (0)), .ref (q8)])), (q1, .inl (cI, 120, .inl ((fun _ => 0)))), (q2, .inl (cI, 178, .inl ((fun _ => 0)))), (q3, .inl (cZ, 20, .inl (bF ((fun _ => false))))), (q4, .inl (cI, 20, .inl ((fun _ => 0)))), (q5, .inl (cI, 20, .inl ((fun _ => 0)))), (q6, .inl (cI, 20, .inl ((fun _ => 0)))), (q7, .inl (cZ, 20, .inl (bF ((fun _ => false))))), (q8, .inl (cI, 6, .inl ((fun _ => 0))))]) := by
      intro hj2
      refine z_putF C0 gf_M_48 pf_M_1 hin rfl 0 rfl rfl rfl (Nat.le_of_ble_eq_true rfl) d_M_ini_127 ?_
      refine z_aload_n C0 d_M_ini_130 rfl 0 rfl ?_
      refine z_aload_n C0 d_M_ini_131 rfl 0 rfl ?_
      refine z_get C0 gf_M_45 0 rfl rfl d_M_ini_132 ?_
      refine z_aload_n C0 d_M_ini_135 rfl 0 rfl ?_
      refine z_get C0 gf_M_48 0 rfl rfl d_M_ini_136 ?_
      refine z_imulN C0 d_M_ini_139 ?_
      refine z_putF C0 gf_M_51 pf_M_2 hin rfl 0 rfl rfl rfl (Nat.le_of_ble_eq_true rfl) d_M_ini_140 ?_
      refine z_iconst (v := nI 0) C0 d_M_ini_143 (by decide) ?_
      refine z_istore_n (lvn := [(0, .ref (q0)), (1, .int (av)), (2, .int (bv)), (3, .int (nI (0)))]) C0 d_M_ini_144 rfl (by decide) [1, 2, 3, 0] rfl ?_
      have la : ∀ (n : Nat) (k : Nat) (f1 : Nat → Int32), (k + n = 18) → (mi_1 18 0 (fun _ => 0) = mi_1 n k f1) → zc_Pt p l e { frames := 2, cells := 8, slots := 404, locals := 43 } s m args below meth c 5 D A 8 404 Q 145 [(0, .ref (q0)), (1, .int (av)), (2, .int (bv)), (3, .int (nI (k)))] [] ([(q0, .inr (4, [.int (nI (bc)), .int (nI (bp)), .int (nI (bc * bp)), .ref (q1), .ref (q2), .ref (q3), .ref (q4), .ref (q5), .ref (q6), .ref (q7), .int (bI (false)), .int (bI (false)), .int (oN (none)), .int (1), .int (-1), .int (0), .int (nI (0)), .ref (q8)])), (q1, .inl (cI, 120, .inl ((fun _ => 0)))), (q2, .inl (cI, 178, .inl (f1))), (q3, .inl (cZ, 20, .inl (bF ((fun _ => false))))), (q4, .inl (cI, 20, .inl ((fun _ => 0)))), (q5, .inl (cI, 20, .inl ((fun _ => 0)))), (q6, .inl (cI, 20, .inl ((fun _ => 0)))), (q7, .inl (cZ, 20, .inl (bF ((fun _ => false))))), (q8, .inl (cI, 6, .inl ((fun _ => 0))))]) := by
        intro n
        induction n with
        | zero =>
          intro k f1 hk hE1
          refine z_iload_n C0 d_M_ini_145 rfl 3 rfl ?_
          refine z_bipush (v := nI 18) C0 d_M_ini_146 (by decide) ?_
          refine z_icmpN_ge (tgt := 170) C0 d_M_ini_148 (by decide) (by omega) (by omega) (fun (c148_9 : 18 ≤ k) => ?_) (fun (c148_9 : k < 18) => ?_)
          · skip
            refine z_ldc (v := 131072) C0 ck_M_54 d_M_ini_170 ?_
            refine z_topi (x := 131072) (xn := nI 131072) (by decide) ?_
            refine z_istore_n (lvn := [(0, .ref (q0)), (1, .int (av)), (2, .int (bv)), (3, .int (nI (131072)))]) C0 d_M_ini_172 rfl (by decide) [1, 2, 3, 0] rfl ?_
            refine z_iconst (v := nI 0) C0 d_M_ini_173 (by decide) ?_
            refine z_istore (lvn := [(0, .ref (q0)), (1, .int (av)), (2, .int (bv)), (3, .int (nI (131072))), (4, .int (nI (0)))]) C0 d_M_ini_174 (by decide) [1, 2, 3, 4, 0] rfl ?_
            have lb : ∀ (n2 : Nat) (i : Nat) (r : Nat) (f2 : Nat → Int32), (i + n2 = 160) → (r = kr (17 + i)) → (mi_2 160 0 f1 = mi_2 n2 i f2) → zc_Pt p l e { frames := 2, cells := 8, slots := 404, locals := 43 } s m args below meth c 5 D A 8 404 Q 176 [(0, .ref (q0)), (1, .int (av)), (2, .int (bv)), (3, .int (nI (r))), (4, .int (nI (i)))] [] ([(q0, .inr (4, [.int (nI (bc)), .int (nI (bp)), .int (nI (bc * bp)), .ref (q1), .ref (q2), .ref (q3), .ref (q4), .ref (q5), .ref (q6), .ref (q7), .int (bI (false)), .int (bI (false)), .int (oN (none)), .int (1), .int (-1), .int (0), .int (nI (0)), .ref (q8)])), (q1, .inl (cI, 120, .inl ((fun _ => 0)))), (q2, .inl (cI, 178, .inl (f2))), (q3, .inl (cZ, 20, .inl (bF ((fun _ => false))))), (q4, .inl (cI, 20, .inl ((fun _ => 0)))), (q5, .inl (cI, 20, .inl ((fun _ => 0)))), (q6, .inl (cI, 20, .inl ((fun _ => 0)))), (q7, .inl (cZ, 20, .inl (bF ((fun _ => false))))), (q8, .inl (cI, 6, .inl ((fun _ => 0))))]) := by
              intro n2
              induction n2 with
              | zero =>
                intro i r f2 hi hr2 hE2
                refine z_iload C0 d_M_ini_176 4 rfl ?_
                refine z_sipush (v := nI 160) C0 d_M_ini_178 (by decide) ?_
                refine z_icmpN_ge (tgt := 217) C0 d_M_ini_181 (by decide) (by omega) (by omega) (fun (c181_10 : 160 ≤ i) => ?_) (fun (c181_10 : i < 160) => ?_)
                · skip
                  refine z_lv [0] rfl ?_
                  have fin : ∀ y : Nat → Nat, y 0 = q0 → zc_Pt p l e { frames := 2, cells := 8, slots := 404, locals := 43 } s m args below meth c 5 D A 8 404 Q 217 [(0, .ref (y 0))] [] (zm_W cI cZ y bc bp zm_0) := by
                    intro y hy
                    refine z_aload_n C0 d_M_ini_217 rfl 0 rfl ?_
                    refine z_allV (As := []) (rest := []) C0 (c_M_begin l D cI cZ y bc bp zm_0 hB0) mt_M_begin ml_M_57 vt_M_begin rfl rfl ⟨Nat.le_of_ble_eq_true rfl, Nat.le_of_ble_eq_true rfl⟩ ⟨rfl, rfl⟩ ⟨Nat.le_of_ble_eq_true rfl, Nat.le_of_ble_eq_true rfl⟩ rfl rfl (Nat.le_of_ble_eq_true rfl) d_M_ini_218 ?_
                    refine z_st (stn := []) rfl ?_
                    exact z_vret C0 hA hQ hr d_M_ini_221 ⟨rfl, y, hy, rfl⟩
                  have hfe : f2 = zk_R := hE2.symm.trans ((congrArg (mi_2 160 0) hE1.symm).trans mi_ok)
                  refine z_ws (wsn := zm_W cI cZ (fun k => if k = 0 then q0 else if k = 1 then q1 else if k = 2 then q2 else if k = 3 then q3 else if k = 4 then q4 else if k = 5 then q5 else if k = 6 then q6 else if k = 7 then q7 else q8) bc bp zm_0) (by rw [hfe]; rfl) ?_
                  exact fin _ rfl
                · exact absurd c181_10 (by omega)
              | succ n2 ih2 =>
                intro i r f2 hi hr2 hE2
                have hrl : r < 262144 := by rw [hr2]; exact kr_lt (by omega)
                refine z_iload C0 d_M_ini_176 4 rfl ?_
                refine z_sipush (v := nI 160) C0 d_M_ini_178 (by decide) ?_
                refine z_icmpN_ge (tgt := 217) C0 d_M_ini_181 (by decide) (by omega) (by omega) (fun (c181_11 : 160 ≤ i) => ?_) (fun (c181_11 : i < 160) => ?_)
                · exact absurd c181_11 (by omega)
                · skip
                  refine z_iload_n C0 d_M_ini_184 rfl 3 rfl ?_
                  refine z_iconst (v := nI 1) C0 d_M_ini_185 (by decide) ?_
                  refine z_ishl C0 d_M_ini_186 ?_
                  refine z_top (vn := .int (nI (2 * r))) (by rw [kx_shl hrl]) ?_
                  refine z_istore_n (lvn := [(0, .ref (q0)), (1, .int (av)), (2, .int (bv)), (3, .int (nI (2 * r))), (4, .int (nI (i)))]) C0 d_M_ini_187 rfl (by decide) [1, 2, 3, 0, 4] rfl ?_
                  have jn202 : ∀ (rv : Nat), (rv = kstep r) → zc_Pt p l e { frames := 2, cells := 8, slots := 404, locals := 43 } s m args below meth c 5 D A 8 404 Q 202 [(0, .ref (q0)), (1, .int (av)), (2, .int (bv)), (3, .int (nI (2 * r))), (4, .int (nI (i)))] [.int (nI (rv))] ([(q0, .inr (4, [.int (nI (bc)), .int (nI (bp)), .int (nI (bc * bp)), .ref (q1), .ref (q2), .ref (q3), .ref (q4), .ref (q5), .ref (q6), .ref (q7), .int (bI (false)), .int (bI (false)), .int (oN (none)), .int (1), .int (-1), .int (0), .int (nI (0)), .ref (q8)])), (q1, .inl (cI, 120, .inl ((fun _ => 0)))), (q2, .inl (cI, 178, .inl (f2))), (q3, .inl (cZ, 20, .inl (bF ((fun _ => false))))), (q4, .inl (cI, 20, .inl ((fun _ => 0)))), (q5, .inl (cI, 20, .inl ((fun _ => 0)))), (q6, .inl (cI, 20, .inl ((fun _ => 0)))), (q7, .inl (cZ, 20, .inl (bF ((fun _ => false))))), (q8, .inl (cI, 6, .inl ((fun _ => 0))))]) := by
                    intro rv hrv
                    refine z_istore_n (lvn := [(0, .ref (q0)), (1, .int (av)), (2, .int (bv)), (3, .int (nI (rv))), (4, .int (nI (i)))]) C0 d_M_ini_202 rfl (by decide) [1, 2, 3, 0, 4] rfl ?_
                    refine z_aload_n C0 d_M_ini_203 rfl 0 rfl ?_
                    refine z_get C0 gf_M_13 0 rfl rfl d_M_ini_204 ?_
                    refine z_iload C0 d_M_ini_207 4 rfl ?_
                    refine z_iload_n C0 d_M_ini_209 rfl 3 rfl ?_
                    refine z_iast C0 2 rfl (by omega) (by decide) d_M_ini_210 ?_
                    refine z_iincN (q := 4) (lvn := [(0, .ref (q0)), (1, .int (av)), (2, .int (bv)), (3, .int (nI (rv))), (4, .int (nI (i + 1)))]) C0 d_M_ini_211 rfl (by decide) [1, 2, 3, 4, 0] rfl ?_
                    refine z_gotoK (tgt := 176) C0 d_M_ini_214 (by decide) ?_
                    refine z_ws (wsn := [(q0, .inr (4, [.int (nI (bc)), .int (nI (bp)), .int (nI (bc * bp)), .ref (q1), .ref (q2), .ref (q3), .ref (q4), .ref (q5), .ref (q6), .ref (q7), .int (bI (false)), .int (bI (false)), .int (oN (none)), .int (1), .int (-1), .int (0), .int (nI (0)), .ref (q8)])), (q1, .inl (cI, 120, .inl ((fun _ => 0)))), (q2, .inl (cI, 178, .inl (upd f2 (i) (nI (rv))))), (q3, .inl (cZ, 20, .inl (bF ((fun _ => false))))), (q4, .inl (cI, 20, .inl ((fun _ => 0)))), (q5, .inl (cI, 20, .inl ((fun _ => 0)))), (q6, .inl (cI, 20, .inl ((fun _ => 0)))), (q7, .inl (cZ, 20, .inl (bF ((fun _ => false))))), (q8, .inl (cI, 6, .inl ((fun _ => 0))))]) rfl ?_
                    exact ih2 (i + 1) (rv) (upd f2 (i) (nI (rv))) (by omega) (by rw [hrv, hr2, show 17 + (i + 1) = (17 + i) + 1 by omega]; rfl) (by rw [hE2]; show mi_2 n2 (i + 1) (upd f2 i (nI (kr (18 + i)))) = _; rw [show kr (18 + i) = rv by rw [hrv, hr2, show 18 + i = (17 + i) + 1 by omega]; rfl])
                  refine z_iload_n C0 d_M_ini_188 rfl 3 rfl ?_
                  refine z_ldc (v := 262144) C0 ck_M_55 d_M_ini_189 ?_
                  refine z_topi (x := 262144) (xn := nI 262144) (by decide) ?_
                  refine z_icmpN_lt (tgt := 201) C0 d_M_ini_191 (by decide) (by omega) (by omega) (fun (c191_12 : 2 * r < 262144) => ?_) (fun (c191_12 : 262144 ≤ 2 * r) => ?_)
                  · skip
                    refine z_iload_n C0 d_M_ini_201 rfl 3 rfl ?_
                    exact jn202 (2 * r) (kstep_lt c191_12)
                  · skip
                    refine z_iload_n C0 d_M_ini_194 rfl 3 rfl ?_
                    refine z_ldc (v := 300489) C0 ck_M_56 d_M_ini_195 ?_
                    refine z_topi (x := 300489) (xn := nI 300489) (by decide) ?_
                    refine z_ixor C0 d_M_ini_197 ?_
                    refine z_top (vn := .int (nI (kstep r))) (by rw [kstep_ge c191_12]) ?_
                    refine z_gotoK (tgt := 202) C0 d_M_ini_198 (by decide) ?_
                    exact jn202 (kstep r) (rfl)
            exact lb (160) (0) (131072) (f1) (by omega) (kr_17.symm) (rfl)
          · exact absurd c148_9 (by omega)
        | succ n ih =>
          intro k f1 hk hE1
          refine z_iload_n C0 d_M_ini_145 rfl 3 rfl ?_
          refine z_bipush (v := nI 18) C0 d_M_ini_146 (by decide) ?_
          refine z_icmpN_ge (tgt := 170) C0 d_M_ini_148 (by decide) (by omega) (by omega) (fun (c148_13 : 18 ≤ k) => ?_) (fun (c148_13 : k < 18) => ?_)
          · exact absurd c148_13 (by omega)
          · skip
            refine z_aload_n C0 d_M_ini_151 rfl 0 rfl ?_
            refine z_get C0 gf_M_13 0 rfl rfl d_M_ini_152 ?_
            refine z_sipush (v := nI 160) C0 d_M_ini_155 (by decide) ?_
            refine z_iload_n C0 d_M_ini_158 rfl 3 rfl ?_
            refine z_iaddN C0 d_M_ini_159 ?_
            refine z_iconst (v := nI 1) C0 d_M_ini_160 (by decide) ?_
            refine z_iload_n C0 d_M_ini_161 rfl 3 rfl ?_
            refine z_ishl C0 d_M_ini_162 ?_
            refine z_top (vn := .int (nI (kt (160 + k)))) (by rw [mi_shl k (by omega)]) ?_
            refine z_iast C0 2 rfl (by omega) (by decide) d_M_ini_163 ?_
            refine z_iincN (q := 3) (lvn := [(0, .ref (q0)), (1, .int (av)), (2, .int (bv)), (3, .int (nI (k + 1)))]) C0 d_M_ini_164 rfl (by decide) [1, 2, 3, 0] rfl ?_
            refine z_gotoK (tgt := 145) C0 d_M_ini_167 (by decide) ?_
            refine z_ws (wsn := [(q0, .inr (4, [.int (nI (bc)), .int (nI (bp)), .int (nI (bc * bp)), .ref (q1), .ref (q2), .ref (q3), .ref (q4), .ref (q5), .ref (q6), .ref (q7), .int (bI (false)), .int (bI (false)), .int (oN (none)), .int (1), .int (-1), .int (0), .int (nI (0)), .ref (q8)])), (q1, .inl (cI, 120, .inl ((fun _ => 0)))), (q2, .inl (cI, 178, .inl (upd f1 (160 + k) (nI (kt (160 + k)))))), (q3, .inl (cZ, 20, .inl (bF ((fun _ => false))))), (q4, .inl (cI, 20, .inl ((fun _ => 0)))), (q5, .inl (cI, 20, .inl ((fun _ => 0)))), (q6, .inl (cI, 20, .inl ((fun _ => 0)))), (q7, .inl (cZ, 20, .inl (bF ((fun _ => false))))), (q8, .inl (cI, 6, .inl ((fun _ => 0))))]) rfl ?_
            exact ih (k + 1) (upd f1 (160 + k) (nI (kt (160 + k)))) (by omega) (by rw [hE1]; rfl)
      refine z_ws (wsn := [(q0, .inr (4, [.int (nI (bc)), .int (nI (bp)), .int (nI (bc * bp)), .ref (q1), .ref (q2), .ref (q3), .ref (q4), .ref (q5), .ref (q6), .ref (q7), .int (bI (false)), .int (bI (false)), .int (oN (none)), .int (1), .int (-1), .int (0), .int (nI (0)), .ref (q8)])), (q1, .inl (cI, 120, .inl ((fun _ => 0)))), (q2, .inl (cI, 178, .inl ((fun _ => 0)))), (q3, .inl (cZ, 20, .inl (bF ((fun _ => false))))), (q4, .inl (cI, 20, .inl ((fun _ => 0)))), (q5, .inl (cI, 20, .inl ((fun _ => 0)))), (q6, .inl (cI, 20, .inl ((fun _ => 0)))), (q7, .inl (cZ, 20, .inl (bF ((fun _ => false))))), (q8, .inl (cI, 6, .inl ((fun _ => 0))))]) rfl ?_
      exact la (18) (0) ((fun _ => 0)) (by omega) (rfl)
    refine z_aload_n C0 d_M_ini_107 rfl 0 rfl ?_
    refine z_iload_n C0 d_M_ini_108 rfl 2 rfl ?_
    refine z_iconst (v := nI 2) C0 d_M_ini_109 (by decide) ?_
    refine z_topi (x := nI 2) (xn := 2) (by decide) ?_
    refine z_icmp_ge (tgt := 117) C0 d_M_ini_110 (by decide) (fun (c110_14 : 2 ≤ bv) => ?_) (fun (c110_14 : ¬ 2 ≤ bv) => ?_)
    · skip
      refine z_iload_n C0 d_M_ini_117 rfl 2 rfl ?_
      refine z_iconst (v := nI 4) C0 d_M_ini_118 (by decide) ?_
      refine z_topi (x := nI 4) (xn := 4) (by decide) ?_
      refine z_icmp_le (tgt := 126) C0 d_M_ini_119 (by decide) (fun (c119_15 : bv ≤ 4) => ?_) (fun (c119_15 : ¬ bv ≤ 4) => ?_)
      · skip
        refine z_iload_n C0 d_M_ini_126 rfl 2 rfl ?_
        refine z_top (vn := .int (nI (bp))) (by rw [← hbp, zcP_in c110_14 c119_15]) ?_
        refine z_ws (wsn := [(q0, .inr (4, [.int (nI (bc)), .int (nI (0)), .int (nI (0)), .ref (q1), .ref (q2), .ref (q3), .ref (q4), .ref (q5), .ref (q6), .ref (q7), .int (bI (false)), .int (bI (false)), .int (oN (none)), .int (1), .int (-1), .int (0), .int (nI (0)), .ref (q8)])), (q1, .inl (cI, 120, .inl ((fun _ => 0)))), (q2, .inl (cI, 178, .inl ((fun _ => 0)))), (q3, .inl (cZ, 20, .inl (bF ((fun _ => false))))), (q4, .inl (cI, 20, .inl ((fun _ => 0)))), (q5, .inl (cI, 20, .inl ((fun _ => 0)))), (q6, .inl (cI, 20, .inl ((fun _ => 0)))), (q7, .inl (cZ, 20, .inl (bF ((fun _ => false))))), (q8, .inl (cI, 6, .inl ((fun _ => 0))))]) rfl ?_
        exact jn127  (trivial)
      · skip
        refine z_iconst (v := nI 4) C0 d_M_ini_122 (by decide) ?_
        refine z_gotoK (tgt := 127) C0 d_M_ini_123 (by decide) ?_
        refine z_top (vn := .int (nI (bp))) (by rw [← hbp, zcP_hi c110_14 c119_15]) ?_
        refine z_ws (wsn := [(q0, .inr (4, [.int (nI (bc)), .int (nI (0)), .int (nI (0)), .ref (q1), .ref (q2), .ref (q3), .ref (q4), .ref (q5), .ref (q6), .ref (q7), .int (bI (false)), .int (bI (false)), .int (oN (none)), .int (1), .int (-1), .int (0), .int (nI (0)), .ref (q8)])), (q1, .inl (cI, 120, .inl ((fun _ => 0)))), (q2, .inl (cI, 178, .inl ((fun _ => 0)))), (q3, .inl (cZ, 20, .inl (bF ((fun _ => false))))), (q4, .inl (cI, 20, .inl ((fun _ => 0)))), (q5, .inl (cI, 20, .inl ((fun _ => 0)))), (q6, .inl (cI, 20, .inl ((fun _ => 0)))), (q7, .inl (cZ, 20, .inl (bF ((fun _ => false))))), (q8, .inl (cI, 6, .inl ((fun _ => 0))))]) rfl ?_
        exact jn127  (trivial)
    · skip
      refine z_iconst (v := nI 2) C0 d_M_ini_113 (by decide) ?_
      refine z_gotoK (tgt := 127) C0 d_M_ini_114 (by decide) ?_
      refine z_top (vn := .int (nI (bp))) (by rw [← hbp, zcP_lo c110_14]) ?_
      refine z_ws (wsn := [(q0, .inr (4, [.int (nI (bc)), .int (nI (0)), .int (nI (0)), .ref (q1), .ref (q2), .ref (q3), .ref (q4), .ref (q5), .ref (q6), .ref (q7), .int (bI (false)), .int (bI (false)), .int (oN (none)), .int (1), .int (-1), .int (0), .int (nI (0)), .ref (q8)])), (q1, .inl (cI, 120, .inl ((fun _ => 0)))), (q2, .inl (cI, 178, .inl ((fun _ => 0)))), (q3, .inl (cZ, 20, .inl (bF ((fun _ => false))))), (q4, .inl (cI, 20, .inl ((fun _ => 0)))), (q5, .inl (cI, 20, .inl ((fun _ => 0)))), (q6, .inl (cI, 20, .inl ((fun _ => 0)))), (q7, .inl (cZ, 20, .inl (bF ((fun _ => false))))), (q8, .inl (cI, 6, .inl ((fun _ => 0))))]) rfl ?_
      exact jn127  (trivial)
  refine z_aload_n C0 d_M_ini_84 rfl 0 rfl ?_
  refine z_iload_n C0 d_M_ini_85 rfl 1 rfl ?_
  refine z_iconst (v := nI 3) C0 d_M_ini_86 (by decide) ?_
  refine z_topi (x := nI 3) (xn := 3) (by decide) ?_
  refine z_icmp_ge (tgt := 94) C0 d_M_ini_87 (by decide) (fun (c87_16 : 3 ≤ av) => ?_) (fun (c87_16 : ¬ 3 ≤ av) => ?_)
  · skip
    refine z_iload_n C0 d_M_ini_94 rfl 1 rfl ?_
    refine z_iconst (v := nI 5) C0 d_M_ini_95 (by decide) ?_
    refine z_topi (x := nI 5) (xn := 5) (by decide) ?_
    refine z_icmp_le (tgt := 103) C0 d_M_ini_96 (by decide) (fun (c96_17 : av ≤ 5) => ?_) (fun (c96_17 : ¬ av ≤ 5) => ?_)
    · skip
      refine z_iload_n C0 d_M_ini_103 rfl 1 rfl ?_
      refine z_top (vn := .int (nI (bc))) (by rw [← hbc, zcB_in c87_16 c96_17]) ?_
      refine z_ws (wsn := [(q0, .inr (4, [.int (nI (0)), .int (nI (0)), .int (nI (0)), .ref (q1), .ref (q2), .ref (q3), .ref (q4), .ref (q5), .ref (q6), .ref (q7), .int (bI (false)), .int (bI (false)), .int (oN (none)), .int (1), .int (-1), .int (0), .int (nI (0)), .ref (q8)])), (q1, .inl (cI, 120, .inl ((fun _ => 0)))), (q2, .inl (cI, 178, .inl ((fun _ => 0)))), (q3, .inl (cZ, 20, .inl (bF ((fun _ => false))))), (q4, .inl (cI, 20, .inl ((fun _ => 0)))), (q5, .inl (cI, 20, .inl ((fun _ => 0)))), (q6, .inl (cI, 20, .inl ((fun _ => 0)))), (q7, .inl (cZ, 20, .inl (bF ((fun _ => false))))), (q8, .inl (cI, 6, .inl ((fun _ => 0))))]) rfl ?_
      exact jn104  (trivial)
    · skip
      refine z_iconst (v := nI 5) C0 d_M_ini_99 (by decide) ?_
      refine z_gotoK (tgt := 104) C0 d_M_ini_100 (by decide) ?_
      refine z_top (vn := .int (nI (bc))) (by rw [← hbc, zcB_hi c87_16 c96_17]) ?_
      refine z_ws (wsn := [(q0, .inr (4, [.int (nI (0)), .int (nI (0)), .int (nI (0)), .ref (q1), .ref (q2), .ref (q3), .ref (q4), .ref (q5), .ref (q6), .ref (q7), .int (bI (false)), .int (bI (false)), .int (oN (none)), .int (1), .int (-1), .int (0), .int (nI (0)), .ref (q8)])), (q1, .inl (cI, 120, .inl ((fun _ => 0)))), (q2, .inl (cI, 178, .inl ((fun _ => 0)))), (q3, .inl (cZ, 20, .inl (bF ((fun _ => false))))), (q4, .inl (cI, 20, .inl ((fun _ => 0)))), (q5, .inl (cI, 20, .inl ((fun _ => 0)))), (q6, .inl (cI, 20, .inl ((fun _ => 0)))), (q7, .inl (cZ, 20, .inl (bF ((fun _ => false))))), (q8, .inl (cI, 6, .inl ((fun _ => 0))))]) rfl ?_
      exact jn104  (trivial)
  · skip
    refine z_iconst (v := nI 3) C0 d_M_ini_90 (by decide) ?_
    refine z_gotoK (tgt := 104) C0 d_M_ini_91 (by decide) ?_
    refine z_top (vn := .int (nI (bc))) (by rw [← hbc, zcB_lo c87_16]) ?_
    refine z_ws (wsn := [(q0, .inr (4, [.int (nI (0)), .int (nI (0)), .int (nI (0)), .ref (q1), .ref (q2), .ref (q3), .ref (q4), .ref (q5), .ref (q6), .ref (q7), .int (bI (false)), .int (bI (false)), .int (oN (none)), .int (1), .int (-1), .int (0), .int (nI (0)), .ref (q8)])), (q1, .inl (cI, 120, .inl ((fun _ => 0)))), (q2, .inl (cI, 178, .inl ((fun _ => 0)))), (q3, .inl (cZ, 20, .inl (bF ((fun _ => false))))), (q4, .inl (cI, 20, .inl ((fun _ => 0)))), (q5, .inl (cI, 20, .inl ((fun _ => 0)))), (q6, .inl (cI, 20, .inl ((fun _ => 0)))), (q7, .inl (cZ, 20, .inl (bF ((fun _ => false))))), (q8, .inl (cI, 6, .inl ((fun _ => 0))))]) rfl ?_
    exact jn104  (trivial)
