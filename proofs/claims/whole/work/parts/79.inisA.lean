set_option maxHeartbeats 4000000 in
set_option maxRecDepth 100000 in
theorem c_C_ini (l : Launch) (D : va_G) (cI cZ : ClassId) (q0 : Nat)  : zc_Con l y_C_ini b_C_ini 4 none { frames := 1, cells := 2, slots := 690, locals := 23 } D cI cZ [.ref q0] [(q0, .inr (2, [.null, .null]))] (fun ov w => ov = none ∧ ∃ x : Nat → Nat, x 3 = q0 ∧ w = zk_C cI x) := by
  refine zc_start (by decide) (Nat.le_of_ble_eq_true rfl) ?_
  intro p e s m args below meth c A Q hA hQ C0 hr hin
  have C0 : zc_Cx p s m args meth c b_C_ini 4 R_C D cI cZ A := C0
  refine z_lvs (lvn := [(0, .ref (q0))]) rfl ?_
  refine z_aload_n C0 d_C_ini_0 rfl 0 rfl ?_
  refine z_oini C0 oi_C_5 oi_i oi_c ⟨Nat.le_of_ble_eq_true rfl, Nat.le_of_ble_eq_true rfl⟩ (Nat.le_of_ble_eq_true rfl) d_C_ini_1 ?_
  refine z_aload_n C0 d_C_ini_4 rfl 0 rfl ?_
  refine z_sipush (v := nI 178) C0 d_C_ini_5 (by decide) ?_
  refine z_newI (N := 178) C0 (by decide) ar_I (Nat.le_of_ble_eq_true rfl) (Nat.le_of_ble_eq_true rfl) d_C_ini_8 (fun q1 => ?_)
  refine z_widen (k := 1) (n := 178) (Nat.le_of_ble_eq_true rfl) (Nat.le_of_ble_eq_true rfl) ?_
  refine z_ws (wsn := [(q0, .inr (2, [.null, .null])), (q1, .inl (cI, 178, .inl ((fun _ => 0))))]) rfl ?_
  refine z_putF C0 gf_C_11 pf_C_0 hin rfl 0 rfl rfl rfl (Nat.le_of_ble_eq_true rfl) d_C_ini_10 ?_
  refine z_aload_n C0 d_C_ini_13 rfl 0 rfl ?_
  refine z_sipush (v := nI 512) C0 d_C_ini_14 (by decide) ?_
  refine z_newI (N := 512) C0 (by decide) ar_I (Nat.le_of_ble_eq_true rfl) (Nat.le_of_ble_eq_true rfl) d_C_ini_17 (fun q2 => ?_)
  refine z_widen (k := 2) (n := 690) (Nat.le_of_ble_eq_true rfl) (Nat.le_of_ble_eq_true rfl) ?_
  refine z_ws (wsn := [(q0, .inr (2, [.ref (q1), .null])), (q1, .inl (cI, 178, .inl ((fun _ => 0)))), (q2, .inl (cI, 512, .inl ((fun _ => 0))))]) rfl ?_
  refine z_putF C0 gf_C_15 pf_C_1 hin rfl 0 rfl rfl rfl (Nat.le_of_ble_eq_true rfl) d_C_ini_19 ?_
  refine z_aload_n C0 d_C_ini_22 rfl 0 rfl ?_
  refine z_get C0 gf_C_15 0 rfl rfl d_C_ini_23 ?_
  refine z_iconst (v := -1) C0 d_C_ini_26 (by decide) ?_
  refine z_ws (wsn := [(q0, .inr (2, [.ref (q1), .ref (q2)])), (q1, .inl (cI, 178, .inl ((fun _ => 0)))), (q2, .inl (cI, 512, .inl ((fun _ => 0))))]) rfl ?_
  refine z_detS (As := [.ref q2, .int (-1)]) (rest := []) (wsn := [(q0, .inr (2, [.ref (q1), .ref (q2)])), (q1, .inl (cI, 178, .inl ((fun _ => 0)))), (q2, .inl (cI, 512, .inl ((sf_fls (-1) 512 0 (fun _ => 0)))))]) C0 (c_JA_fill l D cI cZ q2 512 (fun _ => 0) (-1) (by decide)) mt_JA_fill ml_C_18 vt_JA_fill ⟨Nat.le_of_ble_eq_true rfl, Nat.le_of_ble_eq_true rfl⟩ ⟨rfl, rfl⟩ ⟨Nat.le_of_ble_eq_true rfl, Nat.le_of_ble_eq_true rfl⟩ rfl [2] [0, 1] [0, 1, 2] rfl (by decide) (wr := [(q0, .inr (2, [.ref (q1), .ref (q2)])), (q1, .inl (cI, 178, .inl ((fun _ => 0))))]) rfl (by decide) (by decide) rfl (by decide) rfl (Nat.le_of_ble_eq_true rfl) d_C_ini_27 ?_
  refine z_st (stn := []) rfl ?_
  refine z_iconst (v := nI 1) C0 d_C_ini_30 (by decide) ?_
  refine z_istore_n (lvn := [(0, .ref (q0)), (1, .int (nI (1)))]) C0 d_C_ini_31 rfl (by decide) [1, 0] rfl ?_
  refine z_iconst (v := nI 0) C0 d_C_ini_32 (by decide) ?_
  refine z_istore_n (lvn := [(0, .ref (q0)), (1, .int (nI (1))), (2, .int (nI (0)))]) C0 d_C_ini_33 rfl (by decide) [1, 2, 0] rfl ?_
  have lp34 : ∀ (n : Nat) (i : Nat) (f : Nat → Int32) (g : Nat → Int32), (i + n = 178) → (ci_R 178 0 (fun _ => 0) = ci_R n i f) → (ci_B 178 0 (sf_fls (-1) 512 0 (fun _ => 0)) = ci_B n i g) → zc_Pt p l e { frames := 1, cells := 2, slots := 690, locals := 23 } s m args below meth c 4 D A 2 690 Q 34 [(0, .ref (q0)), (1, .int (nI (kr i))), (2, .int (nI (i)))] [] ([(q0, .inr (2, [.ref (q1), .ref (q2)])), (q1, .inl (cI, 178, .inl (f))), (q2, .inl (cI, 512, .inl (g)))]) := by
    intro n
    induction n with
    | zero =>
      intro i f g hi hf hg
      refine z_iload_n C0 d_C_ini_34 rfl 2 rfl ?_
      refine z_sipush (v := nI 178) C0 d_C_ini_35 (by decide) ?_
      refine z_icmpN_ge (tgt := 88) C0 d_C_ini_38 (by decide) (by omega) (by omega) (fun (c38_3 : 178 ≤ i) => ?_) (fun (c38_3 : i < 178) => ?_)
      · skip
        exact z_vret C0 hA hQ hr d_C_ini_88 (by rw [show f = zk_R from hf.symm.trans ci_R_ok, show g = zk_B from hg.symm.trans (ci_B_ok (fun _ => rfl))]; exact ⟨rfl, fun k => if k = 3 then q0 else if k = 4 then q1 else q2, rfl, rfl⟩)
      · exact absurd c38_3 (by omega)
    | succ n ih =>
      intro i f g hi hf hg
      refine z_iload_n C0 d_C_ini_34 rfl 2 rfl ?_
      refine z_sipush (v := nI 178) C0 d_C_ini_35 (by decide) ?_
      refine z_icmpN_ge (tgt := 88) C0 d_C_ini_38 (by decide) (by omega) (by omega) (fun (c38_4 : 178 ≤ i) => ?_) (fun (c38_4 : i < 178) => ?_)
      · exact absurd c38_4 (by omega)
      · skip
        have jn59 : ∀ (v : Nat), (v = kpos i) → zc_Pt p l e { frames := 1, cells := 2, slots := 690, locals := 23 } s m args below meth c 4 D A 2 690 Q 59 [(0, .ref (q0)), (1, .int (nI (kr i))), (2, .int (nI (i)))] [.int (nI (v))] ([(q0, .inr (2, [.ref (q1), .ref (q2)])), (q1, .inl (cI, 178, .inl (f))), (q2, .inl (cI, 512, .inl (g)))]) := by
          intro v hv
          refine z_istore_n (lvn := [(0, .ref (q0)), (1, .int (nI (kr i))), (2, .int (nI (i))), (3, .int (nI (v)))]) C0 d_C_ini_59 rfl (by decide) [1, 2, 3, 0] rfl ?_
          refine z_aload_n C0 d_C_ini_60 rfl 0 rfl ?_
          refine z_get C0 gf_C_11 0 rfl rfl d_C_ini_61 ?_
          refine z_iload_n C0 d_C_ini_64 rfl 3 rfl ?_
          refine z_iload_n C0 d_C_ini_65 rfl 1 rfl ?_
          refine z_iast C0 1 rfl (by have := kpos_lt (show i < 178 by omega); omega) (by decide) d_C_ini_66 ?_
          refine z_aload_n C0 d_C_ini_67 rfl 0 rfl ?_
          refine z_get C0 gf_C_15 0 rfl rfl d_C_ini_68 ?_
          refine z_iload_n C0 d_C_ini_71 rfl 1 rfl ?_
          refine z_ws (wsn := [(q0, .inr (2, [.ref (q1), .ref (q2)])), (q1, .inl (cI, 178, .inl (upd f (v) (nI (kr i))))), (q2, .inl (cI, 512, .inl (g)))]) rfl ?_
          refine z_nilS (As := [.int (nI (kr i))]) (rest := [.ref (q2)]) C0 (c_C_fold l D cI cZ    (kr i) ) mt_C_fold ml_C_24 vt_C_fold ⟨Nat.le_of_ble_eq_true rfl, Nat.le_of_ble_eq_true rfl⟩ ⟨rfl, rfl⟩ ⟨Nat.le_of_ble_eq_true rfl, Nat.le_of_ble_eq_true rfl⟩ rfl rfl (Nat.le_of_ble_eq_true rfl) d_C_ini_72 ?_
          refine z_st (stn := [.int (nI (kf (kr i))), .ref (q2)]) rfl ?_
          refine z_iload_n C0 d_C_ini_75 rfl 3 rfl ?_
          refine z_iast C0 2 rfl (kf_lt _) (by decide) d_C_ini_76 ?_
          refine z_iload_n C0 d_C_ini_77 rfl 1 rfl ?_
          refine z_ws (wsn := [(q0, .inr (2, [.ref (q1), .ref (q2)])), (q1, .inl (cI, 178, .inl (upd f (v) (nI (kr i))))), (q2, .inl (cI, 512, .inl (upd g (kf (kr i)) (nI (v)))))]) rfl ?_
          refine z_nilS (As := [.int (nI (kr i))]) (rest := []) C0 (c_C_timesX l D cI cZ    (kr i) (kr_lt (by omega))) mt_C_timesX ml_C_28 vt_C_timesX ⟨Nat.le_of_ble_eq_true rfl, Nat.le_of_ble_eq_true rfl⟩ ⟨rfl, rfl⟩ ⟨Nat.le_of_ble_eq_true rfl, Nat.le_of_ble_eq_true rfl⟩ rfl rfl (Nat.le_of_ble_eq_true rfl) d_C_ini_78 ?_
          refine z_st (stn := [.int (nI (kstep (kr i)))]) rfl ?_
          refine z_istore_n (lvn := [(0, .ref (q0)), (1, .int (nI (kstep (kr i)))), (2, .int (nI (i))), (3, .int (nI (v)))]) C0 d_C_ini_81 rfl (by decide) [1, 0, 2, 3] rfl ?_
          refine z_iincN (q := 2) (lvn := [(0, .ref (q0)), (1, .int (nI (kstep (kr i)))), (2, .int (nI (i + 1))), (3, .int (nI (v)))]) C0 d_C_ini_82 rfl (by decide) [1, 2, 0, 3] rfl ?_
          refine z_gotoK (tgt := 34) C0 d_C_ini_85 (by decide) ?_
          refine z_lv [0, 1, 2] rfl ?_
          exact ih (i + 1) (upd f (v) (nI (kr i))) (upd g (kf (kr i)) (nI (v))) (by omega) (by rw [hf]; show ci_R n (i + 1) (upd f (kpos i) (nI (kr i))) = _; rw [← hv]) (by rw [hg]; show ci_B n (i + 1) (upd g (kf (kr i)) (nI (kpos i))) = _; rw [← hv])
        refine z_iload_n C0 d_C_ini_41 rfl 2 rfl ?_
        refine z_bipush (v := nI 18) C0 d_C_ini_42 (by decide) ?_
        refine z_icmpN_ge (tgt := 55) C0 d_C_ini_44 (by decide) (by omega) (by omega) (fun (c44_5 : 18 ≤ i) => ?_) (fun (c44_5 : i < 18) => ?_)
        · skip
          refine z_iload_n C0 d_C_ini_55 rfl 2 rfl ?_
          refine z_bipush (v := nI 18) C0 d_C_ini_56 (by decide) ?_
          refine z_isubN C0 d_C_ini_58 (by omega) ?_
          exact jn59 (i - 18) (by unfold kpos; rw [if_neg (by omega)])
        · skip
          refine z_sipush (v := nI 160) C0 d_C_ini_47 (by decide) ?_
          refine z_iload_n C0 d_C_ini_50 rfl 2 rfl ?_
          refine z_iaddN C0 d_C_ini_51 ?_
          refine z_gotoK (tgt := 59) C0 d_C_ini_52 (by decide) ?_
          exact jn59 (160 + i) (by unfold kpos; rw [if_pos c44_5])
  exact lp34 (178) (0) ((fun _ => 0)) ((sf_fls (-1) 512 0 (fun _ => 0))) (by omega) (rfl) (rfl)
set_option maxHeartbeats 4000000 in
set_option maxRecDepth 100000 in
theorem c_F_ini (l : Launch) (D : va_G) (cI cZ : ClassId) (q0 : Nat) (bc bp : Nat) (hB : zb_ok bc bp) : zc_Con l y_F_ini b_F_ini 2 none { frames := 2, cells := 5, slots := 818, locals := 46 } D cI cZ [.ref q0, .int (nI (bc * bp))] [(q0, .inr (1, [.int (nI (0)), .null, .null, .null]))] (fun ov w => ov = none ∧ ∃ x : Nat → Nat, x 1 = q0 ∧ w = zf_W cI x bc bp (fun _ => 0, fun _ => 0)) := by
  refine zc_start (by decide) (Nat.le_of_ble_eq_true rfl) ?_
  intro p e s m args below meth c A Q hA hQ C0 hr hin
  have C0 : zc_Cx p s m args meth c b_F_ini 2 R_F D cI cZ A := C0
  have hB0 := hB
  obtain ⟨hB1, hB2, hB3, hB4⟩ := hB
  have hN : bc * bp ≤ 20 := Nat.mul_le_mul hB2 hB4
  refine z_lvs (lvn := [(0, .ref (q0)), (1, .int (nI (bc * bp)))]) rfl ?_
  refine z_aload_n C0 d_F_ini_0 rfl 0 rfl ?_
  refine z_oini C0 oi_F_3 oi_i oi_c ⟨Nat.le_of_ble_eq_true rfl, Nat.le_of_ble_eq_true rfl⟩ (Nat.le_of_ble_eq_true rfl) d_F_ini_1 ?_
  refine z_aload_n C0 d_F_ini_4 rfl 0 rfl ?_
  refine z_bipush (v := nI 6) C0 d_F_ini_5 (by decide) ?_
  refine z_newI (N := 6) C0 (by decide) ar_I (Nat.le_of_ble_eq_true rfl) (Nat.le_of_ble_eq_true rfl) d_F_ini_7 (fun q1 => ?_)
  refine z_widen (k := 1) (n := 6) (Nat.le_of_ble_eq_true rfl) (Nat.le_of_ble_eq_true rfl) ?_
  refine z_ws (wsn := [(q0, .inr (1, [.int (nI (0)), .null, .null, .null])), (q1, .inl (cI, 6, .inl ((fun _ => 0))))]) rfl ?_
  refine z_putF C0 gf_F_9 pf_F_2 hin rfl 0 rfl rfl rfl (Nat.le_of_ble_eq_true rfl) d_F_ini_9 ?_
  refine z_aload_n C0 d_F_ini_12 rfl 0 rfl ?_
  refine z_new (ci := 2) (fs := [.null, .null]) C0 i_C rfl t_C_ok cl_F_15 in_C ii_C (fun j hj => match j, hj with | 0, _ => rfl | 1, _ => rfl | _ + 2, h => absurd h (by omega)) (Nat.le_of_ble_eq_true rfl) (Nat.le_of_ble_eq_true rfl) d_F_ini_13 (fun q2 => ?_)
  refine z_widen (k := 2) (n := 8) (Nat.le_of_ble_eq_true rfl) (Nat.le_of_ble_eq_true rfl) ?_
  refine z_ws (wsn := [(q0, .inr (1, [.int (nI (0)), .null, .ref (q1), .null])), (q1, .inl (cI, 6, .inl ((fun _ => 0)))), (q2, .inr (2, [.null, .null]))]) rfl ?_
  refine z_dup C0 d_F_ini_16 rfl ?_
  refine z_callI (As := []) (rest := [.ref (q2), .ref (q0)]) (wr := [(q0, .inr (1, [.int (nI (0)), .null, .ref (q1), .null])), (q1, .inl (cI, 6, .inl ((fun _ => 0))))]) C0 (c_C_ini l D cI cZ q2) mt_C_ini ml_F_17 vt_C_ini ⟨Nat.le_of_ble_eq_true rfl, Nat.le_of_ble_eq_true rfl⟩ ⟨Nat.le_of_ble_eq_true rfl, Nat.le_of_ble_eq_true rfl⟩ rfl [2] [0, 1] rfl (by decide) rfl (by decide) (by decide) rfl (Nat.le_of_ble_eq_true rfl) d_F_ini_17 ?_
  rintro ov w ⟨rfl, x3, rfl, rfl⟩
  refine z_widen (k := 4) (n := 698) (Nat.le_of_ble_eq_true rfl) (Nat.le_of_ble_eq_true rfl) ?_
  refine z_st (stn := [.ref (x3 3), .ref (q0)]) rfl ?_
  refine z_lvs (lvn := [(0, .ref (q0)), (1, .int (nI (bc * bp)))]) rfl ?_
  refine z_ws (wsn := [(q0, .inr (1, [.int (nI (0)), .null, .ref (q1), .null])), (q1, .inl (cI, 6, .inl ((fun _ => 0)))), (x3 3, .inr (2, [.ref (x3 4), .ref (x3 5)])), (x3 4, .inl (cI, 178, .inl (zk_R))), (x3 5, .inl (cI, 512, .inl (zk_B)))]) rfl ?_
  refine z_putF C0 gf_F_18 pf_F_3 hin rfl 0 rfl rfl rfl (Nat.le_of_ble_eq_true rfl) d_F_ini_20 ?_
  refine z_aload_n C0 d_F_ini_23 rfl 0 rfl ?_
  refine z_iload_n C0 d_F_ini_24 rfl 1 rfl ?_
  refine z_putF C0 gf_F_22 pf_F_0 hin rfl 0 rfl rfl rfl (Nat.le_of_ble_eq_true rfl) d_F_ini_25 ?_
  refine z_aload_n C0 d_F_ini_28 rfl 0 rfl ?_
  refine z_iload_n C0 d_F_ini_29 rfl 1 rfl ?_
  refine z_bipush (v := nI 6) C0 d_F_ini_30 (by decide) ?_
  refine z_imulN C0 d_F_ini_32 ?_
  refine z_newI (N := (bc * bp) * 6) C0 (by omega) ar_I (Nat.le_of_ble_eq_true rfl) (by show _ ≤ 818; omega) d_F_ini_33 (fun q4 => ?_)
  refine z_widen (k := 5) (n := 818) (Nat.le_of_ble_eq_true rfl) (by omega) ?_
  refine z_ws (wsn := [(q0, .inr (1, [.int (nI (bc * bp)), .null, .ref (q1), .ref (x3 3)])), (q1, .inl (cI, 6, .inl ((fun _ => 0)))), (x3 3, .inr (2, [.ref (x3 4), .ref (x3 5)])), (x3 4, .inl (cI, 178, .inl (zk_R))), (x3 5, .inl (cI, 512, .inl (zk_B))), (q4, .inl (cI, (bc * bp) * 6, .inl ((fun _ => 0))))]) rfl ?_
  refine z_putF C0 gf_F_26 pf_F_1 hin rfl 0 rfl rfl rfl (Nat.le_of_ble_eq_true rfl) d_F_ini_35 ?_
  refine z_ws (wsn := [(q0, .inr (1, [.int (nI (bc * bp)), .ref (q4), .ref (q1), .ref (x3 3)])), (q1, .inl (cI, 6, .inl ((fun _ => 0)))), (x3 3, .inr (2, [.ref (x3 4), .ref (x3 5)])), (x3 4, .inl (cI, 178, .inl (zk_R))), (x3 5, .inl (cI, 512, .inl (zk_B))), (q4, .inl (cI, (bc * bp) * 6, .inl ((fun _ => 0))))]) rfl ?_
  refine z_perm [0, 5, 1, 2, 3, 4] (ws' := [(q0, .inr (1, [.int (nI (bc * bp)), .ref (q4), .ref (q1), .ref (x3 3)])), (q4, .inl (cI, (bc * bp) * 6, .inl ((fun _ => 0)))), (q1, .inl (cI, 6, .inl ((fun _ => 0)))), (x3 3, .inr (2, [.ref (x3 4), .ref (x3 5)])), (x3 4, .inl (cI, 178, .inl (zk_R))), (x3 5, .inl (cI, 512, .inl (zk_B)))]) rfl (by decide) ?_
  exact z_vret C0 hA hQ hr d_F_ini_38 ⟨rfl, fun k => if k = 1 then q0 else if k = 6 then q4 else if k = 2 then q1 else x3 k, rfl, rfl⟩
set_option maxHeartbeats 4000000 in
set_option maxRecDepth 100000 in
theorem c_L_ini (l : Launch) (D : va_G) (cI cZ : ClassId) (q0 : Nat) (bc bp : Nat) (hB : zb_ok bc bp) : zc_Con l y_L_ini b_L_ini 3 none { frames := 1, cells := 5, slots := 100, locals := 20 } D cI cZ [.ref q0, .int (nI (bc)), .int (nI (bp))] [(q0, .inr (3, [.int (nI (0)), .int (nI (0)), .null, .null, .null, .null, .int (oN (some 0)), .int (0), .int (nI (0)), .null]))] (fun ov w => ov = none ∧ ∃ x : Nat → Nat, x 7 = q0 ∧ w = zl_W cI cZ x bc bp ((fun _ => false), (fun _ => false), (fun _ => 0), (fun _ => 0), (fun _ => 0), some 0, 0)) := by
  refine zc_start (by decide) (Nat.le_of_ble_eq_true rfl) ?_
  intro p e s m args below meth c A Q hA hQ C0 hr hin
  have C0 : zc_Cx p s m args meth c b_L_ini 3 R_L D cI cZ A := C0
  have hB0 := hB
  obtain ⟨hB1, hB2, hB3, hB4⟩ := hB
  have hN : bc * bp ≤ 20 := Nat.mul_le_mul hB2 hB4
  refine z_lvs (lvn := [(0, .ref (q0)), (1, .int (nI (bc))), (2, .int (nI (bp)))]) rfl ?_
  refine z_aload_n C0 d_L_ini_0 rfl 0 rfl ?_
  refine z_oini C0 oi_L_3 oi_i oi_c ⟨Nat.le_of_ble_eq_true rfl, Nat.le_of_ble_eq_true rfl⟩ (Nat.le_of_ble_eq_true rfl) d_L_ini_1 ?_
  refine z_aload_n C0 d_L_ini_4 rfl 0 rfl ?_
  refine z_iload_n C0 d_L_ini_5 rfl 1 rfl ?_
  refine z_putF C0 gf_L_9 pf_L_0 hin rfl 0 rfl rfl rfl (Nat.le_of_ble_eq_true rfl) d_L_ini_6 ?_
  refine z_aload_n C0 d_L_ini_9 rfl 0 rfl ?_
  refine z_iload_n C0 d_L_ini_10 rfl 2 rfl ?_
  refine z_putF C0 gf_L_15 pf_L_1 hin rfl 0 rfl rfl rfl (Nat.le_of_ble_eq_true rfl) d_L_ini_11 ?_
  refine z_aload_n C0 d_L_ini_14 rfl 0 rfl ?_
  refine z_iload_n C0 d_L_ini_15 rfl 1 rfl ?_
  refine z_iload_n C0 d_L_ini_16 rfl 2 rfl ?_
  refine z_imulN C0 d_L_ini_17 ?_
  refine z_putF C0 gf_L_18 pf_L_8 hin rfl 0 rfl rfl rfl (Nat.le_of_ble_eq_true rfl) d_L_ini_18 ?_
  refine z_aload_n C0 d_L_ini_21 rfl 0 rfl ?_
  refine z_aload_n C0 d_L_ini_22 rfl 0 rfl ?_
  refine z_get C0 gf_L_18 0 rfl rfl d_L_ini_23 ?_
  refine z_newI (N := bc * bp) C0 (by omega) ar_I (Nat.le_of_ble_eq_true rfl) (by show _ ≤ 100; omega) d_L_ini_26 (fun q1 => ?_)
  refine z_widen (k := 1) (n := 20) (Nat.le_of_ble_eq_true rfl) (by omega) ?_
  refine z_ws (wsn := [(q0, .inr (3, [.int (nI (bc)), .int (nI (bp)), .null, .null, .null, .null, .int (oN (some 0)), .int (0), .int (nI (bc * bp)), .null])), (q1, .inl (cI, bc * bp, .inl ((fun _ => 0))))]) rfl ?_
  refine z_putF C0 gf_L_21 pf_L_2 hin rfl 0 rfl rfl rfl (Nat.le_of_ble_eq_true rfl) d_L_ini_28 ?_
  refine z_aload_n C0 d_L_ini_31 rfl 0 rfl ?_
  refine z_aload_n C0 d_L_ini_32 rfl 0 rfl ?_
  refine z_get C0 gf_L_18 0 rfl rfl d_L_ini_33 ?_
  refine z_newI (N := bc * bp) C0 (by omega) ar_I (Nat.le_of_ble_eq_true rfl) (by show _ ≤ 100; omega) d_L_ini_36 (fun q2 => ?_)
  refine z_widen (k := 2) (n := 40) (Nat.le_of_ble_eq_true rfl) (by omega) ?_
  refine z_ws (wsn := [(q0, .inr (3, [.int (nI (bc)), .int (nI (bp)), .ref (q1), .null, .null, .null, .int (oN (some 0)), .int (0), .int (nI (bc * bp)), .null])), (q1, .inl (cI, bc * bp, .inl ((fun _ => 0)))), (q2, .inl (cI, bc * bp, .inl ((fun _ => 0))))]) rfl ?_
  refine z_putF C0 gf_L_25 pf_L_3 hin rfl 0 rfl rfl rfl (Nat.le_of_ble_eq_true rfl) d_L_ini_38 ?_
  refine z_aload_n C0 d_L_ini_41 rfl 0 rfl ?_
  refine z_aload_n C0 d_L_ini_42 rfl 0 rfl ?_
  refine z_get C0 gf_L_18 0 rfl rfl d_L_ini_43 ?_
  refine z_newI (N := bc * bp) C0 (by omega) ar_I (Nat.le_of_ble_eq_true rfl) (by show _ ≤ 100; omega) d_L_ini_46 (fun q3 => ?_)
  refine z_widen (k := 3) (n := 60) (Nat.le_of_ble_eq_true rfl) (by omega) ?_
  refine z_ws (wsn := [(q0, .inr (3, [.int (nI (bc)), .int (nI (bp)), .ref (q1), .ref (q2), .null, .null, .int (oN (some 0)), .int (0), .int (nI (bc * bp)), .null])), (q1, .inl (cI, bc * bp, .inl ((fun _ => 0)))), (q2, .inl (cI, bc * bp, .inl ((fun _ => 0)))), (q3, .inl (cI, bc * bp, .inl ((fun _ => 0))))]) rfl ?_
  refine z_putF C0 gf_L_28 pf_L_4 hin rfl 0 rfl rfl rfl (Nat.le_of_ble_eq_true rfl) d_L_ini_48 ?_
  refine z_aload_n C0 d_L_ini_51 rfl 0 rfl ?_
  refine z_aload_n C0 d_L_ini_52 rfl 0 rfl ?_
  refine z_get C0 gf_L_18 0 rfl rfl d_L_ini_53 ?_
  refine z_newZ (N := bc * bp) C0 (by omega) ar_Z (Nat.le_of_ble_eq_true rfl) (by show _ ≤ 100; omega) d_L_ini_56 (fun q4 => ?_)
  refine z_widen (k := 4) (n := 80) (Nat.le_of_ble_eq_true rfl) (by omega) ?_
  refine z_ws (wsn := [(q0, .inr (3, [.int (nI (bc)), .int (nI (bp)), .ref (q1), .ref (q2), .ref (q3), .null, .int (oN (some 0)), .int (0), .int (nI (bc * bp)), .null])), (q1, .inl (cI, bc * bp, .inl ((fun _ => 0)))), (q2, .inl (cI, bc * bp, .inl ((fun _ => 0)))), (q3, .inl (cI, bc * bp, .inl ((fun _ => 0)))), (q4, .inl (cZ, bc * bp, .inl (bF ((fun _ => false)))))]) rfl ?_
  refine z_putF C0 gf_L_31 pf_L_9 hin rfl 0 rfl rfl rfl (Nat.le_of_ble_eq_true rfl) d_L_ini_58 ?_
  refine z_aload_n C0 d_L_ini_61 rfl 0 rfl ?_
  refine z_aload_n C0 d_L_ini_62 rfl 0 rfl ?_
  refine z_get C0 gf_L_18 0 rfl rfl d_L_ini_63 ?_
  refine z_newZ (N := bc * bp) C0 (by omega) ar_Z (Nat.le_of_ble_eq_true rfl) (by show _ ≤ 100; omega) d_L_ini_66 (fun q5 => ?_)
  refine z_widen (k := 5) (n := 100) (Nat.le_of_ble_eq_true rfl) (by omega) ?_
  refine z_ws (wsn := [(q0, .inr (3, [.int (nI (bc)), .int (nI (bp)), .ref (q1), .ref (q2), .ref (q3), .null, .int (oN (some 0)), .int (0), .int (nI (bc * bp)), .ref (q4)])), (q1, .inl (cI, bc * bp, .inl ((fun _ => 0)))), (q2, .inl (cI, bc * bp, .inl ((fun _ => 0)))), (q3, .inl (cI, bc * bp, .inl ((fun _ => 0)))), (q4, .inl (cZ, bc * bp, .inl (bF ((fun _ => false))))), (q5, .inl (cZ, bc * bp, .inl (bF ((fun _ => false)))))]) rfl ?_
  refine z_putF C0 gf_L_35 pf_L_5 hin rfl 0 rfl rfl rfl (Nat.le_of_ble_eq_true rfl) d_L_ini_68 ?_
  refine z_ws (wsn := [(q0, .inr (3, [.int (nI (bc)), .int (nI (bp)), .ref (q1), .ref (q2), .ref (q3), .ref (q5), .int (oN (some 0)), .int (0), .int (nI (bc * bp)), .ref (q4)])), (q1, .inl (cI, bc * bp, .inl ((fun _ => 0)))), (q2, .inl (cI, bc * bp, .inl ((fun _ => 0)))), (q3, .inl (cI, bc * bp, .inl ((fun _ => 0)))), (q4, .inl (cZ, bc * bp, .inl (bF ((fun _ => false))))), (q5, .inl (cZ, bc * bp, .inl (bF ((fun _ => false)))))]) rfl ?_
  refine z_perm [0, 1, 2, 3, 5, 4] (ws' := [(q0, .inr (3, [.int (nI (bc)), .int (nI (bp)), .ref (q1), .ref (q2), .ref (q3), .ref (q5), .int (oN (some 0)), .int (0), .int (nI (bc * bp)), .ref (q4)])), (q1, .inl (cI, bc * bp, .inl ((fun _ => 0)))), (q2, .inl (cI, bc * bp, .inl ((fun _ => 0)))), (q3, .inl (cI, bc * bp, .inl ((fun _ => 0)))), (q5, .inl (cZ, bc * bp, .inl (bF ((fun _ => false))))), (q4, .inl (cZ, bc * bp, .inl (bF ((fun _ => false)))))]) rfl (by decide) ?_
  exact z_vret C0 hA hQ hr d_L_ini_71 ⟨rfl, (fun k => if k = 7 then q0 else if k = 8 then q1 else if k = 9 then q2 else if k = 10 then q3 else if k = 11 then q5 else q4), rfl, rfl⟩
set_option maxHeartbeats 4000000 in
set_option maxRecDepth 100000 in
theorem c_S_ini (l : Launch) (D : va_G) (cI cZ : ClassId) (q0 : Nat) (av bv : Int32) (bc bp : Nat) (hbc : zcB av = bc) (hbp : zcP bv = bp) (hB : zb_ok bc bp) : zc_Con l y_S_ini b_S_ini 5 none { frames := 4, cells := 12, slots := 932, locals := 128 } D cI cZ [.ref q0, .int (av), .int (bv)] [(q0, .inr (0, [.null, .null, .int (bI (false)), .int (bI (false)), .int (bI (false)), .int (0), .int (0)]))] (fun ov w => ov = none ∧ ∃ x : Nat → Nat, x 0 = q0 ∧ w = zs_W cI cZ x bc bp (ss_init bc bp zs_0)) := by
  refine zc_start (by decide) (Nat.le_of_ble_eq_true rfl) ?_
  intro p e s m args below meth c A Q hA hQ C0 hr hin
  have C0 : zc_Cx p s m args meth c b_S_ini 5 R_S D cI cZ A := C0
  have hB0 := hB
  obtain ⟨hB1, hB2, hB3, hB4⟩ := hB
  have hN : bc * bp ≤ 20 := Nat.mul_le_mul hB2 hB4
  refine z_lvs (lvn := [(0, .ref (q0)), (1, .int (av)), (2, .int (bv))]) rfl ?_
  refine z_aload_n C0 d_S_ini_0 rfl 0 rfl ?_
  refine z_oini C0 oi_S_3 oi_i oi_c ⟨Nat.le_of_ble_eq_true rfl, Nat.le_of_ble_eq_true rfl⟩ (Nat.le_of_ble_eq_true rfl) d_S_ini_1 ?_
  refine z_iconst (v := nI 3) C0 d_S_ini_4 (by decide) ?_
  refine z_iconst (v := nI 5) C0 d_S_ini_5 (by decide) ?_
  refine z_iload_n C0 d_S_ini_6 rfl 1 rfl ?_
  refine z_mmin (x := (nI (5))) (y := av) C0 jm_S_9 jm_mins jm_i jm_minc ⟨Nat.le_of_ble_eq_true rfl, Nat.le_of_ble_eq_true rfl⟩ ⟨Nat.le_of_ble_eq_true rfl, Nat.le_of_ble_eq_true rfl⟩ (Nat.le_of_ble_eq_true rfl) d_S_ini_7 ?_
  refine z_mmax (x := (nI (3))) (y := (if av < (nI (5)) then av else (nI (5)))) C0 jm_S_15 jm_maxs jm_i jm_maxc ⟨Nat.le_of_ble_eq_true rfl, Nat.le_of_ble_eq_true rfl⟩ ⟨Nat.le_of_ble_eq_true rfl, Nat.le_of_ble_eq_true rfl⟩ (Nat.le_of_ble_eq_true rfl) d_S_ini_10 ?_
  refine z_top (vn := .int (nI (bc))) (by rw [← hbc, ← zcB_S av]) ?_
  refine z_istore_n (lvn := [(0, .ref (q0)), (1, .int (av)), (2, .int (bv)), (3, .int (nI (bc)))]) C0 d_S_ini_13 rfl (by decide) [1, 2, 3, 0] rfl ?_
  refine z_iconst (v := nI 2) C0 d_S_ini_14 (by decide) ?_
  refine z_iconst (v := nI 4) C0 d_S_ini_15 (by decide) ?_
  refine z_iload_n C0 d_S_ini_16 rfl 2 rfl ?_
  refine z_mmin (x := (nI (4))) (y := bv) C0 jm_S_9 jm_mins jm_i jm_minc ⟨Nat.le_of_ble_eq_true rfl, Nat.le_of_ble_eq_true rfl⟩ ⟨Nat.le_of_ble_eq_true rfl, Nat.le_of_ble_eq_true rfl⟩ (Nat.le_of_ble_eq_true rfl) d_S_ini_17 ?_
  refine z_mmax (x := (nI (2))) (y := (if bv < (nI (4)) then bv else (nI (4)))) C0 jm_S_15 jm_maxs jm_i jm_maxc ⟨Nat.le_of_ble_eq_true rfl, Nat.le_of_ble_eq_true rfl⟩ ⟨Nat.le_of_ble_eq_true rfl, Nat.le_of_ble_eq_true rfl⟩ (Nat.le_of_ble_eq_true rfl) d_S_ini_20 ?_
  refine z_top (vn := .int (nI (bp))) (by rw [← hbp, ← zcP_S bv]) ?_
  refine z_istore (lvn := [(0, .ref (q0)), (1, .int (av)), (2, .int (bv)), (3, .int (nI (bc))), (4, .int (nI (bp)))]) C0 d_S_ini_23 (by decide) [1, 2, 3, 4, 0] rfl ?_
  refine z_aload_n C0 d_S_ini_25 rfl 0 rfl ?_
  refine z_new (ci := 1) (fs := [.int (nI (0)), .null, .null, .null]) C0 i_F rfl t_F_ok cl_S_18 in_F ii_F (fun j hj => match j, hj with | 0, _ => rfl | 1, _ => rfl | 2, _ => rfl | 3, _ => rfl | _ + 4, h => absurd h (by omega)) (Nat.le_of_ble_eq_true rfl) (Nat.le_of_ble_eq_true rfl) d_S_ini_26 (fun q1 => ?_)
  refine z_widen (k := 1) (n := 4) (Nat.le_of_ble_eq_true rfl) (Nat.le_of_ble_eq_true rfl) ?_
  refine z_ws (wsn := [(q0, .inr (0, [.null, .null, .int (bI (false)), .int (bI (false)), .int (bI (false)), .int (0), .int (0)])), (q1, .inr (1, [.int (nI (0)), .null, .null, .null]))]) rfl ?_
  refine z_dup C0 d_S_ini_29 rfl ?_
  refine z_iload_n C0 d_S_ini_30 rfl 3 rfl ?_
  refine z_iload C0 d_S_ini_31 4 rfl ?_
  refine z_imulN C0 d_S_ini_33 ?_
  refine z_callI (As := [.int (nI (bc * bp))]) (rest := [.ref (q1), .ref (q0)]) (wr := [(q0, .inr (0, [.null, .null, .int (bI (false)), .int (bI (false)), .int (bI (false)), .int (0), .int (0)]))]) C0 (c_F_ini l D cI cZ q1 bc bp hB0) mt_F_ini ml_S_20 vt_F_ini ⟨Nat.le_of_ble_eq_true rfl, Nat.le_of_ble_eq_true rfl⟩ ⟨Nat.le_of_ble_eq_true rfl, Nat.le_of_ble_eq_true rfl⟩ rfl [1] [0] rfl (by decide) rfl (by decide) (by decide) rfl (Nat.le_of_ble_eq_true rfl) d_S_ini_34 ?_
  rintro ov w ⟨rfl, x2, rfl, rfl⟩
  refine z_widen (k := 6) (n := 822) (Nat.le_of_ble_eq_true rfl) (Nat.le_of_ble_eq_true rfl) ?_
  refine z_st (stn := [.ref (x2 1), .ref (q0)]) rfl ?_
  refine z_lvs (lvn := [(0, .ref (q0)), (1, .int (av)), (2, .int (bv)), (3, .int (nI (bc))), (4, .int (nI (bp)))]) rfl ?_
  refine z_ws (wsn := [(q0, .inr (0, [.null, .null, .int (bI (false)), .int (bI (false)), .int (bI (false)), .int (0), .int (0)])), (x2 1, .inr (1, [.int (nI (bc * bp)), .ref (x2 6), .ref (x2 2), .ref (x2 3)])), (x2 6, .inl (cI, bc * bp * 6, .inl ((fun _ => 0)))), (x2 2, .inl (cI, 6, .inl ((fun _ => 0)))), (x2 3, .inr (2, [.ref (x2 4), .ref (x2 5)])), (x2 4, .inl (cI, 178, .inl (zk_R))), (x2 5, .inl (cI, 512, .inl (zk_B)))]) rfl ?_
  refine z_putF C0 gf_S_23 pf_S_0 hin rfl 0 rfl rfl rfl (Nat.le_of_ble_eq_true rfl) d_S_ini_37 ?_
  refine z_aload_n C0 d_S_ini_40 rfl 0 rfl ?_
  refine z_new (ci := 3) (fs := [.int (nI (0)), .int (nI (0)), .null, .null, .null, .null, .int (oN (some 0)), .int (0), .int (nI (0)), .null]) C0 i_L rfl t_L_ok cl_S_27 in_L ii_L (fun j hj => match j, hj with | 0, _ => rfl | 1, _ => rfl | 2, _ => rfl | 3, _ => rfl | 4, _ => rfl | 5, _ => rfl | 6, _ => rfl | 7, _ => rfl | 8, _ => rfl | 9, _ => rfl | _ + 10, h => absurd h (by omega)) (Nat.le_of_ble_eq_true rfl) (Nat.le_of_ble_eq_true rfl) d_S_ini_41 (fun q3 => ?_)
  refine z_widen (k := 7) (n := 832) (Nat.le_of_ble_eq_true rfl) (Nat.le_of_ble_eq_true rfl) ?_
  refine z_ws (wsn := [(q0, .inr (0, [.ref (x2 1), .null, .int (bI (false)), .int (bI (false)), .int (bI (false)), .int (0), .int (0)])), (x2 1, .inr (1, [.int (nI (bc * bp)), .ref (x2 6), .ref (x2 2), .ref (x2 3)])), (x2 6, .inl (cI, bc * bp * 6, .inl ((fun _ => 0)))), (x2 2, .inl (cI, 6, .inl ((fun _ => 0)))), (x2 3, .inr (2, [.ref (x2 4), .ref (x2 5)])), (x2 4, .inl (cI, 178, .inl (zk_R))), (x2 5, .inl (cI, 512, .inl (zk_B))), (q3, .inr (3, [.int (nI (0)), .int (nI (0)), .null, .null, .null, .null, .int (oN (some 0)), .int (0), .int (nI (0)), .null]))]) rfl ?_
  refine z_dup C0 d_S_ini_44 rfl ?_
  refine z_iload_n C0 d_S_ini_45 rfl 3 rfl ?_
  refine z_iload C0 d_S_ini_46 4 rfl ?_
  refine z_callI (As := [.int (nI (bc)), .int (nI (bp))]) (rest := [.ref (q3), .ref (q0)]) (wr := [(q0, .inr (0, [.ref (x2 1), .null, .int (bI (false)), .int (bI (false)), .int (bI (false)), .int (0), .int (0)])), (x2 1, .inr (1, [.int (nI (bc * bp)), .ref (x2 6), .ref (x2 2), .ref (x2 3)])), (x2 6, .inl (cI, bc * bp * 6, .inl ((fun _ => 0)))), (x2 2, .inl (cI, 6, .inl ((fun _ => 0)))), (x2 3, .inr (2, [.ref (x2 4), .ref (x2 5)])), (x2 4, .inl (cI, 178, .inl (zk_R))), (x2 5, .inl (cI, 512, .inl (zk_B)))]) C0 (c_L_ini l D cI cZ q3 bc bp hB0) mt_L_ini ml_S_29 vt_L_ini ⟨Nat.le_of_ble_eq_true rfl, Nat.le_of_ble_eq_true rfl⟩ ⟨Nat.le_of_ble_eq_true rfl, Nat.le_of_ble_eq_true rfl⟩ rfl [7] [0, 1, 2, 3, 4, 5, 6] rfl (by decide) rfl (by decide) (by decide) rfl (Nat.le_of_ble_eq_true rfl) d_S_ini_48 ?_
  rintro ov w ⟨rfl, x4, rfl, rfl⟩
  refine z_widen (k := 12) (n := 932) (Nat.le_of_ble_eq_true rfl) (Nat.le_of_ble_eq_true rfl) ?_
  refine z_st (stn := [.ref (x4 7), .ref (q0)]) rfl ?_
  refine z_lvs (lvn := [(0, .ref (q0)), (1, .int (av)), (2, .int (bv)), (3, .int (nI (bc))), (4, .int (nI (bp)))]) rfl ?_
  refine z_ws (wsn := [(q0, .inr (0, [.ref (x2 1), .null, .int (bI (false)), .int (bI (false)), .int (bI (false)), .int (0), .int (0)])), (x2 1, .inr (1, [.int (nI (bc * bp)), .ref (x2 6), .ref (x2 2), .ref (x2 3)])), (x2 6, .inl (cI, bc * bp * 6, .inl ((fun _ => 0)))), (x2 2, .inl (cI, 6, .inl ((fun _ => 0)))), (x2 3, .inr (2, [.ref (x2 4), .ref (x2 5)])), (x2 4, .inl (cI, 178, .inl (zk_R))), (x2 5, .inl (cI, 512, .inl (zk_B))), (x4 7, .inr (3, [.int (nI (bc)), .int (nI (bp)), .ref (x4 8), .ref (x4 9), .ref (x4 10), .ref (x4 11), .int (oN (some 0)), .int (0), .int (nI (bc * bp)), .ref (x4 12)])), (x4 8, .inl (cI, bc * bp, .inl ((fun _ => 0)))), (x4 9, .inl (cI, bc * bp, .inl ((fun _ => 0)))), (x4 10, .inl (cI, bc * bp, .inl ((fun _ => 0)))), (x4 11, .inl (cZ, bc * bp, .inl (bF ((fun _ => false))))), (x4 12, .inl (cZ, bc * bp, .inl (bF ((fun _ => false)))))]) rfl ?_
  refine z_putF C0 gf_S_32 pf_S_1 hin rfl 0 rfl rfl rfl (Nat.le_of_ble_eq_true rfl) d_S_ini_51 ?_
  refine z_ws (wsn := [(q0, .inr (0, [.ref (x2 1), .ref (x4 7), .int (bI (false)), .int (bI (false)), .int (bI (false)), .int (0), .int (0)])), (x2 1, .inr (1, [.int (nI (bc * bp)), .ref (x2 6), .ref (x2 2), .ref (x2 3)])), (x2 6, .inl (cI, bc * bp * 6, .inl ((fun _ => 0)))), (x2 2, .inl (cI, 6, .inl ((fun _ => 0)))), (x2 3, .inr (2, [.ref (x2 4), .ref (x2 5)])), (x2 4, .inl (cI, 178, .inl (zk_R))), (x2 5, .inl (cI, 512, .inl (zk_B))), (x4 7, .inr (3, [.int (nI (bc)), .int (nI (bp)), .ref (x4 8), .ref (x4 9), .ref (x4 10), .ref (x4 11), .int (oN (some 0)), .int (0), .int (nI (bc * bp)), .ref (x4 12)])), (x4 8, .inl (cI, bc * bp, .inl ((fun _ => 0)))), (x4 9, .inl (cI, bc * bp, .inl ((fun _ => 0)))), (x4 10, .inl (cI, bc * bp, .inl ((fun _ => 0)))), (x4 11, .inl (cZ, bc * bp, .inl (bF ((fun _ => false))))), (x4 12, .inl (cZ, bc * bp, .inl (bF ((fun _ => false)))))]) rfl ?_
  refine z_lv [0] rfl ?_
  have fin : ∀ x : Nat → Nat, x 0 = q0 → zc_Pt p l e { frames := 4, cells := 12, slots := 932, locals := 128 } s m args below meth c 5 D A 12 932 Q 54 [(0, .ref (x 0))] [] (zs_W cI cZ x bc bp zs_0) := by
    intro x hx
    refine z_aload_n C0 d_S_ini_54 rfl 0 rfl ?_
    refine z_allV (As := []) (rest := []) C0 (c_S_init l D cI cZ x bc bp zs_0 hB0) mt_S_init ml_S_36 vt_S_init rfl rfl ⟨Nat.le_of_ble_eq_true rfl, Nat.le_of_ble_eq_true rfl⟩ ⟨rfl, rfl⟩ ⟨Nat.le_of_ble_eq_true rfl, Nat.le_of_ble_eq_true rfl⟩ rfl rfl (Nat.le_of_ble_eq_true rfl) d_S_ini_55 ?_
    refine z_st (stn := []) rfl ?_
    exact z_vret C0 hA hQ hr d_S_ini_58 ⟨rfl, x, hx, rfl⟩
  exact fin (fun k => if k = 0 then q0 else if k < 7 then x2 k else x4 k) rfl
