set_option maxHeartbeats 4000000 in
set_option maxRecDepth 100000 in
theorem c_M_read (l : Launch) (D : va_G) (cI cZ : ClassId) (y : Nat → Nat) (bc bp : Nat) (M : zm_S) (hB : zb_ok bc bp) (pg : Nat) (hp : pg < 20) : zc_Con l y_M_read b_M_read 6 none { frames := 2, cells := 0, slots := 0, locals := 44 } D cI cZ [.ref (y 0), .int (nI (pg))] (zm_W cI cZ y bc bp M) (zo none (zm_W cI cZ y bc bp (zmk (mm_f M) (mm_w M) (mm_q M) (mm_s M) (mm_k M) (mm_d M) (mm_h M) (mm_x M) (mm_r M) (mm_c M) (mm_a M) (mm_n M) (sm_rd (mm_f M) (mm_e M) pg).1 (sm_rd (mm_f M) (mm_e M) pg).2))) := by
  refine zc_start (by decide) (Nat.le_of_ble_eq_true rfl) ?_
  intro p e s m args below meth c A Q hA hQ C0 hr hin
  have C0 : zc_Cx p s m args meth c b_M_read 6 R_M D cI cZ A := C0
  have hB0 := hB
  obtain ⟨hB1, hB2, hB3, hB4⟩ := hB
  have hN : bc * bp ≤ 20 := Nat.mul_le_mul hB2 hB4
  refine z_lvs (lvn := [(0, .ref (y 0)), (1, .int (nI (pg)))]) rfl ?_
  refine z_iconst (v := nI 0) C0 d_M_read_0 (by decide) ?_
  refine z_istore_n (lvn := [(0, .ref (y 0)), (1, .int (nI (pg))), (2, .int (nI (0)))]) C0 d_M_read_1 rfl (by decide) [1, 2, 0] rfl ?_
  refine z_iconst (v := nI 0) C0 d_M_read_2 (by decide) ?_
  refine z_istore_n (lvn := [(0, .ref (y 0)), (1, .int (nI (pg))), (2, .int (nI (0))), (3, .int (nI (0)))]) C0 d_M_read_3 rfl (by decide) [1, 2, 3, 0] rfl ?_
  refine z_iconst (v := nI 0) C0 d_M_read_4 (by decide) ?_
  refine z_istore (lvn := [(0, .ref (y 0)), (1, .int (nI (pg))), (2, .int (nI (0))), (3, .int (nI (0))), (4, .int (nI (0)))]) C0 d_M_read_5 (by decide) [1, 2, 3, 4, 0] rfl ?_
  have lp7 : ∀ (n : Nat) (i : Nat) (zz : Nat) (rr : Nat), (i + n = 178) → (zz ≤ i) → (rr < 262144) → (some (sm_zs (mm_f M) pg 178 0 0) = some (sm_zs (mm_f M) pg n i zz)) → (some (sm_rs (mm_f M) pg 178 0 0) = some (sm_rs (mm_f M) pg n i rr)) → zc_Pt p l e { frames := 2, cells := 0, slots := 0, locals := 44 } s m args below meth c 6 D A 0 0 Q 7 [(0, .ref (y 0)), (1, .int (nI (pg))), (2, .int (nI (zz))), (3, .int (nI (rr))), (4, .int (nI (i)))] [] (zm_W cI cZ y bc bp M) := by
    intro n
    induction n with
    | zero =>
      intro i zz rr hi hz1 hr1 hZ hRs
      refine z_iload C0 d_M_read_7 4 rfl ?_
      refine z_sipush (v := nI 178) C0 d_M_read_9 (by decide) ?_
      refine z_icmpN_ge (tgt := 63) C0 d_M_read_12 (by decide) (by omega) (by omega) (fun (c12_1 : 178 ≤ i) => ?_) (fun (c12_1 : i < 178) => ?_)
      · skip
        refine z_iconst (v := nI 0) C0 d_M_read_63 (by decide) ?_
        refine z_istore (lvn := [(0, .ref (y 0)), (1, .int (nI (pg))), (2, .int (nI (zz))), (3, .int (nI (rr))), (4, .int (nI (0)))]) C0 d_M_read_64 (by decide) [1, 2, 3, 4, 0] rfl ?_
        have lk : ∀ (n : Nat) (k : Nat) (ev : Nat → Int32), (k + n = 6) → (sm_cps (mm_f M) pg 6 0 (mm_e M) = sm_cps (mm_f M) pg n k ev) → zc_Pt p l e { frames := 2, cells := 0, slots := 0, locals := 44 } s m args below meth c 6 D A 0 0 Q 66 [(0, .ref (y 0)), (1, .int (nI (pg))), (2, .int (nI (zz))), (3, .int (nI (rr))), (4, .int (nI (k)))] [] (zm_W cI cZ y bc bp (zmk (mm_f M) (mm_w M) (mm_q M) (mm_s M) (mm_k M) (mm_d M) (mm_h M) (mm_x M) (mm_r M) (mm_c M) (mm_a M) (mm_n M) (mm_t M) ev)) := by
          intro n
          induction n with
          | zero =>
            intro k ev hik hC
            refine z_iload C0 d_M_read_66 4 rfl ?_
            refine z_bipush (v := nI 6) C0 d_M_read_68 (by decide) ?_
            refine z_icmpN_ge (tgt := 98) C0 d_M_read_70 (by decide) (by omega) (by omega) (fun (c70_2 : 6 ≤ k) => ?_) (fun (c70_2 : k < 6) => ?_)
            · skip
              refine z_iload_n C0 d_M_read_98 rfl 2 rfl ?_
              refine z_iconst (v := nI 2) C0 d_M_read_99 (by decide) ?_
              refine z_icmpN_gt (tgt := 109) C0 d_M_read_100 (by decide) (by omega) (by omega) (fun (c100_3 : 2 < zz) => ?_) (fun (c100_3 : zz ≤ 2) => ?_)
              · skip
                refine z_iload_n C0 d_M_read_109 rfl 3 rfl ?_
                refine z_ifN_eq (tgt := 121) C0 d_M_read_110 (by decide) (by omega) (fun c110_4 => ?_) (fun c110_4 => ?_)
                · skip
                  refine z_iconst (v := nI 1) C0 d_M_read_121 (by decide) ?_
                  refine z_gotoK (tgt := 126) C0 d_M_read_122 (by decide) ?_
                  refine z_istore (lvn := [(0, .ref (y 0)), (1, .int (nI (pg))), (2, .int (nI (zz))), (3, .int (nI (rr))), (4, .int (nI (1)))]) C0 d_M_read_126 (by decide) [1, 2, 3, 4, 0] rfl ?_
                  refine z_aload_n C0 d_M_read_128 rfl 0 rfl ?_
                  refine z_get C0 gf_M_42 0 rfl rfl d_M_read_129 ?_
                  refine z_iconst (v := nI 0) C0 d_M_read_132 (by decide) ?_
                  refine z_iald C0 8 rfl (by omega) (by omega) d_M_read_133 ?_
                  refine z_aload_n C0 d_M_read_134 rfl 0 rfl ?_
                  refine z_get C0 gf_M_42 0 rfl rfl d_M_read_135 ?_
                  refine z_iconst (v := nI 1) C0 d_M_read_138 (by decide) ?_
                  refine z_iald C0 8 rfl (by omega) (by omega) d_M_read_139 ?_
                  refine z_aload_n C0 d_M_read_140 rfl 0 rfl ?_
                  refine z_get C0 gf_M_42 0 rfl rfl d_M_read_141 ?_
                  refine z_iconst (v := nI 2) C0 d_M_read_144 (by decide) ?_
                  refine z_iald C0 8 rfl (by omega) (by omega) d_M_read_145 ?_
                  refine z_aload_n C0 d_M_read_146 rfl 0 rfl ?_
                  refine z_get C0 gf_M_42 0 rfl rfl d_M_read_147 ?_
                  refine z_iconst (v := nI 3) C0 d_M_read_150 (by decide) ?_
                  refine z_iald C0 8 rfl (by omega) (by omega) d_M_read_151 ?_
                  refine z_nilS (As := [.int (ev (0)), .int (ev (1)), .int (ev (2)), .int (ev (3))]) (rest := []) C0 (c_M_checkOf l D cI cZ    (ev (0)) (ev (1)) (ev (2)) (ev (3)) ) mt_M_checkOf ml_M_86 vt_M_checkOf ⟨Nat.le_of_ble_eq_true rfl, Nat.le_of_ble_eq_true rfl⟩ ⟨rfl, rfl⟩ ⟨Nat.zero_le _, Nat.zero_le _⟩ rfl rfl (Nat.le_of_ble_eq_true rfl) d_M_read_152 ?_
                  refine z_st (stn := [.int (pchk (ev (0)) (ev (1)) (ev (2)) (ev (3)))]) rfl ?_
                  refine z_istore (lvn := [(0, .ref (y 0)), (1, .int (nI (pg))), (2, .int (nI (zz))), (3, .int (nI (rr))), (4, .int (nI (1))), (5, .int (pchk (ev (0)) (ev (1)) (ev (2)) (ev (3))))]) C0 d_M_read_155 (by decide) [1, 2, 3, 4, 5, 0] rfl ?_
                  refine z_iload C0 d_M_read_157 4 rfl ?_
                  refine z_ifN_eq (tgt := 217) C0 d_M_read_159 (by decide) (by omega) (fun c159_5 => ?_) (fun c159_5 => ?_)
                  · exact absurd c159_5 (by decide)
                  · skip
                    refine z_aload_n C0 d_M_read_162 rfl 0 rfl ?_
                    refine z_get C0 gf_M_42 0 rfl rfl d_M_read_163 ?_
                    refine z_iconst (v := nI 4) C0 d_M_read_166 (by decide) ?_
                    refine z_iald C0 8 rfl (by omega) (by omega) d_M_read_167 ?_
                    refine z_iload C0 d_M_read_168 5 rfl ?_
                    refine z_icmp_ne (tgt := 217) C0 d_M_read_170 (by decide) (fun (c170_6 : ¬ (ev (4)) = (pchk (ev (0)) (ev (1)) (ev (2)) (ev (3)))) => ?_) (fun (c170_6 : (ev (4)) = (pchk (ev (0)) (ev (1)) (ev (2)) (ev (3)))) => ?_)
                    · skip
                      refine z_iconst (v := nI 0) C0 d_M_read_217 (by decide) ?_
                      refine z_istore (lvn := [(0, .ref (y 0)), (1, .int (nI (pg))), (2, .int (nI (zz))), (3, .int (nI (rr))), (4, .int (nI (0))), (5, .int (pchk (ev (0)) (ev (1)) (ev (2)) (ev (3))))]) C0 d_M_read_218 (by decide) [1, 2, 3, 4, 0, 5] rfl ?_
                      refine z_aload_n C0 d_M_read_220 rfl 0 rfl ?_
                      refine z_iload C0 d_M_read_221 4 rfl ?_
                      refine z_ifN_ne (tgt := 230) C0 d_M_read_223 (by decide) (by omega) (fun c223_7 => ?_) (fun c223_7 => ?_)
                      · exact absurd c223_7 (by decide)
                      · skip
                        refine z_iconst (v := nI 3) C0 d_M_read_226 (by decide) ?_
                        refine z_gotoK (tgt := 239) C0 d_M_read_227 (by decide) ?_
                        refine z_put C0 gf_M_79 pf_M_16 0 rfl rfl rfl (Nat.le_of_ble_eq_true rfl) d_M_read_239 ?_
                        refine z_ws (wsn := zm_W cI cZ y bc bp (zmk (mm_f M) (mm_w M) (mm_q M) (mm_s M) (mm_k M) (mm_d M) (mm_h M) (mm_x M) (mm_r M) (mm_c M) (mm_a M) (mm_n M) 3 ev)) rfl ?_
                        exact z_vret C0 hA hQ hr d_M_read_242 (by have hC2 : sm_cps (mm_f M) pg 6 0 (mm_e M) = ev := hC; have hZ2 : sm_zs (mm_f M) pg 178 0 0 = zz := Option.some.inj hZ; have hS2 : sm_rs (mm_f M) pg 178 0 0 = rr := Option.some.inj hRs; have hg : sm_good ev rr = (true, ev) := if_pos c110_4; have hrec : sm_rec (ev) = false := (by unfold sm_rec; simp [c170_6]); have e9 : sm_rd (mm_f M) (mm_e M) pg = (3, ev) := (by unfold sm_rd sm_rd1; rw [hC2, hZ2, hS2, if_neg (Nat.not_le.mpr c100_3), hg]; show ((if _ ∧ _ then (if rr = 0 then 1 else 2) else 3), ev) = _; rw [if_neg (fun z => absurd (z.2.symm.trans hrec) (by decide))]); rw [e9]; exact ⟨rfl, rfl⟩)
                    · skip
                      refine z_aload_n C0 d_M_read_173 rfl 0 rfl ?_
                      refine z_get C0 gf_M_42 0 rfl rfl d_M_read_174 ?_
                      refine z_iconst (v := nI 1) C0 d_M_read_177 (by decide) ?_
                      refine z_iald C0 8 rfl (by omega) (by omega) d_M_read_178 ?_
                      refine z_if_lt (tgt := 217) C0 d_M_read_179 (by decide) (fun (c179_8 : ev (1) < 0) => ?_) (fun (c179_8 : ¬ ev (1) < 0) => ?_)
                      · skip
                        refine z_iconst (v := nI 0) C0 d_M_read_217 (by decide) ?_
                        refine z_istore (lvn := [(0, .ref (y 0)), (1, .int (nI (pg))), (2, .int (nI (zz))), (3, .int (nI (rr))), (4, .int (nI (0))), (5, .int (pchk (ev (0)) (ev (1)) (ev (2)) (ev (3))))]) C0 d_M_read_218 (by decide) [1, 2, 3, 4, 0, 5] rfl ?_
                        refine z_aload_n C0 d_M_read_220 rfl 0 rfl ?_
                        refine z_iload C0 d_M_read_221 4 rfl ?_
                        refine z_ifN_ne (tgt := 230) C0 d_M_read_223 (by decide) (by omega) (fun c223_9 => ?_) (fun c223_9 => ?_)
                        · exact absurd c223_9 (by decide)
                        · skip
                          refine z_iconst (v := nI 3) C0 d_M_read_226 (by decide) ?_
                          refine z_gotoK (tgt := 239) C0 d_M_read_227 (by decide) ?_
                          refine z_put C0 gf_M_79 pf_M_16 0 rfl rfl rfl (Nat.le_of_ble_eq_true rfl) d_M_read_239 ?_
                          refine z_ws (wsn := zm_W cI cZ y bc bp (zmk (mm_f M) (mm_w M) (mm_q M) (mm_s M) (mm_k M) (mm_d M) (mm_h M) (mm_x M) (mm_r M) (mm_c M) (mm_a M) (mm_n M) 3 ev)) rfl ?_
                          exact z_vret C0 hA hQ hr d_M_read_242 (by have hC2 : sm_cps (mm_f M) pg 6 0 (mm_e M) = ev := hC; have hZ2 : sm_zs (mm_f M) pg 178 0 0 = zz := Option.some.inj hZ; have hS2 : sm_rs (mm_f M) pg 178 0 0 = rr := Option.some.inj hRs; have hg : sm_good ev rr = (true, ev) := if_pos c110_4; have hrec : sm_rec (ev) = false := (by unfold sm_rec; simp [c170_6, Int32.not_le.mpr c179_8]); have e9 : sm_rd (mm_f M) (mm_e M) pg = (3, ev) := (by unfold sm_rd sm_rd1; rw [hC2, hZ2, hS2, if_neg (Nat.not_le.mpr c100_3), hg]; show ((if _ ∧ _ then (if rr = 0 then 1 else 2) else 3), ev) = _; rw [if_neg (fun z => absurd (z.2.symm.trans hrec) (by decide))]); rw [e9]; exact ⟨rfl, rfl⟩)
                      · skip
                        refine z_aload_n C0 d_M_read_182 rfl 0 rfl ?_
                        refine z_get C0 gf_M_42 0 rfl rfl d_M_read_183 ?_
                        refine z_iconst (v := nI 1) C0 d_M_read_186 (by decide) ?_
                        refine z_iald C0 8 rfl (by omega) (by omega) d_M_read_187 ?_
                        refine z_bipush (v := 15) C0 d_M_read_188 (by decide) ?_
                        refine z_icmp_gt (tgt := 217) C0 d_M_read_190 (by decide) (fun (c190_10 : 15 < (ev (1))) => ?_) (fun (c190_10 : ¬ 15 < (ev (1))) => ?_)
                        · skip
                          refine z_iconst (v := nI 0) C0 d_M_read_217 (by decide) ?_
                          refine z_istore (lvn := [(0, .ref (y 0)), (1, .int (nI (pg))), (2, .int (nI (zz))), (3, .int (nI (rr))), (4, .int (nI (0))), (5, .int (pchk (ev (0)) (ev (1)) (ev (2)) (ev (3))))]) C0 d_M_read_218 (by decide) [1, 2, 3, 4, 0, 5] rfl ?_
                          refine z_aload_n C0 d_M_read_220 rfl 0 rfl ?_
                          refine z_iload C0 d_M_read_221 4 rfl ?_
                          refine z_ifN_ne (tgt := 230) C0 d_M_read_223 (by decide) (by omega) (fun c223_11 => ?_) (fun c223_11 => ?_)
                          · exact absurd c223_11 (by decide)
                          · skip
                            refine z_iconst (v := nI 3) C0 d_M_read_226 (by decide) ?_
                            refine z_gotoK (tgt := 239) C0 d_M_read_227 (by decide) ?_
                            refine z_put C0 gf_M_79 pf_M_16 0 rfl rfl rfl (Nat.le_of_ble_eq_true rfl) d_M_read_239 ?_
                            refine z_ws (wsn := zm_W cI cZ y bc bp (zmk (mm_f M) (mm_w M) (mm_q M) (mm_s M) (mm_k M) (mm_d M) (mm_h M) (mm_x M) (mm_r M) (mm_c M) (mm_a M) (mm_n M) 3 ev)) rfl ?_
                            exact z_vret C0 hA hQ hr d_M_read_242 (by have hC2 : sm_cps (mm_f M) pg 6 0 (mm_e M) = ev := hC; have hZ2 : sm_zs (mm_f M) pg 178 0 0 = zz := Option.some.inj hZ; have hS2 : sm_rs (mm_f M) pg 178 0 0 = rr := Option.some.inj hRs; have hg : sm_good ev rr = (true, ev) := if_pos c110_4; have hrec : sm_rec (ev) = false := (by unfold sm_rec; simp [c170_6, Int32.not_lt.mp c179_8, Int32.not_le.mpr c190_10]); have e9 : sm_rd (mm_f M) (mm_e M) pg = (3, ev) := (by unfold sm_rd sm_rd1; rw [hC2, hZ2, hS2, if_neg (Nat.not_le.mpr c100_3), hg]; show ((if _ ∧ _ then (if rr = 0 then 1 else 2) else 3), ev) = _; rw [if_neg (fun z => absurd (z.2.symm.trans hrec) (by decide))]); rw [e9]; exact ⟨rfl, rfl⟩)
                        · skip
                          refine z_aload_n C0 d_M_read_193 rfl 0 rfl ?_
                          refine z_get C0 gf_M_42 0 rfl rfl d_M_read_194 ?_
                          refine z_iconst (v := nI 3) C0 d_M_read_197 (by decide) ?_
                          refine z_iald C0 8 rfl (by omega) (by omega) d_M_read_198 ?_
                          refine z_iconst (v := nI 1) C0 d_M_read_199 (by decide) ?_
                          refine z_topi (x := nI 1) (xn := 1) (by decide) ?_
                          refine z_icmp_eq (tgt := 213) C0 d_M_read_200 (by decide) (fun (c200_12 : (ev (3)) = 1) => ?_) (fun (c200_12 : ¬ (ev (3)) = 1) => ?_)
                          · skip
                            refine z_iconst (v := nI 1) C0 d_M_read_213 (by decide) ?_
                            refine z_gotoK (tgt := 218) C0 d_M_read_214 (by decide) ?_
                            refine z_istore (lvn := [(0, .ref (y 0)), (1, .int (nI (pg))), (2, .int (nI (zz))), (3, .int (nI (rr))), (4, .int (nI (1))), (5, .int (pchk (ev (0)) (ev (1)) (ev (2)) (ev (3))))]) C0 d_M_read_218 (by decide) [1, 2, 3, 4, 0, 5] rfl ?_
                            refine z_aload_n C0 d_M_read_220 rfl 0 rfl ?_
                            refine z_iload C0 d_M_read_221 4 rfl ?_
                            refine z_ifN_ne (tgt := 230) C0 d_M_read_223 (by decide) (by omega) (fun c223_13 => ?_) (fun c223_13 => ?_)
                            · skip
                              refine z_iload_n C0 d_M_read_230 rfl 3 rfl ?_
                              refine z_ifN_ne (tgt := 238) C0 d_M_read_231 (by decide) (by omega) (fun c231_14 => ?_) (fun c231_14 => ?_)
                              · exact absurd c110_4 (Nat.pos_iff_ne_zero.mp c231_14)
                              · skip
                                refine z_iconst (v := nI 1) C0 d_M_read_234 (by decide) ?_
                                refine z_gotoK (tgt := 239) C0 d_M_read_235 (by decide) ?_
                                refine z_put C0 gf_M_79 pf_M_16 0 rfl rfl rfl (Nat.le_of_ble_eq_true rfl) d_M_read_239 ?_
                                refine z_ws (wsn := zm_W cI cZ y bc bp (zmk (mm_f M) (mm_w M) (mm_q M) (mm_s M) (mm_k M) (mm_d M) (mm_h M) (mm_x M) (mm_r M) (mm_c M) (mm_a M) (mm_n M) 1 ev)) rfl ?_
                                exact z_vret C0 hA hQ hr d_M_read_242 (by have hC2 : sm_cps (mm_f M) pg 6 0 (mm_e M) = ev := hC; have hZ2 : sm_zs (mm_f M) pg 178 0 0 = zz := Option.some.inj hZ; have hS2 : sm_rs (mm_f M) pg 178 0 0 = rr := Option.some.inj hRs; have hg : sm_good ev rr = (true, ev) := if_pos c110_4; have hrec : sm_rec (ev) = true := (by unfold sm_rec; simp [c170_6, Int32.not_lt.mp c179_8, Int32.not_lt.mp c190_10, c200_12]); have e9 : sm_rd (mm_f M) (mm_e M) pg = (1, ev) := (by unfold sm_rd sm_rd1; rw [hC2, hZ2, hS2, if_neg (Nat.not_le.mpr c100_3), hg]; show ((if _ ∧ _ then (if rr = 0 then 1 else 2) else 3), ev) = _; rw [if_pos ⟨rfl, hrec⟩, if_pos c110_4]); rw [e9]; exact ⟨rfl, rfl⟩)
                            · exact absurd c223_13 (by decide)
                          · skip
                            refine z_aload_n C0 d_M_read_203 rfl 0 rfl ?_
                            refine z_get C0 gf_M_42 0 rfl rfl d_M_read_204 ?_
                            refine z_iconst (v := nI 3) C0 d_M_read_207 (by decide) ?_
                            refine z_iald C0 8 rfl (by omega) (by omega) d_M_read_208 ?_
                            refine z_iconst (v := nI 2) C0 d_M_read_209 (by decide) ?_
                            refine z_topi (x := nI 2) (xn := 2) (by decide) ?_
                            refine z_icmp_ne (tgt := 217) C0 d_M_read_210 (by decide) (fun (c210_15 : ¬ (ev (3)) = 2) => ?_) (fun (c210_15 : (ev (3)) = 2) => ?_)
                            · skip
                              refine z_iconst (v := nI 0) C0 d_M_read_217 (by decide) ?_
                              refine z_istore (lvn := [(0, .ref (y 0)), (1, .int (nI (pg))), (2, .int (nI (zz))), (3, .int (nI (rr))), (4, .int (nI (0))), (5, .int (pchk (ev (0)) (ev (1)) (ev (2)) (ev (3))))]) C0 d_M_read_218 (by decide) [1, 2, 3, 4, 0, 5] rfl ?_
                              refine z_aload_n C0 d_M_read_220 rfl 0 rfl ?_
                              refine z_iload C0 d_M_read_221 4 rfl ?_
                              refine z_ifN_ne (tgt := 230) C0 d_M_read_223 (by decide) (by omega) (fun c223_16 => ?_) (fun c223_16 => ?_)
                              · exact absurd c223_16 (by decide)
                              · skip
                                refine z_iconst (v := nI 3) C0 d_M_read_226 (by decide) ?_
                                refine z_gotoK (tgt := 239) C0 d_M_read_227 (by decide) ?_
                                refine z_put C0 gf_M_79 pf_M_16 0 rfl rfl rfl (Nat.le_of_ble_eq_true rfl) d_M_read_239 ?_
                                refine z_ws (wsn := zm_W cI cZ y bc bp (zmk (mm_f M) (mm_w M) (mm_q M) (mm_s M) (mm_k M) (mm_d M) (mm_h M) (mm_x M) (mm_r M) (mm_c M) (mm_a M) (mm_n M) 3 ev)) rfl ?_
                                exact z_vret C0 hA hQ hr d_M_read_242 (by have hC2 : sm_cps (mm_f M) pg 6 0 (mm_e M) = ev := hC; have hZ2 : sm_zs (mm_f M) pg 178 0 0 = zz := Option.some.inj hZ; have hS2 : sm_rs (mm_f M) pg 178 0 0 = rr := Option.some.inj hRs; have hg : sm_good ev rr = (true, ev) := if_pos c110_4; have hrec : sm_rec (ev) = false := (by unfold sm_rec; simp [c170_6, Int32.not_lt.mp c179_8, Int32.not_lt.mp c190_10, c200_12, c210_15]); have e9 : sm_rd (mm_f M) (mm_e M) pg = (3, ev) := (by unfold sm_rd sm_rd1; rw [hC2, hZ2, hS2, if_neg (Nat.not_le.mpr c100_3), hg]; show ((if _ ∧ _ then (if rr = 0 then 1 else 2) else 3), ev) = _; rw [if_neg (fun z => absurd (z.2.symm.trans hrec) (by decide))]); rw [e9]; exact ⟨rfl, rfl⟩)
                            · skip
                              refine z_iconst (v := nI 1) C0 d_M_read_213 (by decide) ?_
                              refine z_gotoK (tgt := 218) C0 d_M_read_214 (by decide) ?_
                              refine z_istore (lvn := [(0, .ref (y 0)), (1, .int (nI (pg))), (2, .int (nI (zz))), (3, .int (nI (rr))), (4, .int (nI (1))), (5, .int (pchk (ev (0)) (ev (1)) (ev (2)) (ev (3))))]) C0 d_M_read_218 (by decide) [1, 2, 3, 4, 0, 5] rfl ?_
                              refine z_aload_n C0 d_M_read_220 rfl 0 rfl ?_
                              refine z_iload C0 d_M_read_221 4 rfl ?_
                              refine z_ifN_ne (tgt := 230) C0 d_M_read_223 (by decide) (by omega) (fun c223_17 => ?_) (fun c223_17 => ?_)
                              · skip
                                refine z_iload_n C0 d_M_read_230 rfl 3 rfl ?_
                                refine z_ifN_ne (tgt := 238) C0 d_M_read_231 (by decide) (by omega) (fun c231_18 => ?_) (fun c231_18 => ?_)
                                · exact absurd c110_4 (Nat.pos_iff_ne_zero.mp c231_18)
                                · skip
                                  refine z_iconst (v := nI 1) C0 d_M_read_234 (by decide) ?_
                                  refine z_gotoK (tgt := 239) C0 d_M_read_235 (by decide) ?_
                                  refine z_put C0 gf_M_79 pf_M_16 0 rfl rfl rfl (Nat.le_of_ble_eq_true rfl) d_M_read_239 ?_
                                  refine z_ws (wsn := zm_W cI cZ y bc bp (zmk (mm_f M) (mm_w M) (mm_q M) (mm_s M) (mm_k M) (mm_d M) (mm_h M) (mm_x M) (mm_r M) (mm_c M) (mm_a M) (mm_n M) 1 ev)) rfl ?_
                                  exact z_vret C0 hA hQ hr d_M_read_242 (by have hC2 : sm_cps (mm_f M) pg 6 0 (mm_e M) = ev := hC; have hZ2 : sm_zs (mm_f M) pg 178 0 0 = zz := Option.some.inj hZ; have hS2 : sm_rs (mm_f M) pg 178 0 0 = rr := Option.some.inj hRs; have hg : sm_good ev rr = (true, ev) := if_pos c110_4; have hrec : sm_rec (ev) = true := (by unfold sm_rec; simp [c170_6, Int32.not_lt.mp c179_8, Int32.not_lt.mp c190_10, c200_12, c210_15]); have e9 : sm_rd (mm_f M) (mm_e M) pg = (1, ev) := (by unfold sm_rd sm_rd1; rw [hC2, hZ2, hS2, if_neg (Nat.not_le.mpr c100_3), hg]; show ((if _ ∧ _ then (if rr = 0 then 1 else 2) else 3), ev) = _; rw [if_pos ⟨rfl, hrec⟩, if_pos c110_4]); rw [e9]; exact ⟨rfl, rfl⟩)
                              · exact absurd c223_17 (by decide)
                · skip
                  refine z_aload_n C0 d_M_read_113 rfl 0 rfl ?_
                  refine z_iload_n C0 d_M_read_114 rfl 3 rfl ?_
                  refine z_allV (As := [.int (nI (rr))]) (rest := []) C0 (c_M_mends l D cI cZ y bc bp (zmk (mm_f M) (mm_w M) (mm_q M) (mm_s M) (mm_k M) (mm_d M) (mm_h M) (mm_x M) (mm_r M) (mm_c M) (mm_a M) (mm_n M) (mm_t M) ev) hB0 (rr) (hr1)) mt_M_mends ml_M_82 vt_M_mends rfl rfl ⟨Nat.le_of_ble_eq_true rfl, Nat.le_of_ble_eq_true rfl⟩ ⟨rfl, rfl⟩ ⟨Nat.zero_le _, Nat.zero_le _⟩ rfl rfl (Nat.le_of_ble_eq_true rfl) d_M_read_115 ?_
                  refine z_st (stn := [.int (bI ((sm_mend (ev) rr).1))]) rfl ?_
                  refine z_ifB_eq (tgt := 125) C0 d_M_read_118 (by decide) (fun (c118_19 : (sm_mend (ev) rr).1 = false) => ?_) (fun (c118_19 : (sm_mend (ev) rr).1 = true) => ?_)
                  · skip
                    refine z_iconst (v := nI 0) C0 d_M_read_125 (by decide) ?_
                    refine z_istore (lvn := [(0, .ref (y 0)), (1, .int (nI (pg))), (2, .int (nI (zz))), (3, .int (nI (rr))), (4, .int (nI (0)))]) C0 d_M_read_126 (by decide) [1, 2, 3, 4, 0] rfl ?_
                    refine z_aload_n C0 d_M_read_128 rfl 0 rfl ?_
                    refine z_get C0 gf_M_42 0 rfl rfl d_M_read_129 ?_
                    refine z_iconst (v := nI 0) C0 d_M_read_132 (by decide) ?_
                    refine z_iald C0 8 rfl (by omega) (by omega) d_M_read_133 ?_
                    refine z_aload_n C0 d_M_read_134 rfl 0 rfl ?_
                    refine z_get C0 gf_M_42 0 rfl rfl d_M_read_135 ?_
                    refine z_iconst (v := nI 1) C0 d_M_read_138 (by decide) ?_
                    refine z_iald C0 8 rfl (by omega) (by omega) d_M_read_139 ?_
                    refine z_aload_n C0 d_M_read_140 rfl 0 rfl ?_
                    refine z_get C0 gf_M_42 0 rfl rfl d_M_read_141 ?_
                    refine z_iconst (v := nI 2) C0 d_M_read_144 (by decide) ?_
                    refine z_iald C0 8 rfl (by omega) (by omega) d_M_read_145 ?_
                    refine z_aload_n C0 d_M_read_146 rfl 0 rfl ?_
                    refine z_get C0 gf_M_42 0 rfl rfl d_M_read_147 ?_
                    refine z_iconst (v := nI 3) C0 d_M_read_150 (by decide) ?_
                    refine z_iald C0 8 rfl (by omega) (by omega) d_M_read_151 ?_
                    refine z_nilS (As := [.int ((mm_e (sm_se (zmk (mm_f M) (mm_w M) (mm_q M) (mm_s M) (mm_k M) (mm_d M) (mm_h M) (mm_x M) (mm_r M) (mm_c M) (mm_a M) (mm_n M) (mm_t M) ev) (sm_mend (ev) rr).2)) (0)), .int ((mm_e (sm_se (zmk (mm_f M) (mm_w M) (mm_q M) (mm_s M) (mm_k M) (mm_d M) (mm_h M) (mm_x M) (mm_r M) (mm_c M) (mm_a M) (mm_n M) (mm_t M) ev) (sm_mend (ev) rr).2)) (1)), .int ((mm_e (sm_se (zmk (mm_f M) (mm_w M) (mm_q M) (mm_s M) (mm_k M) (mm_d M) (mm_h M) (mm_x M) (mm_r M) (mm_c M) (mm_a M) (mm_n M) (mm_t M) ev) (sm_mend (ev) rr).2)) (2)), .int ((mm_e (sm_se (zmk (mm_f M) (mm_w M) (mm_q M) (mm_s M) (mm_k M) (mm_d M) (mm_h M) (mm_x M) (mm_r M) (mm_c M) (mm_a M) (mm_n M) (mm_t M) ev) (sm_mend (ev) rr).2)) (3))]) (rest := []) C0 (c_M_checkOf l D cI cZ    ((mm_e (sm_se (zmk (mm_f M) (mm_w M) (mm_q M) (mm_s M) (mm_k M) (mm_d M) (mm_h M) (mm_x M) (mm_r M) (mm_c M) (mm_a M) (mm_n M) (mm_t M) ev) (sm_mend (ev) rr).2)) (0)) ((mm_e (sm_se (zmk (mm_f M) (mm_w M) (mm_q M) (mm_s M) (mm_k M) (mm_d M) (mm_h M) (mm_x M) (mm_r M) (mm_c M) (mm_a M) (mm_n M) (mm_t M) ev) (sm_mend (ev) rr).2)) (1)) ((mm_e (sm_se (zmk (mm_f M) (mm_w M) (mm_q M) (mm_s M) (mm_k M) (mm_d M) (mm_h M) (mm_x M) (mm_r M) (mm_c M) (mm_a M) (mm_n M) (mm_t M) ev) (sm_mend (ev) rr).2)) (2)) ((mm_e (sm_se (zmk (mm_f M) (mm_w M) (mm_q M) (mm_s M) (mm_k M) (mm_d M) (mm_h M) (mm_x M) (mm_r M) (mm_c M) (mm_a M) (mm_n M) (mm_t M) ev) (sm_mend (ev) rr).2)) (3)) ) mt_M_checkOf ml_M_86 vt_M_checkOf ⟨Nat.le_of_ble_eq_true rfl, Nat.le_of_ble_eq_true rfl⟩ ⟨rfl, rfl⟩ ⟨Nat.zero_le _, Nat.zero_le _⟩ rfl rfl (Nat.le_of_ble_eq_true rfl) d_M_read_152 ?_
                    refine z_st (stn := [.int (pchk ((mm_e (sm_se (zmk (mm_f M) (mm_w M) (mm_q M) (mm_s M) (mm_k M) (mm_d M) (mm_h M) (mm_x M) (mm_r M) (mm_c M) (mm_a M) (mm_n M) (mm_t M) ev) (sm_mend (ev) rr).2)) (0)) ((mm_e (sm_se (zmk (mm_f M) (mm_w M) (mm_q M) (mm_s M) (mm_k M) (mm_d M) (mm_h M) (mm_x M) (mm_r M) (mm_c M) (mm_a M) (mm_n M) (mm_t M) ev) (sm_mend (ev) rr).2)) (1)) ((mm_e (sm_se (zmk (mm_f M) (mm_w M) (mm_q M) (mm_s M) (mm_k M) (mm_d M) (mm_h M) (mm_x M) (mm_r M) (mm_c M) (mm_a M) (mm_n M) (mm_t M) ev) (sm_mend (ev) rr).2)) (2)) ((mm_e (sm_se (zmk (mm_f M) (mm_w M) (mm_q M) (mm_s M) (mm_k M) (mm_d M) (mm_h M) (mm_x M) (mm_r M) (mm_c M) (mm_a M) (mm_n M) (mm_t M) ev) (sm_mend (ev) rr).2)) (3)))]) rfl ?_
                    refine z_istore (lvn := [(0, .ref (y 0)), (1, .int (nI (pg))), (2, .int (nI (zz))), (3, .int (nI (rr))), (4, .int (nI (0))), (5, .int (pchk ((mm_e (sm_se (zmk (mm_f M) (mm_w M) (mm_q M) (mm_s M) (mm_k M) (mm_d M) (mm_h M) (mm_x M) (mm_r M) (mm_c M) (mm_a M) (mm_n M) (mm_t M) ev) (sm_mend (ev) rr).2)) (0)) ((mm_e (sm_se (zmk (mm_f M) (mm_w M) (mm_q M) (mm_s M) (mm_k M) (mm_d M) (mm_h M) (mm_x M) (mm_r M) (mm_c M) (mm_a M) (mm_n M) (mm_t M) ev) (sm_mend (ev) rr).2)) (1)) ((mm_e (sm_se (zmk (mm_f M) (mm_w M) (mm_q M) (mm_s M) (mm_k M) (mm_d M) (mm_h M) (mm_x M) (mm_r M) (mm_c M) (mm_a M) (mm_n M) (mm_t M) ev) (sm_mend (ev) rr).2)) (2)) ((mm_e (sm_se (zmk (mm_f M) (mm_w M) (mm_q M) (mm_s M) (mm_k M) (mm_d M) (mm_h M) (mm_x M) (mm_r M) (mm_c M) (mm_a M) (mm_n M) (mm_t M) ev) (sm_mend (ev) rr).2)) (3))))]) C0 d_M_read_155 (by decide) [1, 2, 3, 4, 5, 0] rfl ?_
                    refine z_iload C0 d_M_read_157 4 rfl ?_
                    refine z_ifN_eq (tgt := 217) C0 d_M_read_159 (by decide) (by omega) (fun c159_20 => ?_) (fun c159_20 => ?_)
                    · skip
                      refine z_iconst (v := nI 0) C0 d_M_read_217 (by decide) ?_
                      refine z_istore (lvn := [(0, .ref (y 0)), (1, .int (nI (pg))), (2, .int (nI (zz))), (3, .int (nI (rr))), (4, .int (nI (0))), (5, .int (pchk ((mm_e (sm_se (zmk (mm_f M) (mm_w M) (mm_q M) (mm_s M) (mm_k M) (mm_d M) (mm_h M) (mm_x M) (mm_r M) (mm_c M) (mm_a M) (mm_n M) (mm_t M) ev) (sm_mend (ev) rr).2)) (0)) ((mm_e (sm_se (zmk (mm_f M) (mm_w M) (mm_q M) (mm_s M) (mm_k M) (mm_d M) (mm_h M) (mm_x M) (mm_r M) (mm_c M) (mm_a M) (mm_n M) (mm_t M) ev) (sm_mend (ev) rr).2)) (1)) ((mm_e (sm_se (zmk (mm_f M) (mm_w M) (mm_q M) (mm_s M) (mm_k M) (mm_d M) (mm_h M) (mm_x M) (mm_r M) (mm_c M) (mm_a M) (mm_n M) (mm_t M) ev) (sm_mend (ev) rr).2)) (2)) ((mm_e (sm_se (zmk (mm_f M) (mm_w M) (mm_q M) (mm_s M) (mm_k M) (mm_d M) (mm_h M) (mm_x M) (mm_r M) (mm_c M) (mm_a M) (mm_n M) (mm_t M) ev) (sm_mend (ev) rr).2)) (3))))]) C0 d_M_read_218 (by decide) [1, 2, 3, 4, 0, 5] rfl ?_
                      refine z_aload_n C0 d_M_read_220 rfl 0 rfl ?_
                      refine z_iload C0 d_M_read_221 4 rfl ?_
                      refine z_ifN_ne (tgt := 230) C0 d_M_read_223 (by decide) (by omega) (fun c223_21 => ?_) (fun c223_21 => ?_)
                      · exact absurd c223_21 (by decide)
                      · skip
                        refine z_iconst (v := nI 3) C0 d_M_read_226 (by decide) ?_
                        refine z_gotoK (tgt := 239) C0 d_M_read_227 (by decide) ?_
                        refine z_put C0 gf_M_79 pf_M_16 0 rfl rfl rfl (Nat.le_of_ble_eq_true rfl) d_M_read_239 ?_
                        refine z_ws (wsn := zm_W cI cZ y bc bp (zmk (mm_f (sm_se (zmk (mm_f M) (mm_w M) (mm_q M) (mm_s M) (mm_k M) (mm_d M) (mm_h M) (mm_x M) (mm_r M) (mm_c M) (mm_a M) (mm_n M) (mm_t M) ev) (sm_mend (ev) rr).2)) (mm_w (sm_se (zmk (mm_f M) (mm_w M) (mm_q M) (mm_s M) (mm_k M) (mm_d M) (mm_h M) (mm_x M) (mm_r M) (mm_c M) (mm_a M) (mm_n M) (mm_t M) ev) (sm_mend (ev) rr).2)) (mm_q (sm_se (zmk (mm_f M) (mm_w M) (mm_q M) (mm_s M) (mm_k M) (mm_d M) (mm_h M) (mm_x M) (mm_r M) (mm_c M) (mm_a M) (mm_n M) (mm_t M) ev) (sm_mend (ev) rr).2)) (mm_s (sm_se (zmk (mm_f M) (mm_w M) (mm_q M) (mm_s M) (mm_k M) (mm_d M) (mm_h M) (mm_x M) (mm_r M) (mm_c M) (mm_a M) (mm_n M) (mm_t M) ev) (sm_mend (ev) rr).2)) (mm_k (sm_se (zmk (mm_f M) (mm_w M) (mm_q M) (mm_s M) (mm_k M) (mm_d M) (mm_h M) (mm_x M) (mm_r M) (mm_c M) (mm_a M) (mm_n M) (mm_t M) ev) (sm_mend (ev) rr).2)) (mm_d (sm_se (zmk (mm_f M) (mm_w M) (mm_q M) (mm_s M) (mm_k M) (mm_d M) (mm_h M) (mm_x M) (mm_r M) (mm_c M) (mm_a M) (mm_n M) (mm_t M) ev) (sm_mend (ev) rr).2)) (mm_h (sm_se (zmk (mm_f M) (mm_w M) (mm_q M) (mm_s M) (mm_k M) (mm_d M) (mm_h M) (mm_x M) (mm_r M) (mm_c M) (mm_a M) (mm_n M) (mm_t M) ev) (sm_mend (ev) rr).2)) (mm_x (sm_se (zmk (mm_f M) (mm_w M) (mm_q M) (mm_s M) (mm_k M) (mm_d M) (mm_h M) (mm_x M) (mm_r M) (mm_c M) (mm_a M) (mm_n M) (mm_t M) ev) (sm_mend (ev) rr).2)) (mm_r (sm_se (zmk (mm_f M) (mm_w M) (mm_q M) (mm_s M) (mm_k M) (mm_d M) (mm_h M) (mm_x M) (mm_r M) (mm_c M) (mm_a M) (mm_n M) (mm_t M) ev) (sm_mend (ev) rr).2)) (mm_c (sm_se (zmk (mm_f M) (mm_w M) (mm_q M) (mm_s M) (mm_k M) (mm_d M) (mm_h M) (mm_x M) (mm_r M) (mm_c M) (mm_a M) (mm_n M) (mm_t M) ev) (sm_mend (ev) rr).2)) (mm_a (sm_se (zmk (mm_f M) (mm_w M) (mm_q M) (mm_s M) (mm_k M) (mm_d M) (mm_h M) (mm_x M) (mm_r M) (mm_c M) (mm_a M) (mm_n M) (mm_t M) ev) (sm_mend (ev) rr).2)) (mm_n (sm_se (zmk (mm_f M) (mm_w M) (mm_q M) (mm_s M) (mm_k M) (mm_d M) (mm_h M) (mm_x M) (mm_r M) (mm_c M) (mm_a M) (mm_n M) (mm_t M) ev) (sm_mend (ev) rr).2)) 3 (mm_e (sm_se (zmk (mm_f M) (mm_w M) (mm_q M) (mm_s M) (mm_k M) (mm_d M) (mm_h M) (mm_x M) (mm_r M) (mm_c M) (mm_a M) (mm_n M) (mm_t M) ev) (sm_mend (ev) rr).2)))) rfl ?_
                        exact z_vret C0 hA hQ hr d_M_read_242 (by have hC2 : sm_cps (mm_f M) pg 6 0 (mm_e M) = ev := hC; have hZ2 : sm_zs (mm_f M) pg 178 0 0 = zz := Option.some.inj hZ; have hS2 : sm_rs (mm_f M) pg 178 0 0 = rr := Option.some.inj hRs; have hg : sm_good ev rr = (false, (sm_mend ev rr).2) := (if_neg (Nat.pos_iff_ne_zero.mp c110_4)).trans (by rw [← c118_19]); have e9 : sm_rd (mm_f M) (mm_e M) pg = (3, mm_e (sm_se (zmk (mm_f M) (mm_w M) (mm_q M) (mm_s M) (mm_k M) (mm_d M) (mm_h M) (mm_x M) (mm_r M) (mm_c M) (mm_a M) (mm_n M) (mm_t M) ev) (sm_mend (ev) rr).2)) := (by unfold sm_rd sm_rd1; rw [hC2, hZ2, hS2, if_neg (Nat.not_le.mpr c100_3), hg]; show ((if _ ∧ _ then (if rr = 0 then 1 else 2) else 3), mm_e (sm_se (zmk (mm_f M) (mm_w M) (mm_q M) (mm_s M) (mm_k M) (mm_d M) (mm_h M) (mm_x M) (mm_r M) (mm_c M) (mm_a M) (mm_n M) (mm_t M) ev) (sm_mend (ev) rr).2)) = _; rw [if_neg (fun z => absurd (show false = true from z.1) (by decide))]); rw [e9]; exact ⟨rfl, rfl⟩)
                    · exact absurd c159_20 (by decide)
                  · skip
                    refine z_iconst (v := nI 1) C0 d_M_read_121 (by decide) ?_
                    refine z_gotoK (tgt := 126) C0 d_M_read_122 (by decide) ?_
                    refine z_istore (lvn := [(0, .ref (y 0)), (1, .int (nI (pg))), (2, .int (nI (zz))), (3, .int (nI (rr))), (4, .int (nI (1)))]) C0 d_M_read_126 (by decide) [1, 2, 3, 4, 0] rfl ?_
                    refine z_aload_n C0 d_M_read_128 rfl 0 rfl ?_
                    refine z_get C0 gf_M_42 0 rfl rfl d_M_read_129 ?_
                    refine z_iconst (v := nI 0) C0 d_M_read_132 (by decide) ?_
                    refine z_iald C0 8 rfl (by omega) (by omega) d_M_read_133 ?_
                    refine z_aload_n C0 d_M_read_134 rfl 0 rfl ?_
                    refine z_get C0 gf_M_42 0 rfl rfl d_M_read_135 ?_
                    refine z_iconst (v := nI 1) C0 d_M_read_138 (by decide) ?_
                    refine z_iald C0 8 rfl (by omega) (by omega) d_M_read_139 ?_
                    refine z_aload_n C0 d_M_read_140 rfl 0 rfl ?_
                    refine z_get C0 gf_M_42 0 rfl rfl d_M_read_141 ?_
                    refine z_iconst (v := nI 2) C0 d_M_read_144 (by decide) ?_
                    refine z_iald C0 8 rfl (by omega) (by omega) d_M_read_145 ?_
                    refine z_aload_n C0 d_M_read_146 rfl 0 rfl ?_
                    refine z_get C0 gf_M_42 0 rfl rfl d_M_read_147 ?_
                    refine z_iconst (v := nI 3) C0 d_M_read_150 (by decide) ?_
                    refine z_iald C0 8 rfl (by omega) (by omega) d_M_read_151 ?_
                    refine z_nilS (As := [.int ((mm_e (sm_se (zmk (mm_f M) (mm_w M) (mm_q M) (mm_s M) (mm_k M) (mm_d M) (mm_h M) (mm_x M) (mm_r M) (mm_c M) (mm_a M) (mm_n M) (mm_t M) ev) (sm_mend (ev) rr).2)) (0)), .int ((mm_e (sm_se (zmk (mm_f M) (mm_w M) (mm_q M) (mm_s M) (mm_k M) (mm_d M) (mm_h M) (mm_x M) (mm_r M) (mm_c M) (mm_a M) (mm_n M) (mm_t M) ev) (sm_mend (ev) rr).2)) (1)), .int ((mm_e (sm_se (zmk (mm_f M) (mm_w M) (mm_q M) (mm_s M) (mm_k M) (mm_d M) (mm_h M) (mm_x M) (mm_r M) (mm_c M) (mm_a M) (mm_n M) (mm_t M) ev) (sm_mend (ev) rr).2)) (2)), .int ((mm_e (sm_se (zmk (mm_f M) (mm_w M) (mm_q M) (mm_s M) (mm_k M) (mm_d M) (mm_h M) (mm_x M) (mm_r M) (mm_c M) (mm_a M) (mm_n M) (mm_t M) ev) (sm_mend (ev) rr).2)) (3))]) (rest := []) C0 (c_M_checkOf l D cI cZ    ((mm_e (sm_se (zmk (mm_f M) (mm_w M) (mm_q M) (mm_s M) (mm_k M) (mm_d M) (mm_h M) (mm_x M) (mm_r M) (mm_c M) (mm_a M) (mm_n M) (mm_t M) ev) (sm_mend (ev) rr).2)) (0)) ((mm_e (sm_se (zmk (mm_f M) (mm_w M) (mm_q M) (mm_s M) (mm_k M) (mm_d M) (mm_h M) (mm_x M) (mm_r M) (mm_c M) (mm_a M) (mm_n M) (mm_t M) ev) (sm_mend (ev) rr).2)) (1)) ((mm_e (sm_se (zmk (mm_f M) (mm_w M) (mm_q M) (mm_s M) (mm_k M) (mm_d M) (mm_h M) (mm_x M) (mm_r M) (mm_c M) (mm_a M) (mm_n M) (mm_t M) ev) (sm_mend (ev) rr).2)) (2)) ((mm_e (sm_se (zmk (mm_f M) (mm_w M) (mm_q M) (mm_s M) (mm_k M) (mm_d M) (mm_h M) (mm_x M) (mm_r M) (mm_c M) (mm_a M) (mm_n M) (mm_t M) ev) (sm_mend (ev) rr).2)) (3)) ) mt_M_checkOf ml_M_86 vt_M_checkOf ⟨Nat.le_of_ble_eq_true rfl, Nat.le_of_ble_eq_true rfl⟩ ⟨rfl, rfl⟩ ⟨Nat.zero_le _, Nat.zero_le _⟩ rfl rfl (Nat.le_of_ble_eq_true rfl) d_M_read_152 ?_
                    refine z_st (stn := [.int (pchk ((mm_e (sm_se (zmk (mm_f M) (mm_w M) (mm_q M) (mm_s M) (mm_k M) (mm_d M) (mm_h M) (mm_x M) (mm_r M) (mm_c M) (mm_a M) (mm_n M) (mm_t M) ev) (sm_mend (ev) rr).2)) (0)) ((mm_e (sm_se (zmk (mm_f M) (mm_w M) (mm_q M) (mm_s M) (mm_k M) (mm_d M) (mm_h M) (mm_x M) (mm_r M) (mm_c M) (mm_a M) (mm_n M) (mm_t M) ev) (sm_mend (ev) rr).2)) (1)) ((mm_e (sm_se (zmk (mm_f M) (mm_w M) (mm_q M) (mm_s M) (mm_k M) (mm_d M) (mm_h M) (mm_x M) (mm_r M) (mm_c M) (mm_a M) (mm_n M) (mm_t M) ev) (sm_mend (ev) rr).2)) (2)) ((mm_e (sm_se (zmk (mm_f M) (mm_w M) (mm_q M) (mm_s M) (mm_k M) (mm_d M) (mm_h M) (mm_x M) (mm_r M) (mm_c M) (mm_a M) (mm_n M) (mm_t M) ev) (sm_mend (ev) rr).2)) (3)))]) rfl ?_
                    refine z_istore (lvn := [(0, .ref (y 0)), (1, .int (nI (pg))), (2, .int (nI (zz))), (3, .int (nI (rr))), (4, .int (nI (1))), (5, .int (pchk ((mm_e (sm_se (zmk (mm_f M) (mm_w M) (mm_q M) (mm_s M) (mm_k M) (mm_d M) (mm_h M) (mm_x M) (mm_r M) (mm_c M) (mm_a M) (mm_n M) (mm_t M) ev) (sm_mend (ev) rr).2)) (0)) ((mm_e (sm_se (zmk (mm_f M) (mm_w M) (mm_q M) (mm_s M) (mm_k M) (mm_d M) (mm_h M) (mm_x M) (mm_r M) (mm_c M) (mm_a M) (mm_n M) (mm_t M) ev) (sm_mend (ev) rr).2)) (1)) ((mm_e (sm_se (zmk (mm_f M) (mm_w M) (mm_q M) (mm_s M) (mm_k M) (mm_d M) (mm_h M) (mm_x M) (mm_r M) (mm_c M) (mm_a M) (mm_n M) (mm_t M) ev) (sm_mend (ev) rr).2)) (2)) ((mm_e (sm_se (zmk (mm_f M) (mm_w M) (mm_q M) (mm_s M) (mm_k M) (mm_d M) (mm_h M) (mm_x M) (mm_r M) (mm_c M) (mm_a M) (mm_n M) (mm_t M) ev) (sm_mend (ev) rr).2)) (3))))]) C0 d_M_read_155 (by decide) [1, 2, 3, 4, 5, 0] rfl ?_
                    refine z_iload C0 d_M_read_157 4 rfl ?_
                    refine z_ifN_eq (tgt := 217) C0 d_M_read_159 (by decide) (by omega) (fun c159_22 => ?_) (fun c159_22 => ?_)
                    · exact absurd c159_22 (by decide)
                    · skip
                      refine z_aload_n C0 d_M_read_162 rfl 0 rfl ?_
                      refine z_get C0 gf_M_42 0 rfl rfl d_M_read_163 ?_
                      refine z_iconst (v := nI 4) C0 d_M_read_166 (by decide) ?_
                      refine z_iald C0 8 rfl (by omega) (by omega) d_M_read_167 ?_
                      refine z_iload C0 d_M_read_168 5 rfl ?_
                      refine z_icmp_ne (tgt := 217) C0 d_M_read_170 (by decide) (fun (c170_23 : ¬ ((mm_e (sm_se (zmk (mm_f M) (mm_w M) (mm_q M) (mm_s M) (mm_k M) (mm_d M) (mm_h M) (mm_x M) (mm_r M) (mm_c M) (mm_a M) (mm_n M) (mm_t M) ev) (sm_mend (ev) rr).2)) (4)) = (pchk ((mm_e (sm_se (zmk (mm_f M) (mm_w M) (mm_q M) (mm_s M) (mm_k M) (mm_d M) (mm_h M) (mm_x M) (mm_r M) (mm_c M) (mm_a M) (mm_n M) (mm_t M) ev) (sm_mend (ev) rr).2)) (0)) ((mm_e (sm_se (zmk (mm_f M) (mm_w M) (mm_q M) (mm_s M) (mm_k M) (mm_d M) (mm_h M) (mm_x M) (mm_r M) (mm_c M) (mm_a M) (mm_n M) (mm_t M) ev) (sm_mend (ev) rr).2)) (1)) ((mm_e (sm_se (zmk (mm_f M) (mm_w M) (mm_q M) (mm_s M) (mm_k M) (mm_d M) (mm_h M) (mm_x M) (mm_r M) (mm_c M) (mm_a M) (mm_n M) (mm_t M) ev) (sm_mend (ev) rr).2)) (2)) ((mm_e (sm_se (zmk (mm_f M) (mm_w M) (mm_q M) (mm_s M) (mm_k M) (mm_d M) (mm_h M) (mm_x M) (mm_r M) (mm_c M) (mm_a M) (mm_n M) (mm_t M) ev) (sm_mend (ev) rr).2)) (3)))) => ?_) (fun (c170_23 : ((mm_e (sm_se (zmk (mm_f M) (mm_w M) (mm_q M) (mm_s M) (mm_k M) (mm_d M) (mm_h M) (mm_x M) (mm_r M) (mm_c M) (mm_a M) (mm_n M) (mm_t M) ev) (sm_mend (ev) rr).2)) (4)) = (pchk ((mm_e (sm_se (zmk (mm_f M) (mm_w M) (mm_q M) (mm_s M) (mm_k M) (mm_d M) (mm_h M) (mm_x M) (mm_r M) (mm_c M) (mm_a M) (mm_n M) (mm_t M) ev) (sm_mend (ev) rr).2)) (0)) ((mm_e (sm_se (zmk (mm_f M) (mm_w M) (mm_q M) (mm_s M) (mm_k M) (mm_d M) (mm_h M) (mm_x M) (mm_r M) (mm_c M) (mm_a M) (mm_n M) (mm_t M) ev) (sm_mend (ev) rr).2)) (1)) ((mm_e (sm_se (zmk (mm_f M) (mm_w M) (mm_q M) (mm_s M) (mm_k M) (mm_d M) (mm_h M) (mm_x M) (mm_r M) (mm_c M) (mm_a M) (mm_n M) (mm_t M) ev) (sm_mend (ev) rr).2)) (2)) ((mm_e (sm_se (zmk (mm_f M) (mm_w M) (mm_q M) (mm_s M) (mm_k M) (mm_d M) (mm_h M) (mm_x M) (mm_r M) (mm_c M) (mm_a M) (mm_n M) (mm_t M) ev) (sm_mend (ev) rr).2)) (3)))) => ?_)
                      · skip
                        refine z_iconst (v := nI 0) C0 d_M_read_217 (by decide) ?_
                        refine z_istore (lvn := [(0, .ref (y 0)), (1, .int (nI (pg))), (2, .int (nI (zz))), (3, .int (nI (rr))), (4, .int (nI (0))), (5, .int (pchk ((mm_e (sm_se (zmk (mm_f M) (mm_w M) (mm_q M) (mm_s M) (mm_k M) (mm_d M) (mm_h M) (mm_x M) (mm_r M) (mm_c M) (mm_a M) (mm_n M) (mm_t M) ev) (sm_mend (ev) rr).2)) (0)) ((mm_e (sm_se (zmk (mm_f M) (mm_w M) (mm_q M) (mm_s M) (mm_k M) (mm_d M) (mm_h M) (mm_x M) (mm_r M) (mm_c M) (mm_a M) (mm_n M) (mm_t M) ev) (sm_mend (ev) rr).2)) (1)) ((mm_e (sm_se (zmk (mm_f M) (mm_w M) (mm_q M) (mm_s M) (mm_k M) (mm_d M) (mm_h M) (mm_x M) (mm_r M) (mm_c M) (mm_a M) (mm_n M) (mm_t M) ev) (sm_mend (ev) rr).2)) (2)) ((mm_e (sm_se (zmk (mm_f M) (mm_w M) (mm_q M) (mm_s M) (mm_k M) (mm_d M) (mm_h M) (mm_x M) (mm_r M) (mm_c M) (mm_a M) (mm_n M) (mm_t M) ev) (sm_mend (ev) rr).2)) (3))))]) C0 d_M_read_218 (by decide) [1, 2, 3, 4, 0, 5] rfl ?_
                        refine z_aload_n C0 d_M_read_220 rfl 0 rfl ?_
                        refine z_iload C0 d_M_read_221 4 rfl ?_
                        refine z_ifN_ne (tgt := 230) C0 d_M_read_223 (by decide) (by omega) (fun c223_24 => ?_) (fun c223_24 => ?_)
                        · exact absurd c223_24 (by decide)
                        · skip
                          refine z_iconst (v := nI 3) C0 d_M_read_226 (by decide) ?_
                          refine z_gotoK (tgt := 239) C0 d_M_read_227 (by decide) ?_
                          refine z_put C0 gf_M_79 pf_M_16 0 rfl rfl rfl (Nat.le_of_ble_eq_true rfl) d_M_read_239 ?_
                          refine z_ws (wsn := zm_W cI cZ y bc bp (zmk (mm_f (sm_se (zmk (mm_f M) (mm_w M) (mm_q M) (mm_s M) (mm_k M) (mm_d M) (mm_h M) (mm_x M) (mm_r M) (mm_c M) (mm_a M) (mm_n M) (mm_t M) ev) (sm_mend (ev) rr).2)) (mm_w (sm_se (zmk (mm_f M) (mm_w M) (mm_q M) (mm_s M) (mm_k M) (mm_d M) (mm_h M) (mm_x M) (mm_r M) (mm_c M) (mm_a M) (mm_n M) (mm_t M) ev) (sm_mend (ev) rr).2)) (mm_q (sm_se (zmk (mm_f M) (mm_w M) (mm_q M) (mm_s M) (mm_k M) (mm_d M) (mm_h M) (mm_x M) (mm_r M) (mm_c M) (mm_a M) (mm_n M) (mm_t M) ev) (sm_mend (ev) rr).2)) (mm_s (sm_se (zmk (mm_f M) (mm_w M) (mm_q M) (mm_s M) (mm_k M) (mm_d M) (mm_h M) (mm_x M) (mm_r M) (mm_c M) (mm_a M) (mm_n M) (mm_t M) ev) (sm_mend (ev) rr).2)) (mm_k (sm_se (zmk (mm_f M) (mm_w M) (mm_q M) (mm_s M) (mm_k M) (mm_d M) (mm_h M) (mm_x M) (mm_r M) (mm_c M) (mm_a M) (mm_n M) (mm_t M) ev) (sm_mend (ev) rr).2)) (mm_d (sm_se (zmk (mm_f M) (mm_w M) (mm_q M) (mm_s M) (mm_k M) (mm_d M) (mm_h M) (mm_x M) (mm_r M) (mm_c M) (mm_a M) (mm_n M) (mm_t M) ev) (sm_mend (ev) rr).2)) (mm_h (sm_se (zmk (mm_f M) (mm_w M) (mm_q M) (mm_s M) (mm_k M) (mm_d M) (mm_h M) (mm_x M) (mm_r M) (mm_c M) (mm_a M) (mm_n M) (mm_t M) ev) (sm_mend (ev) rr).2)) (mm_x (sm_se (zmk (mm_f M) (mm_w M) (mm_q M) (mm_s M) (mm_k M) (mm_d M) (mm_h M) (mm_x M) (mm_r M) (mm_c M) (mm_a M) (mm_n M) (mm_t M) ev) (sm_mend (ev) rr).2)) (mm_r (sm_se (zmk (mm_f M) (mm_w M) (mm_q M) (mm_s M) (mm_k M) (mm_d M) (mm_h M) (mm_x M) (mm_r M) (mm_c M) (mm_a M) (mm_n M) (mm_t M) ev) (sm_mend (ev) rr).2)) (mm_c (sm_se (zmk (mm_f M) (mm_w M) (mm_q M) (mm_s M) (mm_k M) (mm_d M) (mm_h M) (mm_x M) (mm_r M) (mm_c M) (mm_a M) (mm_n M) (mm_t M) ev) (sm_mend (ev) rr).2)) (mm_a (sm_se (zmk (mm_f M) (mm_w M) (mm_q M) (mm_s M) (mm_k M) (mm_d M) (mm_h M) (mm_x M) (mm_r M) (mm_c M) (mm_a M) (mm_n M) (mm_t M) ev) (sm_mend (ev) rr).2)) (mm_n (sm_se (zmk (mm_f M) (mm_w M) (mm_q M) (mm_s M) (mm_k M) (mm_d M) (mm_h M) (mm_x M) (mm_r M) (mm_c M) (mm_a M) (mm_n M) (mm_t M) ev) (sm_mend (ev) rr).2)) 3 (mm_e (sm_se (zmk (mm_f M) (mm_w M) (mm_q M) (mm_s M) (mm_k M) (mm_d M) (mm_h M) (mm_x M) (mm_r M) (mm_c M) (mm_a M) (mm_n M) (mm_t M) ev) (sm_mend (ev) rr).2)))) rfl ?_
                          exact z_vret C0 hA hQ hr d_M_read_242 (by have hC2 : sm_cps (mm_f M) pg 6 0 (mm_e M) = ev := hC; have hZ2 : sm_zs (mm_f M) pg 178 0 0 = zz := Option.some.inj hZ; have hS2 : sm_rs (mm_f M) pg 178 0 0 = rr := Option.some.inj hRs; have hg : sm_good ev rr = (true, (sm_mend ev rr).2) := (if_neg (Nat.pos_iff_ne_zero.mp c110_4)).trans (by rw [← c118_19]); have hrec : sm_rec (mm_e (sm_se (zmk (mm_f M) (mm_w M) (mm_q M) (mm_s M) (mm_k M) (mm_d M) (mm_h M) (mm_x M) (mm_r M) (mm_c M) (mm_a M) (mm_n M) (mm_t M) ev) (sm_mend (ev) rr).2)) = false := (by unfold sm_rec; simp [c170_23]); have e9 : sm_rd (mm_f M) (mm_e M) pg = (3, mm_e (sm_se (zmk (mm_f M) (mm_w M) (mm_q M) (mm_s M) (mm_k M) (mm_d M) (mm_h M) (mm_x M) (mm_r M) (mm_c M) (mm_a M) (mm_n M) (mm_t M) ev) (sm_mend (ev) rr).2)) := (by unfold sm_rd sm_rd1; rw [hC2, hZ2, hS2, if_neg (Nat.not_le.mpr c100_3), hg]; show ((if _ ∧ _ then (if rr = 0 then 1 else 2) else 3), mm_e (sm_se (zmk (mm_f M) (mm_w M) (mm_q M) (mm_s M) (mm_k M) (mm_d M) (mm_h M) (mm_x M) (mm_r M) (mm_c M) (mm_a M) (mm_n M) (mm_t M) ev) (sm_mend (ev) rr).2)) = _; rw [if_neg (fun z => absurd (z.2.symm.trans hrec) (by decide))]); rw [e9]; exact ⟨rfl, rfl⟩)
                      · skip
                        refine z_aload_n C0 d_M_read_173 rfl 0 rfl ?_
                        refine z_get C0 gf_M_42 0 rfl rfl d_M_read_174 ?_
                        refine z_iconst (v := nI 1) C0 d_M_read_177 (by decide) ?_
                        refine z_iald C0 8 rfl (by omega) (by omega) d_M_read_178 ?_
                        refine z_if_lt (tgt := 217) C0 d_M_read_179 (by decide) (fun (c179_25 : (mm_e (sm_se (zmk (mm_f M) (mm_w M) (mm_q M) (mm_s M) (mm_k M) (mm_d M) (mm_h M) (mm_x M) (mm_r M) (mm_c M) (mm_a M) (mm_n M) (mm_t M) ev) (sm_mend (ev) rr).2)) (1) < 0) => ?_) (fun (c179_25 : ¬ (mm_e (sm_se (zmk (mm_f M) (mm_w M) (mm_q M) (mm_s M) (mm_k M) (mm_d M) (mm_h M) (mm_x M) (mm_r M) (mm_c M) (mm_a M) (mm_n M) (mm_t M) ev) (sm_mend (ev) rr).2)) (1) < 0) => ?_)
                        · skip
                          refine z_iconst (v := nI 0) C0 d_M_read_217 (by decide) ?_
                          refine z_istore (lvn := [(0, .ref (y 0)), (1, .int (nI (pg))), (2, .int (nI (zz))), (3, .int (nI (rr))), (4, .int (nI (0))), (5, .int (pchk ((mm_e (sm_se (zmk (mm_f M) (mm_w M) (mm_q M) (mm_s M) (mm_k M) (mm_d M) (mm_h M) (mm_x M) (mm_r M) (mm_c M) (mm_a M) (mm_n M) (mm_t M) ev) (sm_mend (ev) rr).2)) (0)) ((mm_e (sm_se (zmk (mm_f M) (mm_w M) (mm_q M) (mm_s M) (mm_k M) (mm_d M) (mm_h M) (mm_x M) (mm_r M) (mm_c M) (mm_a M) (mm_n M) (mm_t M) ev) (sm_mend (ev) rr).2)) (1)) ((mm_e (sm_se (zmk (mm_f M) (mm_w M) (mm_q M) (mm_s M) (mm_k M) (mm_d M) (mm_h M) (mm_x M) (mm_r M) (mm_c M) (mm_a M) (mm_n M) (mm_t M) ev) (sm_mend (ev) rr).2)) (2)) ((mm_e (sm_se (zmk (mm_f M) (mm_w M) (mm_q M) (mm_s M) (mm_k M) (mm_d M) (mm_h M) (mm_x M) (mm_r M) (mm_c M) (mm_a M) (mm_n M) (mm_t M) ev) (sm_mend (ev) rr).2)) (3))))]) C0 d_M_read_218 (by decide) [1, 2, 3, 4, 0, 5] rfl ?_
                          refine z_aload_n C0 d_M_read_220 rfl 0 rfl ?_
                          refine z_iload C0 d_M_read_221 4 rfl ?_
                          refine z_ifN_ne (tgt := 230) C0 d_M_read_223 (by decide) (by omega) (fun c223_26 => ?_) (fun c223_26 => ?_)
                          · exact absurd c223_26 (by decide)
                          · skip
                            refine z_iconst (v := nI 3) C0 d_M_read_226 (by decide) ?_
                            refine z_gotoK (tgt := 239) C0 d_M_read_227 (by decide) ?_
                            refine z_put C0 gf_M_79 pf_M_16 0 rfl rfl rfl (Nat.le_of_ble_eq_true rfl) d_M_read_239 ?_
                            refine z_ws (wsn := zm_W cI cZ y bc bp (zmk (mm_f (sm_se (zmk (mm_f M) (mm_w M) (mm_q M) (mm_s M) (mm_k M) (mm_d M) (mm_h M) (mm_x M) (mm_r M) (mm_c M) (mm_a M) (mm_n M) (mm_t M) ev) (sm_mend (ev) rr).2)) (mm_w (sm_se (zmk (mm_f M) (mm_w M) (mm_q M) (mm_s M) (mm_k M) (mm_d M) (mm_h M) (mm_x M) (mm_r M) (mm_c M) (mm_a M) (mm_n M) (mm_t M) ev) (sm_mend (ev) rr).2)) (mm_q (sm_se (zmk (mm_f M) (mm_w M) (mm_q M) (mm_s M) (mm_k M) (mm_d M) (mm_h M) (mm_x M) (mm_r M) (mm_c M) (mm_a M) (mm_n M) (mm_t M) ev) (sm_mend (ev) rr).2)) (mm_s (sm_se (zmk (mm_f M) (mm_w M) (mm_q M) (mm_s M) (mm_k M) (mm_d M) (mm_h M) (mm_x M) (mm_r M) (mm_c M) (mm_a M) (mm_n M) (mm_t M) ev) (sm_mend (ev) rr).2)) (mm_k (sm_se (zmk (mm_f M) (mm_w M) (mm_q M) (mm_s M) (mm_k M) (mm_d M) (mm_h M) (mm_x M) (mm_r M) (mm_c M) (mm_a M) (mm_n M) (mm_t M) ev) (sm_mend (ev) rr).2)) (mm_d (sm_se (zmk (mm_f M) (mm_w M) (mm_q M) (mm_s M) (mm_k M) (mm_d M) (mm_h M) (mm_x M) (mm_r M) (mm_c M) (mm_a M) (mm_n M) (mm_t M) ev) (sm_mend (ev) rr).2)) (mm_h (sm_se (zmk (mm_f M) (mm_w M) (mm_q M) (mm_s M) (mm_k M) (mm_d M) (mm_h M) (mm_x M) (mm_r M) (mm_c M) (mm_a M) (mm_n M) (mm_t M) ev) (sm_mend (ev) rr).2)) (mm_x (sm_se (zmk (mm_f M) (mm_w M) (mm_q M) (mm_s M) (mm_k M) (mm_d M) (mm_h M) (mm_x M) (mm_r M) (mm_c M) (mm_a M) (mm_n M) (mm_t M) ev) (sm_mend (ev) rr).2)) (mm_r (sm_se (zmk (mm_f M) (mm_w M) (mm_q M) (mm_s M) (mm_k M) (mm_d M) (mm_h M) (mm_x M) (mm_r M) (mm_c M) (mm_a M) (mm_n M) (mm_t M) ev) (sm_mend (ev) rr).2)) (mm_c (sm_se (zmk (mm_f M) (mm_w M) (mm_q M) (mm_s M) (mm_k M) (mm_d M) (mm_h M) (mm_x M) (mm_r M) (mm_c M) (mm_a M) (mm_n M) (mm_t M) ev) (sm_mend (ev) rr).2)) (mm_a (sm_se (zmk (mm_f M) (mm_w M) (mm_q M) (mm_s M) (mm_k M) (mm_d M) (mm_h M) (mm_x M) (mm_r M) (mm_c M) (mm_a M) (mm_n M) (mm_t M) ev) (sm_mend (ev) rr).2)) (mm_n (sm_se (zmk (mm_f M) (mm_w M) (mm_q M) (mm_s M) (mm_k M) (mm_d M) (mm_h M) (mm_x M) (mm_r M) (mm_c M) (mm_a M) (mm_n M) (mm_t M) ev) (sm_mend (ev) rr).2)) 3 (mm_e (sm_se (zmk (mm_f M) (mm_w M) (mm_q M) (mm_s M) (mm_k M) (mm_d M) (mm_h M) (mm_x M) (mm_r M) (mm_c M) (mm_a M) (mm_n M) (mm_t M) ev) (sm_mend (ev) rr).2)))) rfl ?_
                            exact z_vret C0 hA hQ hr d_M_read_242 (by have hC2 : sm_cps (mm_f M) pg 6 0 (mm_e M) = ev := hC; have hZ2 : sm_zs (mm_f M) pg 178 0 0 = zz := Option.some.inj hZ; have hS2 : sm_rs (mm_f M) pg 178 0 0 = rr := Option.some.inj hRs; have hg : sm_good ev rr = (true, (sm_mend ev rr).2) := (if_neg (Nat.pos_iff_ne_zero.mp c110_4)).trans (by rw [← c118_19]); have hrec : sm_rec (mm_e (sm_se (zmk (mm_f M) (mm_w M) (mm_q M) (mm_s M) (mm_k M) (mm_d M) (mm_h M) (mm_x M) (mm_r M) (mm_c M) (mm_a M) (mm_n M) (mm_t M) ev) (sm_mend (ev) rr).2)) = false := (by unfold sm_rec; simp [c170_23, Int32.not_le.mpr c179_25]); have e9 : sm_rd (mm_f M) (mm_e M) pg = (3, mm_e (sm_se (zmk (mm_f M) (mm_w M) (mm_q M) (mm_s M) (mm_k M) (mm_d M) (mm_h M) (mm_x M) (mm_r M) (mm_c M) (mm_a M) (mm_n M) (mm_t M) ev) (sm_mend (ev) rr).2)) := (by unfold sm_rd sm_rd1; rw [hC2, hZ2, hS2, if_neg (Nat.not_le.mpr c100_3), hg]; show ((if _ ∧ _ then (if rr = 0 then 1 else 2) else 3), mm_e (sm_se (zmk (mm_f M) (mm_w M) (mm_q M) (mm_s M) (mm_k M) (mm_d M) (mm_h M) (mm_x M) (mm_r M) (mm_c M) (mm_a M) (mm_n M) (mm_t M) ev) (sm_mend (ev) rr).2)) = _; rw [if_neg (fun z => absurd (z.2.symm.trans hrec) (by decide))]); rw [e9]; exact ⟨rfl, rfl⟩)
                        · skip
                          refine z_aload_n C0 d_M_read_182 rfl 0 rfl ?_
                          refine z_get C0 gf_M_42 0 rfl rfl d_M_read_183 ?_
                          refine z_iconst (v := nI 1) C0 d_M_read_186 (by decide) ?_
                          refine z_iald C0 8 rfl (by omega) (by omega) d_M_read_187 ?_
                          refine z_bipush (v := 15) C0 d_M_read_188 (by decide) ?_
                          refine z_icmp_gt (tgt := 217) C0 d_M_read_190 (by decide) (fun (c190_27 : 15 < ((mm_e (sm_se (zmk (mm_f M) (mm_w M) (mm_q M) (mm_s M) (mm_k M) (mm_d M) (mm_h M) (mm_x M) (mm_r M) (mm_c M) (mm_a M) (mm_n M) (mm_t M) ev) (sm_mend (ev) rr).2)) (1))) => ?_) (fun (c190_27 : ¬ 15 < ((mm_e (sm_se (zmk (mm_f M) (mm_w M) (mm_q M) (mm_s M) (mm_k M) (mm_d M) (mm_h M) (mm_x M) (mm_r M) (mm_c M) (mm_a M) (mm_n M) (mm_t M) ev) (sm_mend (ev) rr).2)) (1))) => ?_)
                          · skip
                            refine z_iconst (v := nI 0) C0 d_M_read_217 (by decide) ?_
                            refine z_istore (lvn := [(0, .ref (y 0)), (1, .int (nI (pg))), (2, .int (nI (zz))), (3, .int (nI (rr))), (4, .int (nI (0))), (5, .int (pchk ((mm_e (sm_se (zmk (mm_f M) (mm_w M) (mm_q M) (mm_s M) (mm_k M) (mm_d M) (mm_h M) (mm_x M) (mm_r M) (mm_c M) (mm_a M) (mm_n M) (mm_t M) ev) (sm_mend (ev) rr).2)) (0)) ((mm_e (sm_se (zmk (mm_f M) (mm_w M) (mm_q M) (mm_s M) (mm_k M) (mm_d M) (mm_h M) (mm_x M) (mm_r M) (mm_c M) (mm_a M) (mm_n M) (mm_t M) ev) (sm_mend (ev) rr).2)) (1)) ((mm_e (sm_se (zmk (mm_f M) (mm_w M) (mm_q M) (mm_s M) (mm_k M) (mm_d M) (mm_h M) (mm_x M) (mm_r M) (mm_c M) (mm_a M) (mm_n M) (mm_t M) ev) (sm_mend (ev) rr).2)) (2)) ((mm_e (sm_se (zmk (mm_f M) (mm_w M) (mm_q M) (mm_s M) (mm_k M) (mm_d M) (mm_h M) (mm_x M) (mm_r M) (mm_c M) (mm_a M) (mm_n M) (mm_t M) ev) (sm_mend (ev) rr).2)) (3))))]) C0 d_M_read_218 (by decide) [1, 2, 3, 4, 0, 5] rfl ?_
                            refine z_aload_n C0 d_M_read_220 rfl 0 rfl ?_
                            refine z_iload C0 d_M_read_221 4 rfl ?_
                            refine z_ifN_ne (tgt := 230) C0 d_M_read_223 (by decide) (by omega) (fun c223_28 => ?_) (fun c223_28 => ?_)
                            · exact absurd c223_28 (by decide)
                            · skip
                              refine z_iconst (v := nI 3) C0 d_M_read_226 (by decide) ?_
                              refine z_gotoK (tgt := 239) C0 d_M_read_227 (by decide) ?_
                              refine z_put C0 gf_M_79 pf_M_16 0 rfl rfl rfl (Nat.le_of_ble_eq_true rfl) d_M_read_239 ?_
                              refine z_ws (wsn := zm_W cI cZ y bc bp (zmk (mm_f (sm_se (zmk (mm_f M) (mm_w M) (mm_q M) (mm_s M) (mm_k M) (mm_d M) (mm_h M) (mm_x M) (mm_r M) (mm_c M) (mm_a M) (mm_n M) (mm_t M) ev) (sm_mend (ev) rr).2)) (mm_w (sm_se (zmk (mm_f M) (mm_w M) (mm_q M) (mm_s M) (mm_k M) (mm_d M) (mm_h M) (mm_x M) (mm_r M) (mm_c M) (mm_a M) (mm_n M) (mm_t M) ev) (sm_mend (ev) rr).2)) (mm_q (sm_se (zmk (mm_f M) (mm_w M) (mm_q M) (mm_s M) (mm_k M) (mm_d M) (mm_h M) (mm_x M) (mm_r M) (mm_c M) (mm_a M) (mm_n M) (mm_t M) ev) (sm_mend (ev) rr).2)) (mm_s (sm_se (zmk (mm_f M) (mm_w M) (mm_q M) (mm_s M) (mm_k M) (mm_d M) (mm_h M) (mm_x M) (mm_r M) (mm_c M) (mm_a M) (mm_n M) (mm_t M) ev) (sm_mend (ev) rr).2)) (mm_k (sm_se (zmk (mm_f M) (mm_w M) (mm_q M) (mm_s M) (mm_k M) (mm_d M) (mm_h M) (mm_x M) (mm_r M) (mm_c M) (mm_a M) (mm_n M) (mm_t M) ev) (sm_mend (ev) rr).2)) (mm_d (sm_se (zmk (mm_f M) (mm_w M) (mm_q M) (mm_s M) (mm_k M) (mm_d M) (mm_h M) (mm_x M) (mm_r M) (mm_c M) (mm_a M) (mm_n M) (mm_t M) ev) (sm_mend (ev) rr).2)) (mm_h (sm_se (zmk (mm_f M) (mm_w M) (mm_q M) (mm_s M) (mm_k M) (mm_d M) (mm_h M) (mm_x M) (mm_r M) (mm_c M) (mm_a M) (mm_n M) (mm_t M) ev) (sm_mend (ev) rr).2)) (mm_x (sm_se (zmk (mm_f M) (mm_w M) (mm_q M) (mm_s M) (mm_k M) (mm_d M) (mm_h M) (mm_x M) (mm_r M) (mm_c M) (mm_a M) (mm_n M) (mm_t M) ev) (sm_mend (ev) rr).2)) (mm_r (sm_se (zmk (mm_f M) (mm_w M) (mm_q M) (mm_s M) (mm_k M) (mm_d M) (mm_h M) (mm_x M) (mm_r M) (mm_c M) (mm_a M) (mm_n M) (mm_t M) ev) (sm_mend (ev) rr).2)) (mm_c (sm_se (zmk (mm_f M) (mm_w M) (mm_q M) (mm_s M) (mm_k M) (mm_d M) (mm_h M) (mm_x M) (mm_r M) (mm_c M) (mm_a M) (mm_n M) (mm_t M) ev) (sm_mend (ev) rr).2)) (mm_a (sm_se (zmk (mm_f M) (mm_w M) (mm_q M) (mm_s M) (mm_k M) (mm_d M) (mm_h M) (mm_x M) (mm_r M) (mm_c M) (mm_a M) (mm_n M) (mm_t M) ev) (sm_mend (ev) rr).2)) (mm_n (sm_se (zmk (mm_f M) (mm_w M) (mm_q M) (mm_s M) (mm_k M) (mm_d M) (mm_h M) (mm_x M) (mm_r M) (mm_c M) (mm_a M) (mm_n M) (mm_t M) ev) (sm_mend (ev) rr).2)) 3 (mm_e (sm_se (zmk (mm_f M) (mm_w M) (mm_q M) (mm_s M) (mm_k M) (mm_d M) (mm_h M) (mm_x M) (mm_r M) (mm_c M) (mm_a M) (mm_n M) (mm_t M) ev) (sm_mend (ev) rr).2)))) rfl ?_
                              exact z_vret C0 hA hQ hr d_M_read_242 (by have hC2 : sm_cps (mm_f M) pg 6 0 (mm_e M) = ev := hC; have hZ2 : sm_zs (mm_f M) pg 178 0 0 = zz := Option.some.inj hZ; have hS2 : sm_rs (mm_f M) pg 178 0 0 = rr := Option.some.inj hRs; have hg : sm_good ev rr = (true, (sm_mend ev rr).2) := (if_neg (Nat.pos_iff_ne_zero.mp c110_4)).trans (by rw [← c118_19]); have hrec : sm_rec (mm_e (sm_se (zmk (mm_f M) (mm_w M) (mm_q M) (mm_s M) (mm_k M) (mm_d M) (mm_h M) (mm_x M) (mm_r M) (mm_c M) (mm_a M) (mm_n M) (mm_t M) ev) (sm_mend (ev) rr).2)) = false := (by unfold sm_rec; simp [c170_23, Int32.not_lt.mp c179_25, Int32.not_le.mpr c190_27]); have e9 : sm_rd (mm_f M) (mm_e M) pg = (3, mm_e (sm_se (zmk (mm_f M) (mm_w M) (mm_q M) (mm_s M) (mm_k M) (mm_d M) (mm_h M) (mm_x M) (mm_r M) (mm_c M) (mm_a M) (mm_n M) (mm_t M) ev) (sm_mend (ev) rr).2)) := (by unfold sm_rd sm_rd1; rw [hC2, hZ2, hS2, if_neg (Nat.not_le.mpr c100_3), hg]; show ((if _ ∧ _ then (if rr = 0 then 1 else 2) else 3), mm_e (sm_se (zmk (mm_f M) (mm_w M) (mm_q M) (mm_s M) (mm_k M) (mm_d M) (mm_h M) (mm_x M) (mm_r M) (mm_c M) (mm_a M) (mm_n M) (mm_t M) ev) (sm_mend (ev) rr).2)) = _; rw [if_neg (fun z => absurd (z.2.symm.trans hrec) (by decide))]); rw [e9]; exact ⟨rfl, rfl⟩)
                          · skip
                            refine z_aload_n C0 d_M_read_193 rfl 0 rfl ?_
                            refine z_get C0 gf_M_42 0 rfl rfl d_M_read_194 ?_
                            refine z_iconst (v := nI 3) C0 d_M_read_197 (by decide) ?_
                            refine z_iald C0 8 rfl (by omega) (by omega) d_M_read_198 ?_
                            refine z_iconst (v := nI 1) C0 d_M_read_199 (by decide) ?_
                            refine z_topi (x := nI 1) (xn := 1) (by decide) ?_
                            refine z_icmp_eq (tgt := 213) C0 d_M_read_200 (by decide) (fun (c200_29 : ((mm_e (sm_se (zmk (mm_f M) (mm_w M) (mm_q M) (mm_s M) (mm_k M) (mm_d M) (mm_h M) (mm_x M) (mm_r M) (mm_c M) (mm_a M) (mm_n M) (mm_t M) ev) (sm_mend (ev) rr).2)) (3)) = 1) => ?_) (fun (c200_29 : ¬ ((mm_e (sm_se (zmk (mm_f M) (mm_w M) (mm_q M) (mm_s M) (mm_k M) (mm_d M) (mm_h M) (mm_x M) (mm_r M) (mm_c M) (mm_a M) (mm_n M) (mm_t M) ev) (sm_mend (ev) rr).2)) (3)) = 1) => ?_)
                            · skip
                              refine z_iconst (v := nI 1) C0 d_M_read_213 (by decide) ?_
                              refine z_gotoK (tgt := 218) C0 d_M_read_214 (by decide) ?_
                              refine z_istore (lvn := [(0, .ref (y 0)), (1, .int (nI (pg))), (2, .int (nI (zz))), (3, .int (nI (rr))), (4, .int (nI (1))), (5, .int (pchk ((mm_e (sm_se (zmk (mm_f M) (mm_w M) (mm_q M) (mm_s M) (mm_k M) (mm_d M) (mm_h M) (mm_x M) (mm_r M) (mm_c M) (mm_a M) (mm_n M) (mm_t M) ev) (sm_mend (ev) rr).2)) (0)) ((mm_e (sm_se (zmk (mm_f M) (mm_w M) (mm_q M) (mm_s M) (mm_k M) (mm_d M) (mm_h M) (mm_x M) (mm_r M) (mm_c M) (mm_a M) (mm_n M) (mm_t M) ev) (sm_mend (ev) rr).2)) (1)) ((mm_e (sm_se (zmk (mm_f M) (mm_w M) (mm_q M) (mm_s M) (mm_k M) (mm_d M) (mm_h M) (mm_x M) (mm_r M) (mm_c M) (mm_a M) (mm_n M) (mm_t M) ev) (sm_mend (ev) rr).2)) (2)) ((mm_e (sm_se (zmk (mm_f M) (mm_w M) (mm_q M) (mm_s M) (mm_k M) (mm_d M) (mm_h M) (mm_x M) (mm_r M) (mm_c M) (mm_a M) (mm_n M) (mm_t M) ev) (sm_mend (ev) rr).2)) (3))))]) C0 d_M_read_218 (by decide) [1, 2, 3, 4, 0, 5] rfl ?_
                              refine z_aload_n C0 d_M_read_220 rfl 0 rfl ?_
                              refine z_iload C0 d_M_read_221 4 rfl ?_
                              refine z_ifN_ne (tgt := 230) C0 d_M_read_223 (by decide) (by omega) (fun c223_30 => ?_) (fun c223_30 => ?_)
                              · skip
                                refine z_iload_n C0 d_M_read_230 rfl 3 rfl ?_
                                refine z_ifN_ne (tgt := 238) C0 d_M_read_231 (by decide) (by omega) (fun c231_31 => ?_) (fun c231_31 => ?_)
                                · skip
                                  refine z_iconst (v := nI 2) C0 d_M_read_238 (by decide) ?_
                                  refine z_put C0 gf_M_79 pf_M_16 0 rfl rfl rfl (Nat.le_of_ble_eq_true rfl) d_M_read_239 ?_
                                  refine z_ws (wsn := zm_W cI cZ y bc bp (zmk (mm_f (sm_se (zmk (mm_f M) (mm_w M) (mm_q M) (mm_s M) (mm_k M) (mm_d M) (mm_h M) (mm_x M) (mm_r M) (mm_c M) (mm_a M) (mm_n M) (mm_t M) ev) (sm_mend (ev) rr).2)) (mm_w (sm_se (zmk (mm_f M) (mm_w M) (mm_q M) (mm_s M) (mm_k M) (mm_d M) (mm_h M) (mm_x M) (mm_r M) (mm_c M) (mm_a M) (mm_n M) (mm_t M) ev) (sm_mend (ev) rr).2)) (mm_q (sm_se (zmk (mm_f M) (mm_w M) (mm_q M) (mm_s M) (mm_k M) (mm_d M) (mm_h M) (mm_x M) (mm_r M) (mm_c M) (mm_a M) (mm_n M) (mm_t M) ev) (sm_mend (ev) rr).2)) (mm_s (sm_se (zmk (mm_f M) (mm_w M) (mm_q M) (mm_s M) (mm_k M) (mm_d M) (mm_h M) (mm_x M) (mm_r M) (mm_c M) (mm_a M) (mm_n M) (mm_t M) ev) (sm_mend (ev) rr).2)) (mm_k (sm_se (zmk (mm_f M) (mm_w M) (mm_q M) (mm_s M) (mm_k M) (mm_d M) (mm_h M) (mm_x M) (mm_r M) (mm_c M) (mm_a M) (mm_n M) (mm_t M) ev) (sm_mend (ev) rr).2)) (mm_d (sm_se (zmk (mm_f M) (mm_w M) (mm_q M) (mm_s M) (mm_k M) (mm_d M) (mm_h M) (mm_x M) (mm_r M) (mm_c M) (mm_a M) (mm_n M) (mm_t M) ev) (sm_mend (ev) rr).2)) (mm_h (sm_se (zmk (mm_f M) (mm_w M) (mm_q M) (mm_s M) (mm_k M) (mm_d M) (mm_h M) (mm_x M) (mm_r M) (mm_c M) (mm_a M) (mm_n M) (mm_t M) ev) (sm_mend (ev) rr).2)) (mm_x (sm_se (zmk (mm_f M) (mm_w M) (mm_q M) (mm_s M) (mm_k M) (mm_d M) (mm_h M) (mm_x M) (mm_r M) (mm_c M) (mm_a M) (mm_n M) (mm_t M) ev) (sm_mend (ev) rr).2)) (mm_r (sm_se (zmk (mm_f M) (mm_w M) (mm_q M) (mm_s M) (mm_k M) (mm_d M) (mm_h M) (mm_x M) (mm_r M) (mm_c M) (mm_a M) (mm_n M) (mm_t M) ev) (sm_mend (ev) rr).2)) (mm_c (sm_se (zmk (mm_f M) (mm_w M) (mm_q M) (mm_s M) (mm_k M) (mm_d M) (mm_h M) (mm_x M) (mm_r M) (mm_c M) (mm_a M) (mm_n M) (mm_t M) ev) (sm_mend (ev) rr).2)) (mm_a (sm_se (zmk (mm_f M) (mm_w M) (mm_q M) (mm_s M) (mm_k M) (mm_d M) (mm_h M) (mm_x M) (mm_r M) (mm_c M) (mm_a M) (mm_n M) (mm_t M) ev) (sm_mend (ev) rr).2)) (mm_n (sm_se (zmk (mm_f M) (mm_w M) (mm_q M) (mm_s M) (mm_k M) (mm_d M) (mm_h M) (mm_x M) (mm_r M) (mm_c M) (mm_a M) (mm_n M) (mm_t M) ev) (sm_mend (ev) rr).2)) 2 (mm_e (sm_se (zmk (mm_f M) (mm_w M) (mm_q M) (mm_s M) (mm_k M) (mm_d M) (mm_h M) (mm_x M) (mm_r M) (mm_c M) (mm_a M) (mm_n M) (mm_t M) ev) (sm_mend (ev) rr).2)))) rfl ?_
                                  exact z_vret C0 hA hQ hr d_M_read_242 (by have hC2 : sm_cps (mm_f M) pg 6 0 (mm_e M) = ev := hC; have hZ2 : sm_zs (mm_f M) pg 178 0 0 = zz := Option.some.inj hZ; have hS2 : sm_rs (mm_f M) pg 178 0 0 = rr := Option.some.inj hRs; have hg : sm_good ev rr = (true, (sm_mend ev rr).2) := (if_neg (Nat.pos_iff_ne_zero.mp c110_4)).trans (by rw [← c118_19]); have hrec : sm_rec (mm_e (sm_se (zmk (mm_f M) (mm_w M) (mm_q M) (mm_s M) (mm_k M) (mm_d M) (mm_h M) (mm_x M) (mm_r M) (mm_c M) (mm_a M) (mm_n M) (mm_t M) ev) (sm_mend (ev) rr).2)) = true := (by unfold sm_rec; simp [c170_23, Int32.not_lt.mp c179_25, Int32.not_lt.mp c190_27, c200_29]); have e9 : sm_rd (mm_f M) (mm_e M) pg = (2, mm_e (sm_se (zmk (mm_f M) (mm_w M) (mm_q M) (mm_s M) (mm_k M) (mm_d M) (mm_h M) (mm_x M) (mm_r M) (mm_c M) (mm_a M) (mm_n M) (mm_t M) ev) (sm_mend (ev) rr).2)) := (by unfold sm_rd sm_rd1; rw [hC2, hZ2, hS2, if_neg (Nat.not_le.mpr c100_3), hg]; show ((if _ ∧ _ then (if rr = 0 then 1 else 2) else 3), mm_e (sm_se (zmk (mm_f M) (mm_w M) (mm_q M) (mm_s M) (mm_k M) (mm_d M) (mm_h M) (mm_x M) (mm_r M) (mm_c M) (mm_a M) (mm_n M) (mm_t M) ev) (sm_mend (ev) rr).2)) = _; rw [if_pos ⟨rfl, hrec⟩, if_neg (Nat.pos_iff_ne_zero.mp c110_4)]); rw [e9]; exact ⟨rfl, rfl⟩)
                                · exact absurd c231_31 (Nat.pos_iff_ne_zero.mp c110_4)
                              · exact absurd c223_30 (by decide)
                            · skip
                              refine z_aload_n C0 d_M_read_203 rfl 0 rfl ?_
                              refine z_get C0 gf_M_42 0 rfl rfl d_M_read_204 ?_
                              refine z_iconst (v := nI 3) C0 d_M_read_207 (by decide) ?_
                              refine z_iald C0 8 rfl (by omega) (by omega) d_M_read_208 ?_
                              refine z_iconst (v := nI 2) C0 d_M_read_209 (by decide) ?_
                              refine z_topi (x := nI 2) (xn := 2) (by decide) ?_
                              refine z_icmp_ne (tgt := 217) C0 d_M_read_210 (by decide) (fun (c210_32 : ¬ ((mm_e (sm_se (zmk (mm_f M) (mm_w M) (mm_q M) (mm_s M) (mm_k M) (mm_d M) (mm_h M) (mm_x M) (mm_r M) (mm_c M) (mm_a M) (mm_n M) (mm_t M) ev) (sm_mend (ev) rr).2)) (3)) = 2) => ?_) (fun (c210_32 : ((mm_e (sm_se (zmk (mm_f M) (mm_w M) (mm_q M) (mm_s M) (mm_k M) (mm_d M) (mm_h M) (mm_x M) (mm_r M) (mm_c M) (mm_a M) (mm_n M) (mm_t M) ev) (sm_mend (ev) rr).2)) (3)) = 2) => ?_)
                              · skip
                                refine z_iconst (v := nI 0) C0 d_M_read_217 (by decide) ?_
                                refine z_istore (lvn := [(0, .ref (y 0)), (1, .int (nI (pg))), (2, .int (nI (zz))), (3, .int (nI (rr))), (4, .int (nI (0))), (5, .int (pchk ((mm_e (sm_se (zmk (mm_f M) (mm_w M) (mm_q M) (mm_s M) (mm_k M) (mm_d M) (mm_h M) (mm_x M) (mm_r M) (mm_c M) (mm_a M) (mm_n M) (mm_t M) ev) (sm_mend (ev) rr).2)) (0)) ((mm_e (sm_se (zmk (mm_f M) (mm_w M) (mm_q M) (mm_s M) (mm_k M) (mm_d M) (mm_h M) (mm_x M) (mm_r M) (mm_c M) (mm_a M) (mm_n M) (mm_t M) ev) (sm_mend (ev) rr).2)) (1)) ((mm_e (sm_se (zmk (mm_f M) (mm_w M) (mm_q M) (mm_s M) (mm_k M) (mm_d M) (mm_h M) (mm_x M) (mm_r M) (mm_c M) (mm_a M) (mm_n M) (mm_t M) ev) (sm_mend (ev) rr).2)) (2)) ((mm_e (sm_se (zmk (mm_f M) (mm_w M) (mm_q M) (mm_s M) (mm_k M) (mm_d M) (mm_h M) (mm_x M) (mm_r M) (mm_c M) (mm_a M) (mm_n M) (mm_t M) ev) (sm_mend (ev) rr).2)) (3))))]) C0 d_M_read_218 (by decide) [1, 2, 3, 4, 0, 5] rfl ?_
                                refine z_aload_n C0 d_M_read_220 rfl 0 rfl ?_
                                refine z_iload C0 d_M_read_221 4 rfl ?_
                                refine z_ifN_ne (tgt := 230) C0 d_M_read_223 (by decide) (by omega) (fun c223_33 => ?_) (fun c223_33 => ?_)
                                · exact absurd c223_33 (by decide)
                                · skip
                                  refine z_iconst (v := nI 3) C0 d_M_read_226 (by decide) ?_
                                  refine z_gotoK (tgt := 239) C0 d_M_read_227 (by decide) ?_
                                  refine z_put C0 gf_M_79 pf_M_16 0 rfl rfl rfl (Nat.le_of_ble_eq_true rfl) d_M_read_239 ?_
                                  refine z_ws (wsn := zm_W cI cZ y bc bp (zmk (mm_f (sm_se (zmk (mm_f M) (mm_w M) (mm_q M) (mm_s M) (mm_k M) (mm_d M) (mm_h M) (mm_x M) (mm_r M) (mm_c M) (mm_a M) (mm_n M) (mm_t M) ev) (sm_mend (ev) rr).2)) (mm_w (sm_se (zmk (mm_f M) (mm_w M) (mm_q M) (mm_s M) (mm_k M) (mm_d M) (mm_h M) (mm_x M) (mm_r M) (mm_c M) (mm_a M) (mm_n M) (mm_t M) ev) (sm_mend (ev) rr).2)) (mm_q (sm_se (zmk (mm_f M) (mm_w M) (mm_q M) (mm_s M) (mm_k M) (mm_d M) (mm_h M) (mm_x M) (mm_r M) (mm_c M) (mm_a M) (mm_n M) (mm_t M) ev) (sm_mend (ev) rr).2)) (mm_s (sm_se (zmk (mm_f M) (mm_w M) (mm_q M) (mm_s M) (mm_k M) (mm_d M) (mm_h M) (mm_x M) (mm_r M) (mm_c M) (mm_a M) (mm_n M) (mm_t M) ev) (sm_mend (ev) rr).2)) (mm_k (sm_se (zmk (mm_f M) (mm_w M) (mm_q M) (mm_s M) (mm_k M) (mm_d M) (mm_h M) (mm_x M) (mm_r M) (mm_c M) (mm_a M) (mm_n M) (mm_t M) ev) (sm_mend (ev) rr).2)) (mm_d (sm_se (zmk (mm_f M) (mm_w M) (mm_q M) (mm_s M) (mm_k M) (mm_d M) (mm_h M) (mm_x M) (mm_r M) (mm_c M) (mm_a M) (mm_n M) (mm_t M) ev) (sm_mend (ev) rr).2)) (mm_h (sm_se (zmk (mm_f M) (mm_w M) (mm_q M) (mm_s M) (mm_k M) (mm_d M) (mm_h M) (mm_x M) (mm_r M) (mm_c M) (mm_a M) (mm_n M) (mm_t M) ev) (sm_mend (ev) rr).2)) (mm_x (sm_se (zmk (mm_f M) (mm_w M) (mm_q M) (mm_s M) (mm_k M) (mm_d M) (mm_h M) (mm_x M) (mm_r M) (mm_c M) (mm_a M) (mm_n M) (mm_t M) ev) (sm_mend (ev) rr).2)) (mm_r (sm_se (zmk (mm_f M) (mm_w M) (mm_q M) (mm_s M) (mm_k M) (mm_d M) (mm_h M) (mm_x M) (mm_r M) (mm_c M) (mm_a M) (mm_n M) (mm_t M) ev) (sm_mend (ev) rr).2)) (mm_c (sm_se (zmk (mm_f M) (mm_w M) (mm_q M) (mm_s M) (mm_k M) (mm_d M) (mm_h M) (mm_x M) (mm_r M) (mm_c M) (mm_a M) (mm_n M) (mm_t M) ev) (sm_mend (ev) rr).2)) (mm_a (sm_se (zmk (mm_f M) (mm_w M) (mm_q M) (mm_s M) (mm_k M) (mm_d M) (mm_h M) (mm_x M) (mm_r M) (mm_c M) (mm_a M) (mm_n M) (mm_t M) ev) (sm_mend (ev) rr).2)) (mm_n (sm_se (zmk (mm_f M) (mm_w M) (mm_q M) (mm_s M) (mm_k M) (mm_d M) (mm_h M) (mm_x M) (mm_r M) (mm_c M) (mm_a M) (mm_n M) (mm_t M) ev) (sm_mend (ev) rr).2)) 3 (mm_e (sm_se (zmk (mm_f M) (mm_w M) (mm_q M) (mm_s M) (mm_k M) (mm_d M) (mm_h M) (mm_x M) (mm_r M) (mm_c M) (mm_a M) (mm_n M) (mm_t M) ev) (sm_mend (ev) rr).2)))) rfl ?_
                                  exact z_vret C0 hA hQ hr d_M_read_242 (by have hC2 : sm_cps (mm_f M) pg 6 0 (mm_e M) = ev := hC; have hZ2 : sm_zs (mm_f M) pg 178 0 0 = zz := Option.some.inj hZ; have hS2 : sm_rs (mm_f M) pg 178 0 0 = rr := Option.some.inj hRs; have hg : sm_good ev rr = (true, (sm_mend ev rr).2) := (if_neg (Nat.pos_iff_ne_zero.mp c110_4)).trans (by rw [← c118_19]); have hrec : sm_rec (mm_e (sm_se (zmk (mm_f M) (mm_w M) (mm_q M) (mm_s M) (mm_k M) (mm_d M) (mm_h M) (mm_x M) (mm_r M) (mm_c M) (mm_a M) (mm_n M) (mm_t M) ev) (sm_mend (ev) rr).2)) = false := (by unfold sm_rec; simp [c170_23, Int32.not_lt.mp c179_25, Int32.not_lt.mp c190_27, c200_29, c210_32]); have e9 : sm_rd (mm_f M) (mm_e M) pg = (3, mm_e (sm_se (zmk (mm_f M) (mm_w M) (mm_q M) (mm_s M) (mm_k M) (mm_d M) (mm_h M) (mm_x M) (mm_r M) (mm_c M) (mm_a M) (mm_n M) (mm_t M) ev) (sm_mend (ev) rr).2)) := (by unfold sm_rd sm_rd1; rw [hC2, hZ2, hS2, if_neg (Nat.not_le.mpr c100_3), hg]; show ((if _ ∧ _ then (if rr = 0 then 1 else 2) else 3), mm_e (sm_se (zmk (mm_f M) (mm_w M) (mm_q M) (mm_s M) (mm_k M) (mm_d M) (mm_h M) (mm_x M) (mm_r M) (mm_c M) (mm_a M) (mm_n M) (mm_t M) ev) (sm_mend (ev) rr).2)) = _; rw [if_neg (fun z => absurd (z.2.symm.trans hrec) (by decide))]); rw [e9]; exact ⟨rfl, rfl⟩)
                              · skip
                                refine z_iconst (v := nI 1) C0 d_M_read_213 (by decide) ?_
                                refine z_gotoK (tgt := 218) C0 d_M_read_214 (by decide) ?_
                                refine z_istore (lvn := [(0, .ref (y 0)), (1, .int (nI (pg))), (2, .int (nI (zz))), (3, .int (nI (rr))), (4, .int (nI (1))), (5, .int (pchk ((mm_e (sm_se (zmk (mm_f M) (mm_w M) (mm_q M) (mm_s M) (mm_k M) (mm_d M) (mm_h M) (mm_x M) (mm_r M) (mm_c M) (mm_a M) (mm_n M) (mm_t M) ev) (sm_mend (ev) rr).2)) (0)) ((mm_e (sm_se (zmk (mm_f M) (mm_w M) (mm_q M) (mm_s M) (mm_k M) (mm_d M) (mm_h M) (mm_x M) (mm_r M) (mm_c M) (mm_a M) (mm_n M) (mm_t M) ev) (sm_mend (ev) rr).2)) (1)) ((mm_e (sm_se (zmk (mm_f M) (mm_w M) (mm_q M) (mm_s M) (mm_k M) (mm_d M) (mm_h M) (mm_x M) (mm_r M) (mm_c M) (mm_a M) (mm_n M) (mm_t M) ev) (sm_mend (ev) rr).2)) (2)) ((mm_e (sm_se (zmk (mm_f M) (mm_w M) (mm_q M) (mm_s M) (mm_k M) (mm_d M) (mm_h M) (mm_x M) (mm_r M) (mm_c M) (mm_a M) (mm_n M) (mm_t M) ev) (sm_mend (ev) rr).2)) (3))))]) C0 d_M_read_218 (by decide) [1, 2, 3, 4, 0, 5] rfl ?_
                                refine z_aload_n C0 d_M_read_220 rfl 0 rfl ?_
                                refine z_iload C0 d_M_read_221 4 rfl ?_
                                refine z_ifN_ne (tgt := 230) C0 d_M_read_223 (by decide) (by omega) (fun c223_34 => ?_) (fun c223_34 => ?_)
                                · skip
                                  refine z_iload_n C0 d_M_read_230 rfl 3 rfl ?_
                                  refine z_ifN_ne (tgt := 238) C0 d_M_read_231 (by decide) (by omega) (fun c231_35 => ?_) (fun c231_35 => ?_)
                                  · skip
                                    refine z_iconst (v := nI 2) C0 d_M_read_238 (by decide) ?_
                                    refine z_put C0 gf_M_79 pf_M_16 0 rfl rfl rfl (Nat.le_of_ble_eq_true rfl) d_M_read_239 ?_
                                    refine z_ws (wsn := zm_W cI cZ y bc bp (zmk (mm_f (sm_se (zmk (mm_f M) (mm_w M) (mm_q M) (mm_s M) (mm_k M) (mm_d M) (mm_h M) (mm_x M) (mm_r M) (mm_c M) (mm_a M) (mm_n M) (mm_t M) ev) (sm_mend (ev) rr).2)) (mm_w (sm_se (zmk (mm_f M) (mm_w M) (mm_q M) (mm_s M) (mm_k M) (mm_d M) (mm_h M) (mm_x M) (mm_r M) (mm_c M) (mm_a M) (mm_n M) (mm_t M) ev) (sm_mend (ev) rr).2)) (mm_q (sm_se (zmk (mm_f M) (mm_w M) (mm_q M) (mm_s M) (mm_k M) (mm_d M) (mm_h M) (mm_x M) (mm_r M) (mm_c M) (mm_a M) (mm_n M) (mm_t M) ev) (sm_mend (ev) rr).2)) (mm_s (sm_se (zmk (mm_f M) (mm_w M) (mm_q M) (mm_s M) (mm_k M) (mm_d M) (mm_h M) (mm_x M) (mm_r M) (mm_c M) (mm_a M) (mm_n M) (mm_t M) ev) (sm_mend (ev) rr).2)) (mm_k (sm_se (zmk (mm_f M) (mm_w M) (mm_q M) (mm_s M) (mm_k M) (mm_d M) (mm_h M) (mm_x M) (mm_r M) (mm_c M) (mm_a M) (mm_n M) (mm_t M) ev) (sm_mend (ev) rr).2)) (mm_d (sm_se (zmk (mm_f M) (mm_w M) (mm_q M) (mm_s M) (mm_k M) (mm_d M) (mm_h M) (mm_x M) (mm_r M) (mm_c M) (mm_a M) (mm_n M) (mm_t M) ev) (sm_mend (ev) rr).2)) (mm_h (sm_se (zmk (mm_f M) (mm_w M) (mm_q M) (mm_s M) (mm_k M) (mm_d M) (mm_h M) (mm_x M) (mm_r M) (mm_c M) (mm_a M) (mm_n M) (mm_t M) ev) (sm_mend (ev) rr).2)) (mm_x (sm_se (zmk (mm_f M) (mm_w M) (mm_q M) (mm_s M) (mm_k M) (mm_d M) (mm_h M) (mm_x M) (mm_r M) (mm_c M) (mm_a M) (mm_n M) (mm_t M) ev) (sm_mend (ev) rr).2)) (mm_r (sm_se (zmk (mm_f M) (mm_w M) (mm_q M) (mm_s M) (mm_k M) (mm_d M) (mm_h M) (mm_x M) (mm_r M) (mm_c M) (mm_a M) (mm_n M) (mm_t M) ev) (sm_mend (ev) rr).2)) (mm_c (sm_se (zmk (mm_f M) (mm_w M) (mm_q M) (mm_s M) (mm_k M) (mm_d M) (mm_h M) (mm_x M) (mm_r M) (mm_c M) (mm_a M) (mm_n M) (mm_t M) ev) (sm_mend (ev) rr).2)) (mm_a (sm_se (zmk (mm_f M) (mm_w M) (mm_q M) (mm_s M) (mm_k M) (mm_d M) (mm_h M) (mm_x M) (mm_r M) (mm_c M) (mm_a M) (mm_n M) (mm_t M) ev) (sm_mend (ev) rr).2)) (mm_n (sm_se (zmk (mm_f M) (mm_w M) (mm_q M) (mm_s M) (mm_k M) (mm_d M) (mm_h M) (mm_x M) (mm_r M) (mm_c M) (mm_a M) (mm_n M) (mm_t M) ev) (sm_mend (ev) rr).2)) 2 (mm_e (sm_se (zmk (mm_f M) (mm_w M) (mm_q M) (mm_s M) (mm_k M) (mm_d M) (mm_h M) (mm_x M) (mm_r M) (mm_c M) (mm_a M) (mm_n M) (mm_t M) ev) (sm_mend (ev) rr).2)))) rfl ?_
                                    exact z_vret C0 hA hQ hr d_M_read_242 (by have hC2 : sm_cps (mm_f M) pg 6 0 (mm_e M) = ev := hC; have hZ2 : sm_zs (mm_f M) pg 178 0 0 = zz := Option.some.inj hZ; have hS2 : sm_rs (mm_f M) pg 178 0 0 = rr := Option.some.inj hRs; have hg : sm_good ev rr = (true, (sm_mend ev rr).2) := (if_neg (Nat.pos_iff_ne_zero.mp c110_4)).trans (by rw [← c118_19]); have hrec : sm_rec (mm_e (sm_se (zmk (mm_f M) (mm_w M) (mm_q M) (mm_s M) (mm_k M) (mm_d M) (mm_h M) (mm_x M) (mm_r M) (mm_c M) (mm_a M) (mm_n M) (mm_t M) ev) (sm_mend (ev) rr).2)) = true := (by unfold sm_rec; simp [c170_23, Int32.not_lt.mp c179_25, Int32.not_lt.mp c190_27, c200_29, c210_32]); have e9 : sm_rd (mm_f M) (mm_e M) pg = (2, mm_e (sm_se (zmk (mm_f M) (mm_w M) (mm_q M) (mm_s M) (mm_k M) (mm_d M) (mm_h M) (mm_x M) (mm_r M) (mm_c M) (mm_a M) (mm_n M) (mm_t M) ev) (sm_mend (ev) rr).2)) := (by unfold sm_rd sm_rd1; rw [hC2, hZ2, hS2, if_neg (Nat.not_le.mpr c100_3), hg]; show ((if _ ∧ _ then (if rr = 0 then 1 else 2) else 3), mm_e (sm_se (zmk (mm_f M) (mm_w M) (mm_q M) (mm_s M) (mm_k M) (mm_d M) (mm_h M) (mm_x M) (mm_r M) (mm_c M) (mm_a M) (mm_n M) (mm_t M) ev) (sm_mend (ev) rr).2)) = _; rw [if_pos ⟨rfl, hrec⟩, if_neg (Nat.pos_iff_ne_zero.mp c110_4)]); rw [e9]; exact ⟨rfl, rfl⟩)
                                  · exact absurd c231_35 (Nat.pos_iff_ne_zero.mp c110_4)
                                · exact absurd c223_34 (by decide)
              · skip
                refine z_aload_n C0 d_M_read_103 rfl 0 rfl ?_
                refine z_iconst (v := nI 0) C0 d_M_read_104 (by decide) ?_
                refine z_put C0 gf_M_79 pf_M_16 0 rfl rfl rfl (Nat.le_of_ble_eq_true rfl) d_M_read_105 ?_
                refine z_ws (wsn := zm_W cI cZ y bc bp (zmk (mm_f M) (mm_w M) (mm_q M) (mm_s M) (mm_k M) (mm_d M) (mm_h M) (mm_x M) (mm_r M) (mm_c M) (mm_a M) (mm_n M) 0 ev)) rfl ?_
                exact z_vret C0 hA hQ hr d_M_read_108 (by have hC2 : sm_cps (mm_f M) pg 6 0 (mm_e M) = ev := hC; have hZ2 : sm_zs (mm_f M) pg 178 0 0 = zz := Option.some.inj hZ; have hS2 : sm_rs (mm_f M) pg 178 0 0 = rr := Option.some.inj hRs; have e9 : sm_rd (mm_f M) (mm_e M) pg = (0, ev) := (by unfold sm_rd sm_rd1; rw [hC2, hZ2]; exact if_pos c100_3); rw [e9]; exact ⟨rfl, rfl⟩)
            · exact absurd c70_2 (by omega)
          | succ n ih =>
            intro k ev hik hC
            refine z_iload C0 d_M_read_66 4 rfl ?_
            refine z_bipush (v := nI 6) C0 d_M_read_68 (by decide) ?_
            refine z_icmpN_ge (tgt := 98) C0 d_M_read_70 (by decide) (by omega) (by omega) (fun (c70_36 : 6 ≤ k) => ?_) (fun (c70_36 : k < 6) => ?_)
            · exact absurd c70_36 (by omega)
            · skip
              refine z_aload_n C0 d_M_read_73 rfl 0 rfl ?_
              refine z_get C0 gf_M_42 0 rfl rfl d_M_read_74 ?_
              refine z_iload C0 d_M_read_77 4 rfl ?_
              refine z_aload_n C0 d_M_read_79 rfl 0 rfl ?_
              refine z_get C0 gf_M_7 0 rfl rfl d_M_read_80 ?_
              refine z_bipush (v := nI 6) C0 d_M_read_83 (by decide) ?_
              refine z_iload_n C0 d_M_read_85 rfl 1 rfl ?_
              refine z_imulN C0 d_M_read_86 ?_
              refine z_iload C0 d_M_read_87 4 rfl ?_
              refine z_iaddN C0 d_M_read_89 ?_
              refine z_iald C0 1 rfl (by omega) (by omega) d_M_read_90 ?_
              refine z_iast C0 8 rfl (by omega) (by omega) d_M_read_91 ?_
              refine z_iincN (q := 4) (lvn := [(0, .ref (y 0)), (1, .int (nI (pg))), (2, .int (nI (zz))), (3, .int (nI (rr))), (4, .int (nI (k + 1)))]) C0 d_M_read_92 rfl (by decide) [1, 2, 3, 4, 0] rfl ?_
              refine z_gotoK (tgt := 66) C0 d_M_read_95 (by decide) ?_
              refine z_ws (wsn := zm_W cI cZ y bc bp (zmk (mm_f M) (mm_w M) (mm_q M) (mm_s M) (mm_k M) (mm_d M) (mm_h M) (mm_x M) (mm_r M) (mm_c M) (mm_a M) (mm_n M) (mm_t M) (upd ev (k) ((mm_f M) (6 * pg + k))))) rfl ?_
              exact ih (k + 1) (upd ev (k) ((mm_f M) (6 * pg + k))) (by omega) (by rw [hC]; rfl)
        exact lk (6) (0) (mm_e M) (by omega) (rfl)
      · exact absurd c12_1 (by omega)
    | succ n ih =>
      intro i zz rr hi hz1 hr1 hZ hRs
      refine z_iload C0 d_M_read_7 4 rfl ?_
      refine z_sipush (v := nI 178) C0 d_M_read_9 (by decide) ?_
      refine z_icmpN_ge (tgt := 63) C0 d_M_read_12 (by decide) (by omega) (by omega) (fun (c12_37 : 178 ≤ i) => ?_) (fun (c12_37 : i < 178) => ?_)
      · exact absurd c12_37 (by omega)
      · skip
        refine z_aload_n C0 d_M_read_15 rfl 0 rfl ?_
        refine z_iload_n C0 d_M_read_16 rfl 1 rfl ?_
        refine z_iload C0 d_M_read_17 4 rfl ?_
        refine z_allV (As := [.int (nI (pg)), .int (nI (i))]) (rest := []) C0 (c_M_bitOf l D cI cZ y bc bp M hB0 (pg) (i) (hp) (by omega)) mt_M_bitOf ml_M_75 vt_M_bitOf rfl rfl ⟨Nat.le_of_ble_eq_true rfl, Nat.le_of_ble_eq_true rfl⟩ ⟨rfl, rfl⟩ ⟨Nat.zero_le _, Nat.zero_le _⟩ rfl rfl (Nat.le_of_ble_eq_true rfl) d_M_read_19 ?_
        refine z_st (stn := [.int (bI (sm_bit (mm_f M) pg i))]) rfl ?_
        refine z_istore (lvn := [(0, .ref (y 0)), (1, .int (nI (pg))), (2, .int (nI (zz))), (3, .int (nI (rr))), (4, .int (nI (i))), (5, .int (bI (sm_bit (mm_f M) pg i)))]) C0 d_M_read_22 (by decide) [1, 2, 3, 4, 5, 0] rfl ?_
        refine z_iload C0 d_M_read_24 5 rfl ?_
        refine z_ifB_ne (tgt := 35) C0 d_M_read_26 (by decide) (fun (c26_38 : sm_bit (mm_f M) pg i = true) => ?_) (fun (c26_38 : sm_bit (mm_f M) pg i = false) => ?_)
        · skip
          refine z_iload_n C0 d_M_read_35 rfl 2 rfl ?_
          refine z_istore_n (lvn := [(0, .ref (y 0)), (1, .int (nI (pg))), (2, .int (nI (zz))), (3, .int (nI (rr))), (4, .int (nI (i))), (5, .int (bI (sm_bit (mm_f M) pg i)))]) C0 d_M_read_36 rfl (by decide) [1, 2, 0, 3, 4, 5] rfl ?_
          refine z_iload C0 d_M_read_37 5 rfl ?_
          refine z_iconst (v := nI 1) C0 d_M_read_39 (by decide) ?_
          refine z_topi (x := nI 1) (xn := bI true) (by decide) ?_
          refine z_icmpB_ne (tgt := 55) C0 d_M_read_40 (by decide) (fun (c40_39 : ¬ sm_bit (mm_f M) pg i = true) => ?_) (fun (c40_39 : sm_bit (mm_f M) pg i = true) => ?_)
          · exact absurd c26_38 c40_39
          · skip
            refine z_iload_n C0 d_M_read_43 rfl 3 rfl ?_
            refine z_aload_n C0 d_M_read_44 rfl 0 rfl ?_
            refine z_get C0 gf_M_13 0 rfl rfl d_M_read_45 ?_
            refine z_iload C0 d_M_read_48 4 rfl ?_
            refine z_iald C0 2 rfl (by omega) (by omega) d_M_read_50 ?_
            refine z_top (vn := .int (nI (kt i))) (rfl) ?_
            refine z_ixor C0 d_M_read_51 ?_
            refine z_top (vn := .int (nI (rr ^^^ kt i))) (by rw [nx_xor]) ?_
            refine z_gotoK (tgt := 56) C0 d_M_read_52 (by decide) ?_
            refine z_istore_n (lvn := [(0, .ref (y 0)), (1, .int (nI (pg))), (2, .int (nI (zz))), (3, .int (nI (rr ^^^ kt i))), (4, .int (nI (i))), (5, .int (bI (sm_bit (mm_f M) pg i)))]) C0 d_M_read_56 rfl (by decide) [1, 2, 3, 0, 4, 5] rfl ?_
            refine z_iincN (q := 4) (lvn := [(0, .ref (y 0)), (1, .int (nI (pg))), (2, .int (nI (zz))), (3, .int (nI (rr ^^^ kt i))), (4, .int (nI (i + 1))), (5, .int (bI (sm_bit (mm_f M) pg i)))]) C0 d_M_read_57 rfl (by decide) [1, 2, 3, 4, 0, 5] rfl ?_
            refine z_gotoK (tgt := 7) C0 d_M_read_60 (by decide) ?_
            refine z_lv [0, 1, 2, 3, 4] rfl ?_
            exact ih (i + 1) (zz) (rr ^^^ kt i) (by omega) (by omega) (kx_lt hr1 (kt_lt1 (by omega)).1) (by rw [hZ]; simp [sm_zs, c12_37, c26_38]) (by rw [hRs]; simp [sm_rs, c12_37, c26_38])
        · skip
          refine z_iload_n C0 d_M_read_29 rfl 2 rfl ?_
          refine z_iconst (v := nI 1) C0 d_M_read_30 (by decide) ?_
          refine z_iaddN C0 d_M_read_31 ?_
          refine z_gotoK (tgt := 36) C0 d_M_read_32 (by decide) ?_
          refine z_istore_n (lvn := [(0, .ref (y 0)), (1, .int (nI (pg))), (2, .int (nI (zz + 1))), (3, .int (nI (rr))), (4, .int (nI (i))), (5, .int (bI (sm_bit (mm_f M) pg i)))]) C0 d_M_read_36 rfl (by decide) [1, 2, 0, 3, 4, 5] rfl ?_
          refine z_iload C0 d_M_read_37 5 rfl ?_
          refine z_iconst (v := nI 1) C0 d_M_read_39 (by decide) ?_
          refine z_topi (x := nI 1) (xn := bI true) (by decide) ?_
          refine z_icmpB_ne (tgt := 55) C0 d_M_read_40 (by decide) (fun (c40_40 : ¬ sm_bit (mm_f M) pg i = true) => ?_) (fun (c40_40 : sm_bit (mm_f M) pg i = true) => ?_)
          · skip
            refine z_iload_n C0 d_M_read_55 rfl 3 rfl ?_
            refine z_istore_n (lvn := [(0, .ref (y 0)), (1, .int (nI (pg))), (2, .int (nI (zz + 1))), (3, .int (nI (rr))), (4, .int (nI (i))), (5, .int (bI (sm_bit (mm_f M) pg i)))]) C0 d_M_read_56 rfl (by decide) [1, 2, 3, 0, 4, 5] rfl ?_
            refine z_iincN (q := 4) (lvn := [(0, .ref (y 0)), (1, .int (nI (pg))), (2, .int (nI (zz + 1))), (3, .int (nI (rr))), (4, .int (nI (i + 1))), (5, .int (bI (sm_bit (mm_f M) pg i)))]) C0 d_M_read_57 rfl (by decide) [1, 2, 3, 4, 0, 5] rfl ?_
            refine z_gotoK (tgt := 7) C0 d_M_read_60 (by decide) ?_
            refine z_lv [0, 1, 2, 3, 4] rfl ?_
            exact ih (i + 1) (zz + 1) (rr) (by omega) (by omega) (hr1) (by rw [hZ]; simp [sm_zs, c12_37, c26_38]) (by rw [hRs]; simp [sm_rs, c12_37, c26_38])
          · exact absurd (c40_40.symm.trans c26_38) (by decide)
  exact lp7 (178) (0) (0) (0) (by omega) (by omega) (by omega) (rfl) (rfl)
