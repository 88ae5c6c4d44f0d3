set_option maxHeartbeats 4000000 in
set_option maxRecDepth 100000 in
theorem c_M_append (l : Launch) (D : va_G) (cI cZ : ClassId) (y : Nat → Nat) (bc bp : Nat) (M : zm_S) (hB : zb_ok bc bp) (kv : Int32) (vv : Int32) (dv : Int32) (hh : zh_ok bc (mm_h M)) (hok : sm_appOk bc bp M) : zc_Con l y_M_append b_M_append 7 (some .int) { frames := 5, cells := 0, slots := 0, locals := 118 } D cI cZ [.ref (y 0), .int (kv), .int (vv), .int (dv)] (zm_W cI cZ y bc bp M) (zo (some (.int ((sm_app bc bp M kv vv dv).1))) (zm_W cI cZ y bc bp ((sm_app bc bp M kv vv dv).2))) := by
  refine zc_start (by decide) (Nat.le_of_ble_eq_true rfl) ?_
  intro p e s m args below meth c A Q hA hQ C0 hr hin
  have C0 : zc_Cx p s m args meth c b_M_append 7 R_M D cI cZ A := C0
  have hB0 := hB
  obtain ⟨hB1, hB2, hB3, hB4⟩ := hB
  have hN : bc * bp ≤ 20 := Nat.mul_le_mul hB2 hB4
  refine z_lvs (lvn := [(0, .ref (y 0)), (1, .int (kv)), (2, .int (vv)), (3, .int (dv))]) rfl ?_
  have jn51 : ∀ (T : zm_S), (sm_gap bc bp T) → (sm_app bc bp M kv vv dv = sm_app2 bp kv vv dv (sm_act T)) → zc_Pt p l e { frames := 5, cells := 0, slots := 0, locals := 118 } s m args below meth c 7 D A 0 0 Q 51 [(0, .ref (y 0)), (1, .int (kv)), (2, .int (vv)), (3, .int (dv))] [] (zm_W cI cZ y bc bp T) := by
    intro T hgT hRT
    refine z_aload_n C0 d_M_append_51 rfl 0 rfl ?_
    refine z_allV (As := []) (rest := []) C0 (c_M_act l D cI cZ y bc bp T hB0  ) mt_M_act ml_M_118 vt_M_act rfl rfl ⟨Nat.le_of_ble_eq_true rfl, Nat.le_of_ble_eq_true rfl⟩ ⟨rfl, rfl⟩ ⟨Nat.zero_le _, Nat.zero_le _⟩ rfl rfl (Nat.le_of_ble_eq_true rfl) d_M_append_52 ?_
    refine z_st (stn := [.int (bI ((sm_act T).1))]) rfl ?_
    refine z_ifB_ne (tgt := 61) C0 d_M_append_55 (by decide) (fun (c55_1 : (sm_act T).1 = true) => ?_) (fun (c55_1 : (sm_act T).1 = false) => ?_)
    · skip
      refine z_aload_n C0 d_M_append_61 rfl 0 rfl ?_
      obtain ⟨to, hto⟩ : ∃ to, sm_plO bp (mm_w T) (mm_h T) = to := ⟨_, rfl⟩
      have hlt : to < bc * bp := by rw [← hto]; exact sm_pl_lt hgT
      refine z_allV (As := []) (rest := []) C0 (c_M_placeInHead l D cI cZ y bc bp (zmk (mm_f T) (mm_w T) (mm_q T) (mm_s T) (mm_k T) (mm_d T) (mm_h T) (mm_x T) (mm_r (sm_act T).2) (mm_c (sm_act T).2) (mm_a (sm_act T).2) (mm_n (sm_act T).2) (mm_t T) (mm_e T)) hB0  (hgT)) mt_M_placeInHead ml_M_121 vt_M_placeInHead rfl rfl ⟨Nat.le_of_ble_eq_true rfl, Nat.le_of_ble_eq_true rfl⟩ ⟨rfl, rfl⟩ ⟨Nat.zero_le _, Nat.zero_le _⟩ rfl rfl (Nat.le_of_ble_eq_true rfl) d_M_append_62 ?_
      refine z_st (stn := [.int (nI (sm_plO bp (mm_w T) (mm_h T)))]) rfl ?_
      refine z_top (vn := .int (nI (to))) (by rw [← hto]) ?_
      refine z_istore (lvn := [(0, .ref (y 0)), (1, .int (kv)), (2, .int (vv)), (3, .int (dv)), (4, .int (nI (to)))]) C0 d_M_append_65 (by decide) [1, 2, 3, 4, 0] rfl ?_
      refine z_aload_n C0 d_M_append_67 rfl 0 rfl ?_
      refine z_get C0 gf_M_7 0 rfl rfl d_M_append_68 ?_
      refine z_bipush (v := nI 6) C0 d_M_append_71 (by decide) ?_
      refine z_iload C0 d_M_append_73 4 rfl ?_
      refine z_imulN C0 d_M_append_75 ?_
      refine z_aload_n C0 d_M_append_76 rfl 0 rfl ?_
      refine z_get C0 gf_M_36 0 rfl rfl d_M_append_77 ?_
      refine z_iast C0 1 rfl (by omega) (by omega) d_M_append_80 ?_
      refine z_aload_n C0 d_M_append_81 rfl 0 rfl ?_
      refine z_get C0 gf_M_7 0 rfl rfl d_M_append_82 ?_
      refine z_bipush (v := nI 6) C0 d_M_append_85 (by decide) ?_
      refine z_iload C0 d_M_append_87 4 rfl ?_
      refine z_imulN C0 d_M_append_89 ?_
      refine z_iconst (v := nI 1) C0 d_M_append_90 (by decide) ?_
      refine z_iaddN C0 d_M_append_91 ?_
      refine z_iload_n C0 d_M_append_92 rfl 1 rfl ?_
      refine z_iast C0 1 rfl (by omega) (by omega) d_M_append_93 ?_
      refine z_aload_n C0 d_M_append_94 rfl 0 rfl ?_
      refine z_get C0 gf_M_7 0 rfl rfl d_M_append_95 ?_
      refine z_bipush (v := nI 6) C0 d_M_append_98 (by decide) ?_
      refine z_iload C0 d_M_append_100 4 rfl ?_
      refine z_imulN C0 d_M_append_102 ?_
      refine z_iconst (v := nI 2) C0 d_M_append_103 (by decide) ?_
      refine z_iaddN C0 d_M_append_104 ?_
      refine z_iload_n C0 d_M_append_105 rfl 2 rfl ?_
      refine z_iast C0 1 rfl (by omega) (by omega) d_M_append_106 ?_
      refine z_aload_n C0 d_M_append_107 rfl 0 rfl ?_
      refine z_get C0 gf_M_7 0 rfl rfl d_M_append_108 ?_
      refine z_bipush (v := nI 6) C0 d_M_append_111 (by decide) ?_
      refine z_iload C0 d_M_append_113 4 rfl ?_
      refine z_imulN C0 d_M_append_115 ?_
      refine z_iconst (v := nI 3) C0 d_M_append_116 (by decide) ?_
      refine z_iaddN C0 d_M_append_117 ?_
      refine z_iload_n C0 d_M_append_118 rfl 3 rfl ?_
      refine z_iast C0 1 rfl (by omega) (by omega) d_M_append_119 ?_
      refine z_aload_n C0 d_M_append_120 rfl 0 rfl ?_
      refine z_get C0 gf_M_7 0 rfl rfl d_M_append_121 ?_
      refine z_bipush (v := nI 6) C0 d_M_append_124 (by decide) ?_
      refine z_iload C0 d_M_append_126 4 rfl ?_
      refine z_imulN C0 d_M_append_128 ?_
      refine z_iconst (v := nI 4) C0 d_M_append_129 (by decide) ?_
      refine z_iaddN C0 d_M_append_130 ?_
      refine z_aload_n C0 d_M_append_131 rfl 0 rfl ?_
      refine z_get C0 gf_M_36 0 rfl rfl d_M_append_132 ?_
      refine z_iload_n C0 d_M_append_135 rfl 1 rfl ?_
      refine z_iload_n C0 d_M_append_136 rfl 2 rfl ?_
      refine z_iload_n C0 d_M_append_137 rfl 3 rfl ?_
      refine z_ws (wsn := zm_W cI cZ y bc bp (zmk (upd (upd (upd (upd (mm_f T) (6 * to) (mm_x T)) (6 * to + 1) (kv)) (6 * to + 2) (vv)) (6 * to + 3) (dv)) (mm_w T) (mm_q T) (mm_s T) (mm_k T) (mm_d T) (mm_h T) (mm_x T) (mm_r (sm_act T).2) (mm_c (sm_act T).2) (mm_a (sm_act T).2) (mm_n (sm_act T).2) (mm_t T) (mm_e T))) rfl ?_
      refine z_nilS (As := [.int (mm_x T), .int (kv), .int (vv), .int (dv)]) (rest := [.int (nI (6 * to + 4)), .ref (y 1)]) C0 (c_M_checkOf l D cI cZ    (mm_x T) (kv) (vv) (dv) ) mt_M_checkOf ml_M_86 vt_M_checkOf ⟨Nat.le_of_ble_eq_true rfl, Nat.le_of_ble_eq_true rfl⟩ ⟨rfl, rfl⟩ ⟨Nat.zero_le _, Nat.zero_le _⟩ rfl rfl (Nat.le_of_ble_eq_true rfl) d_M_append_138 ?_
      refine z_st (stn := [.int (pchk (mm_x T) kv vv dv), .int (nI (6 * to + 4)), .ref (y 1)]) rfl ?_
      refine z_iast C0 1 rfl (by omega) (by omega) d_M_append_141 ?_
      refine z_aload_n C0 d_M_append_142 rfl 0 rfl ?_
      refine z_get C0 gf_M_7 0 rfl rfl d_M_append_143 ?_
      refine z_bipush (v := nI 6) C0 d_M_append_146 (by decide) ?_
      refine z_iload C0 d_M_append_148 4 rfl ?_
      refine z_imulN C0 d_M_append_150 ?_
      refine z_iconst (v := nI 5) C0 d_M_append_151 (by decide) ?_
      refine z_iaddN C0 d_M_append_152 ?_
      refine z_iconst (v := 0) C0 d_M_append_153 (by decide) ?_
      refine z_iast C0 1 rfl (by omega) (by omega) d_M_append_154 ?_
      refine z_iconst (v := nI 0) C0 d_M_append_155 (by decide) ?_
      refine z_istore (lvn := [(0, .ref (y 0)), (1, .int (kv)), (2, .int (vv)), (3, .int (dv)), (4, .int (nI (to))), (5, .int (nI (0)))]) C0 d_M_append_156 (by decide) [1, 2, 3, 4, 5, 0] rfl ?_
      refine z_iconst (v := nI 0) C0 d_M_append_158 (by decide) ?_
      refine z_istore (lvn := [(0, .ref (y 0)), (1, .int (kv)), (2, .int (vv)), (3, .int (dv)), (4, .int (nI (to))), (5, .int (nI (0))), (6, .int (nI (0)))]) C0 d_M_append_159 (by decide) [1, 2, 3, 4, 5, 6, 0] rfl ?_
      have lp161 : ∀ (n : Nat) (i : Nat) (r : Nat), (i + n = 160) → (some (sm_rs (sm_pg5 (mm_f T) to (mm_x T) kv vv dv) to 160 0 0) = some (sm_rs (sm_pg5 (mm_f T) to (mm_x T) kv vv dv) to n i r)) → zc_Pt p l e { frames := 5, cells := 0, slots := 0, locals := 118 } s m args below meth c 7 D A 0 0 Q 161 [(0, .ref (y 0)), (1, .int (kv)), (2, .int (vv)), (3, .int (dv)), (4, .int (nI (to))), (5, .int (nI (r))), (6, .int (nI (i)))] [] (zm_W cI cZ y bc bp (zmk (upd (upd (upd (upd (upd (upd (mm_f T) (6 * to) (mm_x T)) (6 * to + 1) (kv)) (6 * to + 2) (vv)) (6 * to + 3) (dv)) (6 * to + 4) (pchk (mm_x T) kv vv dv)) (6 * to + 5) (0)) (mm_w T) (mm_q T) (mm_s T) (mm_k T) (mm_d T) (mm_h T) (mm_x T) (mm_r (sm_act T).2) (mm_c (sm_act T).2) (mm_a (sm_act T).2) (mm_n (sm_act T).2) (mm_t T) (mm_e T))) := by
        intro n
        induction n with
        | zero =>
          intro i r hi hRs
          refine z_iload C0 d_M_append_161 6 rfl ?_
          refine z_sipush (v := nI 160) C0 d_M_append_163 (by decide) ?_
          refine z_icmpN_ge (tgt := 204) C0 d_M_append_166 (by decide) (by omega) (by omega) (fun (c166_2 : 160 ≤ i) => ?_) (fun (c166_2 : i < 160) => ?_)
          · skip
            refine z_aload_n C0 d_M_append_204 rfl 0 rfl ?_
            refine z_get C0 gf_M_7 0 rfl rfl d_M_append_205 ?_
            refine z_bipush (v := nI 6) C0 d_M_append_208 (by decide) ?_
            refine z_iload C0 d_M_append_210 4 rfl ?_
            refine z_imulN C0 d_M_append_212 ?_
            refine z_iconst (v := nI 5) C0 d_M_append_213 (by decide) ?_
            refine z_iaddN C0 d_M_append_214 ?_
            refine z_iload C0 d_M_append_215 5 rfl ?_
            refine z_iast C0 1 rfl (by omega) (by omega) d_M_append_217 ?_
            refine z_aload_n C0 d_M_append_218 rfl 0 rfl ?_
            refine z_get C0 gf_M_16 0 rfl rfl d_M_append_219 ?_
            refine z_iload C0 d_M_append_222 4 rfl ?_
            refine z_iconst (v := nI 1) C0 d_M_append_224 (by decide) ?_
            refine z_topi (x := nI 1) (xn := bI true) (by decide) ?_
            refine z_zast C0 3 rfl (by omega) (by omega) d_M_append_225 ?_
            refine z_aload_n C0 d_M_append_226 rfl 0 rfl ?_
            refine z_get C0 gf_M_20 0 rfl rfl d_M_append_227 ?_
            refine z_iload C0 d_M_append_230 4 rfl ?_
            refine z_aload_n C0 d_M_append_232 rfl 0 rfl ?_
            refine z_get C0 gf_M_36 0 rfl rfl d_M_append_233 ?_
            refine z_iast C0 4 rfl (by omega) (by omega) d_M_append_236 ?_
            refine z_aload_n C0 d_M_append_237 rfl 0 rfl ?_
            refine z_get C0 gf_M_23 0 rfl rfl d_M_append_238 ?_
            refine z_iload C0 d_M_append_241 4 rfl ?_
            refine z_iload_n C0 d_M_append_243 rfl 1 rfl ?_
            refine z_iast C0 5 rfl (by omega) (by omega) d_M_append_244 ?_
            refine z_aload_n C0 d_M_append_245 rfl 0 rfl ?_
            refine z_get C0 gf_M_26 0 rfl rfl d_M_append_246 ?_
            refine z_iload C0 d_M_append_249 4 rfl ?_
            refine z_iload_n C0 d_M_append_251 rfl 3 rfl ?_
            refine z_iast C0 6 rfl (by omega) (by omega) d_M_append_252 ?_
            refine z_aload_n C0 d_M_append_253 rfl 0 rfl ?_
            refine z_dup C0 d_M_append_254 rfl ?_
            refine z_get C0 gf_M_36 0 rfl rfl d_M_append_255 ?_
            refine z_iconst (v := 1) C0 d_M_append_258 (by decide) ?_
            refine z_iadd C0 d_M_append_259 ?_
            refine z_put C0 gf_M_36 pf_M_13 0 rfl rfl rfl (Nat.le_of_ble_eq_true rfl) d_M_append_260 ?_
            refine z_iconst (v := 0) C0 d_M_append_263 (by decide) ?_
            refine z_ws (wsn := zm_W cI cZ y bc bp (zmk (upd (upd (upd (upd (upd (upd (upd (mm_f T) (6 * to) (mm_x T)) (6 * to + 1) (kv)) (6 * to + 2) (vv)) (6 * to + 3) (dv)) (6 * to + 4) (pchk (mm_x T) kv vv dv)) (6 * to + 5) (0)) (6 * to + 5) (nI (r))) (ub (mm_w T) (to) (true)) (mm_q T) (upd (mm_s T) (to) (mm_x T)) (upd (mm_k T) (to) (kv)) (upd (mm_d T) (to) (dv)) (mm_h T) ((mm_x T) + 1) (mm_r (sm_act T).2) (mm_c (sm_act T).2) (mm_a (sm_act T).2) (mm_n (sm_act T).2) (mm_t T) (mm_e T))) rfl ?_
            exact z_iret C0 hA hQ hr d_M_append_264 (by have e2 : sm_rs (sm_pg5 (mm_f T) to (mm_x T) kv vv dv) to 160 0 0 = r := Option.some.inj hRs; rw [hRT, show sm_app2 bp kv vv dv (sm_act T) = (0, sm_app3 ((zmk (mm_f T) (mm_w T) (mm_q T) (mm_s T) (mm_k T) (mm_d T) (mm_h T) (mm_x T) (mm_r (sm_act T).2) (mm_c (sm_act T).2) (mm_a (sm_act T).2) (mm_n (sm_act T).2) (mm_t T) (mm_e T))) to kv vv dv) from (by rw [show sm_act T = (true, (zmk (mm_f T) (mm_w T) (mm_q T) (mm_s T) (mm_k T) (mm_d T) (mm_h T) (mm_x T) (mm_r (sm_act T).2) (mm_c (sm_act T).2) (mm_a (sm_act T).2) (mm_n (sm_act T).2) (mm_t T) (mm_e T))) from by rw [← sm_actE, ← c55_1], ← hto]; rfl)]; show _ ∧ _ = zm_W cI cZ y bc bp (zmk (upd (sm_pg5 (mm_f T) to (mm_x T) kv vv dv) (6 * to + 5) (nI (sm_rs (sm_pg5 (mm_f T) to (mm_x T) kv vv dv) to 160 0 0))) _ _ _ _ _ _ _ _ _ _ _ _ _); rw [e2]; exact ⟨rfl, rfl⟩)
          · exact absurd c166_2 (by omega)
        | succ n ih =>
          intro i r hi hRs
          refine z_iload C0 d_M_append_161 6 rfl ?_
          refine z_sipush (v := nI 160) C0 d_M_append_163 (by decide) ?_
          refine z_icmpN_ge (tgt := 204) C0 d_M_append_166 (by decide) (by omega) (by omega) (fun (c166_3 : 160 ≤ i) => ?_) (fun (c166_3 : i < 160) => ?_)
          · exact absurd c166_3 (by omega)
          · skip
            refine z_aload_n C0 d_M_append_169 rfl 0 rfl ?_
            refine z_iload C0 d_M_append_170 4 rfl ?_
            refine z_iload C0 d_M_append_172 6 rfl ?_
            refine z_allV (As := [.int (nI (to)), .int (nI (i))]) (rest := []) C0 (c_M_bitOf l D cI cZ y bc bp (zmk (upd (upd (upd (upd (upd (upd (mm_f T) (6 * to) (mm_x T)) (6 * to + 1) (kv)) (6 * to + 2) (vv)) (6 * to + 3) (dv)) (6 * to + 4) (pchk (mm_x T) kv vv dv)) (6 * to + 5) (0)) (mm_w T) (mm_q T) (mm_s T) (mm_k T) (mm_d T) (mm_h T) (mm_x T) (mm_r (sm_act T).2) (mm_c (sm_act T).2) (mm_a (sm_act T).2) (mm_n (sm_act T).2) (mm_t T) (mm_e T)) hB0 (to) (i) (by omega) (by omega)) mt_M_bitOf ml_M_75 vt_M_bitOf rfl rfl ⟨Nat.le_of_ble_eq_true rfl, Nat.le_of_ble_eq_true rfl⟩ ⟨rfl, rfl⟩ ⟨Nat.zero_le _, Nat.zero_le _⟩ rfl rfl (Nat.le_of_ble_eq_true rfl) d_M_append_174 ?_
            refine z_st (stn := [.int (bI (sm_bit (upd (upd (upd (upd (upd (upd (mm_f T) (6 * to) (mm_x T)) (6 * to + 1) (kv)) (6 * to + 2) (vv)) (6 * to + 3) (dv)) (6 * to + 4) (pchk (mm_x T) kv vv dv)) (6 * to + 5) (0)) to i))]) rfl ?_
            refine z_iconst (v := nI 1) C0 d_M_append_177 (by decide) ?_
            refine z_topi (x := nI 1) (xn := bI true) (by decide) ?_
            refine z_icmpB_ne (tgt := 194) C0 d_M_append_178 (by decide) (fun (c178_4 : ¬ sm_bit (upd (upd (upd (upd (upd (upd (mm_f T) (6 * to) (mm_x T)) (6 * to + 1) (kv)) (6 * to + 2) (vv)) (6 * to + 3) (dv)) (6 * to + 4) (pchk (mm_x T) kv vv dv)) (6 * to + 5) (0)) to i = true) => ?_) (fun (c178_4 : sm_bit (upd (upd (upd (upd (upd (upd (mm_f T) (6 * to) (mm_x T)) (6 * to + 1) (kv)) (6 * to + 2) (vv)) (6 * to + 3) (dv)) (6 * to + 4) (pchk (mm_x T) kv vv dv)) (6 * to + 5) (0)) to i = true) => ?_)
            · skip
              refine z_iload C0 d_M_append_194 5 rfl ?_
              refine z_istore (lvn := [(0, .ref (y 0)), (1, .int (kv)), (2, .int (vv)), (3, .int (dv)), (4, .int (nI (to))), (5, .int (nI (r))), (6, .int (nI (i)))]) C0 d_M_append_196 (by decide) [1, 2, 3, 4, 5, 0, 6] rfl ?_
              refine z_iincN (q := 6) (lvn := [(0, .ref (y 0)), (1, .int (kv)), (2, .int (vv)), (3, .int (dv)), (4, .int (nI (to))), (5, .int (nI (r))), (6, .int (nI (i + 1)))]) C0 d_M_append_198 rfl (by decide) [1, 2, 3, 4, 5, 6, 0] rfl ?_
              refine z_gotoK (tgt := 161) C0 d_M_append_201 (by decide) ?_
              exact ih (i + 1) (r) (by omega) (by rw [hRs]; show some (sm_rs (sm_pg5 (mm_f T) to (mm_x T) kv vv dv) to n (i + 1) (if sm_bit (sm_pg5 (mm_f T) to (mm_x T) kv vv dv) to i = true then r ^^^ kt i else r)) = _; rw [if_neg (show ¬ sm_bit (sm_pg5 (mm_f T) to (mm_x T) kv vv dv) to i = true from c178_4)])
            · skip
              refine z_iload C0 d_M_append_181 5 rfl ?_
              refine z_aload_n C0 d_M_append_183 rfl 0 rfl ?_
              refine z_get C0 gf_M_13 0 rfl rfl d_M_append_184 ?_
              refine z_iload C0 d_M_append_187 6 rfl ?_
              refine z_iald C0 2 rfl (by omega) (by omega) d_M_append_189 ?_
              refine z_top (vn := .int (nI (kt i))) (rfl) ?_
              refine z_ixor C0 d_M_append_190 ?_
              refine z_top (vn := .int (nI (r ^^^ kt i))) (by rw [nx_xor]) ?_
              refine z_gotoK (tgt := 196) C0 d_M_append_191 (by decide) ?_
              refine z_istore (lvn := [(0, .ref (y 0)), (1, .int (kv)), (2, .int (vv)), (3, .int (dv)), (4, .int (nI (to))), (5, .int (nI (r ^^^ kt i))), (6, .int (nI (i)))]) C0 d_M_append_196 (by decide) [1, 2, 3, 4, 5, 0, 6] rfl ?_
              refine z_iincN (q := 6) (lvn := [(0, .ref (y 0)), (1, .int (kv)), (2, .int (vv)), (3, .int (dv)), (4, .int (nI (to))), (5, .int (nI (r ^^^ kt i))), (6, .int (nI (i + 1)))]) C0 d_M_append_198 rfl (by decide) [1, 2, 3, 4, 5, 6, 0] rfl ?_
              refine z_gotoK (tgt := 161) C0 d_M_append_201 (by decide) ?_
              exact ih (i + 1) (r ^^^ kt i) (by omega) (by rw [hRs]; show some (sm_rs (sm_pg5 (mm_f T) to (mm_x T) kv vv dv) to n (i + 1) (if sm_bit (sm_pg5 (mm_f T) to (mm_x T) kv vv dv) to i = true then r ^^^ kt i else r)) = _; rw [if_pos (show sm_bit (sm_pg5 (mm_f T) to (mm_x T) kv vv dv) to i = true from c178_4)])
      refine z_ws (wsn := zm_W cI cZ y bc bp (zmk (upd (upd (upd (upd (upd (upd (mm_f T) (6 * to) (mm_x T)) (6 * to + 1) (kv)) (6 * to + 2) (vv)) (6 * to + 3) (dv)) (6 * to + 4) (pchk (mm_x T) kv vv dv)) (6 * to + 5) (0)) (mm_w T) (mm_q T) (mm_s T) (mm_k T) (mm_d T) (mm_h T) (mm_x T) (mm_r (sm_act T).2) (mm_c (sm_act T).2) (mm_a (sm_act T).2) (mm_n (sm_act T).2) (mm_t T) (mm_e T))) rfl ?_
      exact lp161 (160) (0) (0) (by omega) (rfl)
    · skip
      refine z_bipush (v := -2) C0 d_M_append_58 (by decide) ?_
      exact z_iret C0 hA hQ hr d_M_append_60 (by rw [hRT, show sm_app2 bp kv vv dv (sm_act T) = (-2, (sm_act T).2) from (by rw [show sm_act T = (false, (sm_act T).2) from by rw [← c55_1]]; rfl), sm_actE]; exact ⟨rfl, rfl⟩)
  refine z_aload_n C0 d_M_append_0 rfl 0 rfl ?_
  refine z_allV (As := []) (rest := []) C0 (c_M_headless l D cI cZ y bc bp M hB0  (hh)) mt_M_headless ml_M_107 vt_M_headless rfl rfl ⟨Nat.le_of_ble_eq_true rfl, Nat.le_of_ble_eq_true rfl⟩ ⟨rfl, rfl⟩ ⟨Nat.zero_le _, Nat.zero_le _⟩ rfl rfl (Nat.le_of_ble_eq_true rfl) d_M_append_1 ?_
  refine z_st (stn := [.int (bI (sm_hl bp (mm_w M) (mm_h M)))]) rfl ?_
  refine z_ifB_eq (tgt := 51) C0 d_M_append_4 (by decide) (fun (c4_5 : sm_hl bp (mm_w M) (mm_h M) = false) => ?_) (fun (c4_5 : sm_hl bp (mm_w M) (mm_h M) = true) => ?_)
  · skip
    exact jn51 (M) (hok.1 c4_5) (if_neg (by rw [c4_5]; decide))
  · skip
    refine z_aload_n C0 d_M_append_7 rfl 0 rfl ?_
    refine z_allV (As := []) (rest := []) C0 (c_M_frees l D cI cZ y bc bp M hB0  ) mt_M_frees ml_M_114 vt_M_frees rfl rfl ⟨Nat.le_of_ble_eq_true rfl, Nat.le_of_ble_eq_true rfl⟩ ⟨rfl, rfl⟩ ⟨Nat.zero_le _, Nat.zero_le _⟩ rfl rfl (Nat.le_of_ble_eq_true rfl) d_M_append_8 ?_
    refine z_st (stn := [.int (nI (sm_fr bc bp (mm_w M)))]) rfl ?_
    refine z_iconst (v := nI 1) C0 d_M_append_11 (by decide) ?_
    refine z_icmpN_le (tgt := 26) C0 d_M_append_12 (by decide) (Nat.lt_of_le_of_lt (sm_frLe _ _ _) (by omega)) (by decide) (fun (c12_6 : sm_fr bc bp (mm_w M) ≤ 1) => ?_) (fun (c12_6 : 1 < sm_fr bc bp (mm_w M)) => ?_)
    · skip
      refine z_aload_n C0 d_M_append_26 rfl 0 rfl ?_
      refine z_allV (As := []) (rest := []) C0 (c_M_chosen l D cI cZ y bc bp M hB0  (hh)) mt_M_chosen ml_M_133 vt_M_chosen rfl rfl ⟨Nat.le_of_ble_eq_true rfl, Nat.le_of_ble_eq_true rfl⟩ ⟨rfl, rfl⟩ ⟨Nat.zero_le _, Nat.zero_le _⟩ rfl rfl (Nat.le_of_ble_eq_true rfl) d_M_append_27 ?_
      refine z_st (stn := [.int (oN (sm_choose bc bp M))]) rfl ?_
      refine z_istore (lvn := [(0, .ref (y 0)), (1, .int (kv)), (2, .int (vv)), (3, .int (dv)), (4, .int (oN (sm_choose bc bp M)))]) C0 d_M_append_30 (by decide) [1, 2, 3, 4, 0] rfl ?_
      refine z_iload C0 d_M_append_32 4 rfl ?_
      rcases e34_7 : sm_choose bc bp M with _ | g34_8
      · refine z_st (stn := [.int (-1)]) (by first | rfl | (rw [e34_7]; rfl)) ?_
        refine z_lvs (lvn := [(0, .ref (y 0)), (1, .int (kv)), (2, .int (vv)), (3, .int (dv)), (4, .int (-1))]) (by first | rfl | (rw [e34_7]; rfl)) ?_
        refine z_if_ge (tgt := 39) C0 d_M_append_34 (by decide) (fun c34_9 => ?_) (fun c34_9 => ?_)
        · exact absurd c34_9 (by decide)
        · skip
          refine z_iconst (v := -1) C0 d_M_append_37 (by decide) ?_
          exact z_iret C0 hA hQ hr d_M_append_38 (by rw [show sm_app bc bp M kv vv dv = (-1, M) from (by unfold sm_app; rw [if_pos c4_5, if_neg (Nat.not_lt.mpr c12_6), e34_7]; rfl)]; exact ⟨rfl, rfl⟩)
      · refine z_st (stn := [.int (nI (g34_8))]) (by first | rfl | (rw [e34_7]; rfl)) ?_
        refine z_lvs (lvn := [(0, .ref (y 0)), (1, .int (kv)), (2, .int (vv)), (3, .int (dv)), (4, .int (nI (g34_8)))]) (by first | rfl | (rw [e34_7]; rfl)) ?_
        have hb34 := sm_choose_lt e34_7
        refine z_if_ge (tgt := 39) C0 d_M_append_34 (by decide) (fun c34_10 => ?_) (fun c34_10 => ?_)
        · skip
          refine z_aload_n C0 d_M_append_39 rfl 0 rfl ?_
          refine z_iload C0 d_M_append_40 4 rfl ?_
          refine z_allV (As := [.int (nI (g34_8))]) (rest := []) C0 (c_M_clean l D cI cZ y bc bp M hB0 (g34_8) (hh) (hb34) (((hok.2 c4_5).2 c12_6 g34_8 e34_7).1)) mt_M_clean ml_M_136 vt_M_clean rfl rfl ⟨Nat.le_of_ble_eq_true rfl, Nat.le_of_ble_eq_true rfl⟩ ⟨rfl, rfl⟩ ⟨Nat.zero_le _, Nat.zero_le _⟩ rfl rfl (Nat.le_of_ble_eq_true rfl) d_M_append_42 ?_
          refine z_st (stn := [.int (bI ((sm_clean bc bp M g34_8).1))]) rfl ?_
          refine z_ifB_ne (tgt := 51) C0 d_M_append_45 (by decide) (fun (c45_11 : (sm_clean bc bp M g34_8).1 = true) => ?_) (fun (c45_11 : (sm_clean bc bp M g34_8).1 = false) => ?_)
          · skip
            refine z_lv [0, 1, 2, 3] rfl ?_
            exact jn51 (((sm_clean bc bp M g34_8).2)) (((hok.2 c4_5).2 c12_6 g34_8 e34_7).2 c45_11) (by unfold sm_app; rw [if_pos c4_5, if_neg (Nat.not_lt.mpr c12_6), e34_7]; show sm_app1 bp kv vv dv (sm_clean bc bp M g34_8) = _; rw [show sm_clean bc bp M g34_8 = (true, (sm_clean bc bp M g34_8).2) from by rw [← c45_11]]; rfl)
          · skip
            refine z_bipush (v := -2) C0 d_M_append_48 (by decide) ?_
            exact z_iret C0 hA hQ hr d_M_append_50 (by rw [show sm_app bc bp M kv vv dv = (-2, (sm_clean bc bp M g34_8).2) from (by unfold sm_app; rw [if_pos c4_5, if_neg (Nat.not_lt.mpr c12_6), e34_7]; show sm_app1 bp kv vv dv (sm_clean bc bp M g34_8) = _; rw [show sm_clean bc bp M g34_8 = (false, (sm_clean bc bp M g34_8).2) from by rw [← c45_11]]; rfl)]; exact ⟨rfl, rfl⟩)
        · exact absurd (nI_pos' (by omega)) c34_10
    · skip
      refine z_aload_n C0 d_M_append_15 rfl 0 rfl ?_
      refine z_aload_n C0 d_M_append_16 rfl 0 rfl ?_
      refine z_allV (As := []) (rest := [.ref (y 0)]) C0 (c_M_lowestFree l D cI cZ y bc bp M hB0  ) mt_M_lowestFree ml_M_127 vt_M_lowestFree rfl rfl ⟨Nat.le_of_ble_eq_true rfl, Nat.le_of_ble_eq_true rfl⟩ ⟨rfl, rfl⟩ ⟨Nat.zero_le _, Nat.zero_le _⟩ rfl rfl (Nat.le_of_ble_eq_true rfl) d_M_append_17 ?_
      refine z_st (stn := [.int (oN (sm_low bc bp (mm_w M))), .ref (y 0)]) rfl ?_
      refine z_put C0 gf_M_32 pf_M_12 0 rfl rfl rfl (Nat.le_of_ble_eq_true rfl) d_M_append_20 ?_
      refine z_gotoK (tgt := 51) C0 d_M_append_23 (by decide) ?_
      refine z_ws (wsn := zm_W cI cZ y bc bp (zmk (mm_f M) (mm_w M) (mm_q M) (mm_s M) (mm_k M) (mm_d M) (sm_low bc bp (mm_w M)) (mm_x M) (mm_r M) (mm_c M) (mm_a M) (mm_n M) (mm_t M) (mm_e M))) rfl ?_
      exact jn51 ((zmk (mm_f M) (mm_w M) (mm_q M) (mm_s M) (mm_k M) (mm_d M) (sm_low bc bp (mm_w M)) (mm_x M) (mm_r M) (mm_c M) (mm_a M) (mm_n M) (mm_t M) (mm_e M))) ((hok.2 c4_5).1 c12_6) (by unfold sm_app; rw [if_pos c4_5, if_pos c12_6]; rfl)
