set_option maxHeartbeats 4000000 in
set_option maxRecDepth 100000 in
theorem c_M_scrub (l : Launch) (D : va_G) (cI cZ : ClassId) (y : Nat → Nat) (bc bp : Nat) (M : zm_S) (hB : zb_ok bc bp)   : zc_Con l y_M_scrub b_M_scrub 5 (some .int) { frames := 3, cells := 0, slots := 0, locals := 69 } D cI cZ [.ref (y 0)] (zm_W cI cZ y bc bp M) (zo (some (.int ((sm_scrub bc bp M).1))) (zm_W cI cZ y bc bp ((sm_scrub bc bp M).2))) := by
  refine zc_start (by decide) (Nat.le_of_ble_eq_true rfl) ?_
  intro p e s m args below meth c A Q hA hQ C0 hr hin
  have C0 : zc_Cx p s m args meth c b_M_scrub 5 R_M D cI cZ A := C0
  have hB0 := hB
  obtain ⟨hB1, hB2, hB3, hB4⟩ := hB
  have hN : bc * bp ≤ 20 := Nat.mul_le_mul hB2 hB4
  refine z_lvs (lvn := [(0, .ref (y 0))]) rfl ?_
  refine z_aload_n C0 d_M_scrub_0 rfl 0 rfl ?_
  refine z_get C0 gf_M_65 0 rfl rfl d_M_scrub_1 ?_
  refine z_ifB_ne (tgt := 10) C0 d_M_scrub_4 (by decide) (fun (c4_1 : mm_r M = true) => ?_) (fun (c4_1 : mm_r M = false) => ?_)
  · skip
    refine z_iconst (v := nI 0) C0 d_M_scrub_10 (by decide) ?_
    refine z_istore_n (lvn := [(0, .ref (y 0)), (1, .int (nI (0)))]) C0 d_M_scrub_11 rfl (by decide) [1, 0] rfl ?_
    refine z_iconst (v := nI 0) C0 d_M_scrub_12 (by decide) ?_
    refine z_istore_n (lvn := [(0, .ref (y 0)), (1, .int (nI (0))), (2, .int (nI (0)))]) C0 d_M_scrub_13 rfl (by decide) [1, 2, 0] rfl ?_
    have lp14 : ∀ (n : Nat) (i : Nat) (a : Nat) (T : zm_S), (i + n = bc * bp) → (sm_scrub bc bp M = sm_scs n i a T) → zc_Pt p l e { frames := 3, cells := 0, slots := 0, locals := 69 } s m args below meth c 5 D A 0 0 Q 14 [(0, .ref (y 0)), (1, .int (nI (a))), (2, .int (nI (i)))] [] (zm_W cI cZ y bc bp T) := by
      intro n
      induction n with
      | zero =>
        intro i a T hi hR
        refine z_iload_n C0 d_M_scrub_14 rfl 2 rfl ?_
        refine z_aload_n C0 d_M_scrub_15 rfl 0 rfl ?_
        refine z_get C0 gf_M_51 0 rfl rfl d_M_scrub_16 ?_
        refine z_icmpN_ge (tgt := 200) C0 d_M_scrub_19 (by decide) (by omega) (by omega) (fun (c19_2 : bc * bp ≤ i) => ?_) (fun (c19_2 : i < bc * bp) => ?_)
        · skip
          refine z_iload_n C0 d_M_scrub_200 rfl 1 rfl ?_
          exact z_iret C0 hA hQ hr d_M_scrub_201 (by rw [hR]; exact ⟨rfl, rfl⟩)
        · exact absurd c19_2 (by omega)
      | succ n ih =>
        intro i a T hi hR
        refine z_iload_n C0 d_M_scrub_14 rfl 2 rfl ?_
        refine z_aload_n C0 d_M_scrub_15 rfl 0 rfl ?_
        refine z_get C0 gf_M_51 0 rfl rfl d_M_scrub_16 ?_
        refine z_icmpN_ge (tgt := 200) C0 d_M_scrub_19 (by decide) (by omega) (by omega) (fun (c19_3 : bc * bp ≤ i) => ?_) (fun (c19_3 : i < bc * bp) => ?_)
        · exact absurd c19_3 (by omega)
        · skip
          refine z_aload_n C0 d_M_scrub_22 rfl 0 rfl ?_
          refine z_iload_n C0 d_M_scrub_23 rfl 2 rfl ?_
          refine z_allV (As := [.int (nI (i))]) (rest := []) C0 (c_M_read l D cI cZ y bc bp T hB0 (i) (by omega)) mt_M_read ml_M_124 vt_M_read rfl rfl ⟨Nat.le_of_ble_eq_true rfl, Nat.le_of_ble_eq_true rfl⟩ ⟨rfl, rfl⟩ ⟨Nat.zero_le _, Nat.zero_le _⟩ rfl rfl (Nat.le_of_ble_eq_true rfl) d_M_scrub_24 ?_
          refine z_st (stn := []) rfl ?_
          have jn116 : ∀ (dd : Bool), (dd = sm_scd T i) → zc_Pt p l e { frames := 3, cells := 0, slots := 0, locals := 69 } s m args below meth c 5 D A 0 0 Q 116 [(0, .ref (y 0)), (1, .int (nI (a))), (2, .int (nI (i)))] [.int (bI (dd))] (zm_W cI cZ y bc bp (zmk (mm_f T) (mm_w T) (mm_q T) (mm_s T) (mm_k T) (mm_d T) (mm_h T) (mm_x T) (mm_r T) (mm_c T) (mm_a T) (mm_n T) ((sm_rd (mm_f T) (mm_e T) i).1) ((sm_rd (mm_f T) (mm_e T) i).2))) := by
            intro dd hdd
            refine z_istore_n (lvn := [(0, .ref (y 0)), (1, .int (nI (a))), (2, .int (nI (i))), (3, .int (bI (dd)))]) C0 d_M_scrub_116 rfl (by decide) [1, 2, 3, 0] rfl ?_
            have jn129 : ((sm_rd (mm_f T) (mm_e T) i).1 = 2 ∨ sm_scd T i = true) → zc_Pt p l e { frames := 3, cells := 0, slots := 0, locals := 69 } s m args below meth c 5 D A 0 0 Q 129 [(0, .ref (y 0)), (1, .int (nI (a))), (2, .int (nI (i))), (3, .int (bI (dd)))] [] (zm_W cI cZ y bc bp (zmk (mm_f T) (mm_w T) (mm_q T) (mm_s T) (mm_k T) (mm_d T) (mm_h T) (mm_x T) (mm_r T) (mm_c T) (mm_a T) (mm_n T) ((sm_rd (mm_f T) (mm_e T) i).1) ((sm_rd (mm_f T) (mm_e T) i).2))) := by
              intro hor
              refine z_aload_n C0 d_M_scrub_129 rfl 0 rfl ?_
              refine z_allV (As := []) (rest := []) C0 (c_M_act l D cI cZ y bc bp (zmk (mm_f T) (mm_w T) (mm_q T) (mm_s T) (mm_k T) (mm_d T) (mm_h T) (mm_x T) (mm_r T) (mm_c T) (mm_a T) (mm_n T) ((sm_rd (mm_f T) (mm_e T) i).1) ((sm_rd (mm_f T) (mm_e T) i).2)) hB0  ) mt_M_act ml_M_118 vt_M_act rfl rfl ⟨Nat.le_of_ble_eq_true rfl, Nat.le_of_ble_eq_true rfl⟩ ⟨rfl, rfl⟩ ⟨Nat.zero_le _, Nat.zero_le _⟩ rfl rfl (Nat.le_of_ble_eq_true rfl) d_M_scrub_130 ?_
              refine z_st (stn := [.int (bI ((sm_act (zmk (mm_f T) (mm_w T) (mm_q T) (mm_s T) (mm_k T) (mm_d T) (mm_h T) (mm_x T) (mm_r T) (mm_c T) (mm_a T) (mm_n T) ((sm_rd (mm_f T) (mm_e T) i).1) ((sm_rd (mm_f T) (mm_e T) i).2))).1))]) rfl ?_
              refine z_ifB_ne (tgt := 139) C0 d_M_scrub_133 (by decide) (fun (c133_4 : (sm_act (zmk (mm_f T) (mm_w T) (mm_q T) (mm_s T) (mm_k T) (mm_d T) (mm_h T) (mm_x T) (mm_r T) (mm_c T) (mm_a T) (mm_n T) ((sm_rd (mm_f T) (mm_e T) i).1) ((sm_rd (mm_f T) (mm_e T) i).2))).1 = true) => ?_) (fun (c133_4 : (sm_act (zmk (mm_f T) (mm_w T) (mm_q T) (mm_s T) (mm_k T) (mm_d T) (mm_h T) (mm_x T) (mm_r T) (mm_c T) (mm_a T) (mm_n T) ((sm_rd (mm_f T) (mm_e T) i).1) ((sm_rd (mm_f T) (mm_e T) i).2))).1 = false) => ?_)
              · skip
                refine z_iincN (q := 1) (lvn := [(0, .ref (y 0)), (1, .int (nI (a + 1))), (2, .int (nI (i))), (3, .int (bI (dd)))]) C0 d_M_scrub_139 rfl (by decide) [1, 0, 2, 3] rfl ?_
                refine z_iconst (v := nI 0) C0 d_M_scrub_142 (by decide) ?_
                refine z_istore (lvn := [(0, .ref (y 0)), (1, .int (nI (a + 1))), (2, .int (nI (i))), (3, .int (bI (dd))), (4, .int (nI (0)))]) C0 d_M_scrub_143 (by decide) [1, 2, 3, 4, 0] rfl ?_
                have lw : ∀ (m6 : Nat) (k : Nat) (f : Nat → Int32), (k + m6 = 6) → (sm_scf (mm_f T) (sm_rd (mm_f T) (mm_e T) i).2 (sm_rd (mm_f T) (mm_e T) i).1 i = (if (sm_rd (mm_f T) (mm_e T) i).1 = 2 then sm_wls (sm_rd (mm_f T) (mm_e T) i).2 i m6 k f else f)) → zc_Pt p l e { frames := 3, cells := 0, slots := 0, locals := 69 } s m args below meth c 5 D A 0 0 Q 145 [(0, .ref (y 0)), (1, .int (nI (a + 1))), (2, .int (nI (i))), (3, .int (bI (dd))), (4, .int (nI (k)))] [] (zm_W cI cZ y bc bp (zmk f (mm_w T) (mm_q T) (mm_s T) (mm_k T) (mm_d T) (mm_h T) (mm_x T) (mm_r (sm_act (zmk (mm_f T) (mm_w T) (mm_q T) (mm_s T) (mm_k T) (mm_d T) (mm_h T) (mm_x T) (mm_r T) (mm_c T) (mm_a T) (mm_n T) ((sm_rd (mm_f T) (mm_e T) i).1) ((sm_rd (mm_f T) (mm_e T) i).2))).2) (mm_c (sm_act (zmk (mm_f T) (mm_w T) (mm_q T) (mm_s T) (mm_k T) (mm_d T) (mm_h T) (mm_x T) (mm_r T) (mm_c T) (mm_a T) (mm_n T) ((sm_rd (mm_f T) (mm_e T) i).1) ((sm_rd (mm_f T) (mm_e T) i).2))).2) (mm_a (sm_act (zmk (mm_f T) (mm_w T) (mm_q T) (mm_s T) (mm_k T) (mm_d T) (mm_h T) (mm_x T) (mm_r T) (mm_c T) (mm_a T) (mm_n T) ((sm_rd (mm_f T) (mm_e T) i).1) ((sm_rd (mm_f T) (mm_e T) i).2))).2) (mm_n (sm_act (zmk (mm_f T) (mm_w T) (mm_q T) (mm_s T) (mm_k T) (mm_d T) (mm_h T) (mm_x T) (mm_r T) (mm_c T) (mm_a T) (mm_n T) ((sm_rd (mm_f T) (mm_e T) i).1) ((sm_rd (mm_f T) (mm_e T) i).2))).2) ((sm_rd (mm_f T) (mm_e T) i).1) ((sm_rd (mm_f T) (mm_e T) i).2))) := by
                  intro m6
                  induction m6 with
                  | zero =>
                    intro k f hk hWf
                    refine z_iload C0 d_M_scrub_145 4 rfl ?_
                    refine z_bipush (v := nI 6) C0 d_M_scrub_147 (by decide) ?_
                    refine z_icmpN_ge (tgt := 185) C0 d_M_scrub_149 (by decide) (by omega) (by omega) (fun (c149_5 : 6 ≤ k) => ?_) (fun (c149_5 : k < 6) => ?_)
                    · skip
                      refine z_iload_n C0 d_M_scrub_185 rfl 3 rfl ?_
                      refine z_ifB_eq (tgt := 194) C0 d_M_scrub_186 (by decide) (fun (c186_6 : dd = false) => ?_) (fun (c186_6 : dd = true) => ?_)
                      · skip
                        refine z_iincN (q := 2) (lvn := [(0, .ref (y 0)), (1, .int (nI (a + 1))), (2, .int (nI (i + 1))), (3, .int (bI (dd))), (4, .int (nI (k)))]) C0 d_M_scrub_194 rfl (by decide) [1, 2, 0, 3, 4] rfl ?_
                        refine z_gotoK (tgt := 14) C0 d_M_scrub_197 (by decide) ?_
                        refine z_lv [0, 1, 2] rfl ?_
                        exact ih (i + 1) (a + 1) ((zmk f (mm_w T) (mm_q T) (mm_s T) (mm_k T) (mm_d T) (mm_h T) (mm_x T) (mm_r (sm_act (zmk (mm_f T) (mm_w T) (mm_q T) (mm_s T) (mm_k T) (mm_d T) (mm_h T) (mm_x T) (mm_r T) (mm_c T) (mm_a T) (mm_n T) ((sm_rd (mm_f T) (mm_e T) i).1) ((sm_rd (mm_f T) (mm_e T) i).2))).2) (mm_c (sm_act (zmk (mm_f T) (mm_w T) (mm_q T) (mm_s T) (mm_k T) (mm_d T) (mm_h T) (mm_x T) (mm_r T) (mm_c T) (mm_a T) (mm_n T) ((sm_rd (mm_f T) (mm_e T) i).1) ((sm_rd (mm_f T) (mm_e T) i).2))).2) (mm_a (sm_act (zmk (mm_f T) (mm_w T) (mm_q T) (mm_s T) (mm_k T) (mm_d T) (mm_h T) (mm_x T) (mm_r T) (mm_c T) (mm_a T) (mm_n T) ((sm_rd (mm_f T) (mm_e T) i).1) ((sm_rd (mm_f T) (mm_e T) i).2))).2) (mm_n (sm_act (zmk (mm_f T) (mm_w T) (mm_q T) (mm_s T) (mm_k T) (mm_d T) (mm_h T) (mm_x T) (mm_r T) (mm_c T) (mm_a T) (mm_n T) ((sm_rd (mm_f T) (mm_e T) i).1) ((sm_rd (mm_f T) (mm_e T) i).2))).2) ((sm_rd (mm_f T) (mm_e T) i).1) ((sm_rd (mm_f T) (mm_e T) i).2))) (by omega) (by rw [hR]; show (if (sm_rd (mm_f T) (mm_e T) i).1 = 2 ∨ sm_scd T i = true then (if (sm_act (sm_read T i)).1 = true then _ else _) else _) = _; rw [if_pos hor, if_pos (show (sm_act (sm_read T i)).1 = true from c133_4), sm_actE, ← hdd]; show (sm_scs n (i + 1) (a + 1) (zmk (sm_scg (mm_f T) (sm_rd (mm_f T) (mm_e T) i).2 (sm_rd (mm_f T) (mm_e T) i).1 i dd) _ _ _ _ _ _ _ _ _ _ _ _ _)) = _; have g1 : sm_scf (mm_f T) (sm_rd (mm_f T) (mm_e T) i).2 (sm_rd (mm_f T) (mm_e T) i).1 i = f := hWf.trans (by split <;> rfl); have g2 : sm_scg (mm_f T) (sm_rd (mm_f T) (mm_e T) i).2 (sm_rd (mm_f T) (mm_e T) i).1 i dd = f := (by unfold sm_scg; rw [g1]; exact if_neg (by rw [c186_6]; decide)); rw [g2]; rfl)
                      · skip
                        refine z_aload_n C0 d_M_scrub_189 rfl 0 rfl ?_
                        refine z_iload_n C0 d_M_scrub_190 rfl 2 rfl ?_
                        refine z_allV (As := [.int (nI (i))]) (rest := []) C0 (c_M_erasePage l D cI cZ y bc bp (zmk f (mm_w T) (mm_q T) (mm_s T) (mm_k T) (mm_d T) (mm_h T) (mm_x T) (mm_r (sm_act (zmk (mm_f T) (mm_w T) (mm_q T) (mm_s T) (mm_k T) (mm_d T) (mm_h T) (mm_x T) (mm_r T) (mm_c T) (mm_a T) (mm_n T) ((sm_rd (mm_f T) (mm_e T) i).1) ((sm_rd (mm_f T) (mm_e T) i).2))).2) (mm_c (sm_act (zmk (mm_f T) (mm_w T) (mm_q T) (mm_s T) (mm_k T) (mm_d T) (mm_h T) (mm_x T) (mm_r T) (mm_c T) (mm_a T) (mm_n T) ((sm_rd (mm_f T) (mm_e T) i).1) ((sm_rd (mm_f T) (mm_e T) i).2))).2) (mm_a (sm_act (zmk (mm_f T) (mm_w T) (mm_q T) (mm_s T) (mm_k T) (mm_d T) (mm_h T) (mm_x T) (mm_r T) (mm_c T) (mm_a T) (mm_n T) ((sm_rd (mm_f T) (mm_e T) i).1) ((sm_rd (mm_f T) (mm_e T) i).2))).2) (mm_n (sm_act (zmk (mm_f T) (mm_w T) (mm_q T) (mm_s T) (mm_k T) (mm_d T) (mm_h T) (mm_x T) (mm_r T) (mm_c T) (mm_a T) (mm_n T) ((sm_rd (mm_f T) (mm_e T) i).1) ((sm_rd (mm_f T) (mm_e T) i).2))).2) ((sm_rd (mm_f T) (mm_e T) i).1) ((sm_rd (mm_f T) (mm_e T) i).2)) hB0 (i) (by omega)) mt_M_erasePage ml_M_61 vt_M_erasePage rfl rfl ⟨Nat.le_of_ble_eq_true rfl, Nat.le_of_ble_eq_true rfl⟩ ⟨rfl, rfl⟩ ⟨Nat.zero_le _, Nat.zero_le _⟩ rfl rfl (Nat.le_of_ble_eq_true rfl) d_M_scrub_191 ?_
                        refine z_st (stn := []) rfl ?_
                        refine z_iincN (q := 2) (lvn := [(0, .ref (y 0)), (1, .int (nI (a + 1))), (2, .int (nI (i + 1))), (3, .int (bI (dd))), (4, .int (nI (k)))]) C0 d_M_scrub_194 rfl (by decide) [1, 2, 0, 3, 4] rfl ?_
                        refine z_gotoK (tgt := 14) C0 d_M_scrub_197 (by decide) ?_
                        refine z_lv [0, 1, 2] rfl ?_
                        exact ih (i + 1) (a + 1) ((zmk (sm_er i (f)) (mm_w T) (mm_q T) (mm_s T) (mm_k T) (mm_d T) (mm_h T) (mm_x T) (mm_r (sm_act (zmk (mm_f T) (mm_w T) (mm_q T) (mm_s T) (mm_k T) (mm_d T) (mm_h T) (mm_x T) (mm_r T) (mm_c T) (mm_a T) (mm_n T) ((sm_rd (mm_f T) (mm_e T) i).1) ((sm_rd (mm_f T) (mm_e T) i).2))).2) (mm_c (sm_act (zmk (mm_f T) (mm_w T) (mm_q T) (mm_s T) (mm_k T) (mm_d T) (mm_h T) (mm_x T) (mm_r T) (mm_c T) (mm_a T) (mm_n T) ((sm_rd (mm_f T) (mm_e T) i).1) ((sm_rd (mm_f T) (mm_e T) i).2))).2) (mm_a (sm_act (zmk (mm_f T) (mm_w T) (mm_q T) (mm_s T) (mm_k T) (mm_d T) (mm_h T) (mm_x T) (mm_r T) (mm_c T) (mm_a T) (mm_n T) ((sm_rd (mm_f T) (mm_e T) i).1) ((sm_rd (mm_f T) (mm_e T) i).2))).2) (mm_n (sm_act (zmk (mm_f T) (mm_w T) (mm_q T) (mm_s T) (mm_k T) (mm_d T) (mm_h T) (mm_x T) (mm_r T) (mm_c T) (mm_a T) (mm_n T) ((sm_rd (mm_f T) (mm_e T) i).1) ((sm_rd (mm_f T) (mm_e T) i).2))).2) ((sm_rd (mm_f T) (mm_e T) i).1) ((sm_rd (mm_f T) (mm_e T) i).2))) (by omega) (by rw [hR]; show (if (sm_rd (mm_f T) (mm_e T) i).1 = 2 ∨ sm_scd T i = true then (if (sm_act (sm_read T i)).1 = true then _ else _) else _) = _; rw [if_pos hor, if_pos (show (sm_act (sm_read T i)).1 = true from c133_4), sm_actE, ← hdd]; show (sm_scs n (i + 1) (a + 1) (zmk (sm_scg (mm_f T) (sm_rd (mm_f T) (mm_e T) i).2 (sm_rd (mm_f T) (mm_e T) i).1 i dd) _ _ _ _ _ _ _ _ _ _ _ _ _)) = _; have g1 : sm_scf (mm_f T) (sm_rd (mm_f T) (mm_e T) i).2 (sm_rd (mm_f T) (mm_e T) i).1 i = f := hWf.trans (by split <;> rfl); have g2 : sm_scg (mm_f T) (sm_rd (mm_f T) (mm_e T) i).2 (sm_rd (mm_f T) (mm_e T) i).1 i dd = sm_er i (f) := (by unfold sm_scg; rw [g1]; exact if_pos c186_6); rw [g2]; rfl)
                    · exact absurd c149_5 (by omega)
                  | succ m6 ih2 =>
                    intro k f hk hWf
                    refine z_iload C0 d_M_scrub_145 4 rfl ?_
                    refine z_bipush (v := nI 6) C0 d_M_scrub_147 (by decide) ?_
                    refine z_icmpN_ge (tgt := 185) C0 d_M_scrub_149 (by decide) (by omega) (by omega) (fun (c149_7 : 6 ≤ k) => ?_) (fun (c149_7 : k < 6) => ?_)
                    · exact absurd c149_7 (by omega)
                    · skip
                      refine z_aload_n C0 d_M_scrub_152 rfl 0 rfl ?_
                      refine z_get C0 gf_M_79 0 rfl rfl d_M_scrub_153 ?_
                      refine z_iconst (v := nI 2) C0 d_M_scrub_156 (by decide) ?_
                      refine z_icmpN_ne (tgt := 185) C0 d_M_scrub_157 (by decide) (sm_rd31 _ _ _) (by decide) (fun (c157_8 : (sm_rd (mm_f T) (mm_e T) i).1 ≠ 2) => ?_) (fun (c157_8 : (sm_rd (mm_f T) (mm_e T) i).1 = 2) => ?_)
                      · skip
                        refine z_iload_n C0 d_M_scrub_185 rfl 3 rfl ?_
                        refine z_ifB_eq (tgt := 194) C0 d_M_scrub_186 (by decide) (fun (c186_9 : dd = false) => ?_) (fun (c186_9 : dd = true) => ?_)
                        · skip
                          refine z_iincN (q := 2) (lvn := [(0, .ref (y 0)), (1, .int (nI (a + 1))), (2, .int (nI (i + 1))), (3, .int (bI (dd))), (4, .int (nI (k)))]) C0 d_M_scrub_194 rfl (by decide) [1, 2, 0, 3, 4] rfl ?_
                          refine z_gotoK (tgt := 14) C0 d_M_scrub_197 (by decide) ?_
                          refine z_lv [0, 1, 2] rfl ?_
                          exact ih (i + 1) (a + 1) ((zmk f (mm_w T) (mm_q T) (mm_s T) (mm_k T) (mm_d T) (mm_h T) (mm_x T) (mm_r (sm_act (zmk (mm_f T) (mm_w T) (mm_q T) (mm_s T) (mm_k T) (mm_d T) (mm_h T) (mm_x T) (mm_r T) (mm_c T) (mm_a T) (mm_n T) ((sm_rd (mm_f T) (mm_e T) i).1) ((sm_rd (mm_f T) (mm_e T) i).2))).2) (mm_c (sm_act (zmk (mm_f T) (mm_w T) (mm_q T) (mm_s T) (mm_k T) (mm_d T) (mm_h T) (mm_x T) (mm_r T) (mm_c T) (mm_a T) (mm_n T) ((sm_rd (mm_f T) (mm_e T) i).1) ((sm_rd (mm_f T) (mm_e T) i).2))).2) (mm_a (sm_act (zmk (mm_f T) (mm_w T) (mm_q T) (mm_s T) (mm_k T) (mm_d T) (mm_h T) (mm_x T) (mm_r T) (mm_c T) (mm_a T) (mm_n T) ((sm_rd (mm_f T) (mm_e T) i).1) ((sm_rd (mm_f T) (mm_e T) i).2))).2) (mm_n (sm_act (zmk (mm_f T) (mm_w T) (mm_q T) (mm_s T) (mm_k T) (mm_d T) (mm_h T) (mm_x T) (mm_r T) (mm_c T) (mm_a T) (mm_n T) ((sm_rd (mm_f T) (mm_e T) i).1) ((sm_rd (mm_f T) (mm_e T) i).2))).2) ((sm_rd (mm_f T) (mm_e T) i).1) ((sm_rd (mm_f T) (mm_e T) i).2))) (by omega) (by rw [hR]; show (if (sm_rd (mm_f T) (mm_e T) i).1 = 2 ∨ sm_scd T i = true then (if (sm_act (sm_read T i)).1 = true then _ else _) else _) = _; rw [if_pos hor, if_pos (show (sm_act (sm_read T i)).1 = true from c133_4), sm_actE, ← hdd]; show (sm_scs n (i + 1) (a + 1) (zmk (sm_scg (mm_f T) (sm_rd (mm_f T) (mm_e T) i).2 (sm_rd (mm_f T) (mm_e T) i).1 i dd) _ _ _ _ _ _ _ _ _ _ _ _ _)) = _; have g1 : sm_scf (mm_f T) (sm_rd (mm_f T) (mm_e T) i).2 (sm_rd (mm_f T) (mm_e T) i).1 i = f := hWf.trans (if_neg c157_8); have g2 : sm_scg (mm_f T) (sm_rd (mm_f T) (mm_e T) i).2 (sm_rd (mm_f T) (mm_e T) i).1 i dd = f := (by unfold sm_scg; rw [g1]; exact if_neg (by rw [c186_9]; decide)); rw [g2]; rfl)
                        · skip
                          refine z_aload_n C0 d_M_scrub_189 rfl 0 rfl ?_
                          refine z_iload_n C0 d_M_scrub_190 rfl 2 rfl ?_
                          refine z_allV (As := [.int (nI (i))]) (rest := []) C0 (c_M_erasePage l D cI cZ y bc bp (zmk f (mm_w T) (mm_q T) (mm_s T) (mm_k T) (mm_d T) (mm_h T) (mm_x T) (mm_r (sm_act (zmk (mm_f T) (mm_w T) (mm_q T) (mm_s T) (mm_k T) (mm_d T) (mm_h T) (mm_x T) (mm_r T) (mm_c T) (mm_a T) (mm_n T) ((sm_rd (mm_f T) (mm_e T) i).1) ((sm_rd (mm_f T) (mm_e T) i).2))).2) (mm_c (sm_act (zmk (mm_f T) (mm_w T) (mm_q T) (mm_s T) (mm_k T) (mm_d T) (mm_h T) (mm_x T) (mm_r T) (mm_c T) (mm_a T) (mm_n T) ((sm_rd (mm_f T) (mm_e T) i).1) ((sm_rd (mm_f T) (mm_e T) i).2))).2) (mm_a (sm_act (zmk (mm_f T) (mm_w T) (mm_q T) (mm_s T) (mm_k T) (mm_d T) (mm_h T) (mm_x T) (mm_r T) (mm_c T) (mm_a T) (mm_n T) ((sm_rd (mm_f T) (mm_e T) i).1) ((sm_rd (mm_f T) (mm_e T) i).2))).2) (mm_n (sm_act (zmk (mm_f T) (mm_w T) (mm_q T) (mm_s T) (mm_k T) (mm_d T) (mm_h T) (mm_x T) (mm_r T) (mm_c T) (mm_a T) (mm_n T) ((sm_rd (mm_f T) (mm_e T) i).1) ((sm_rd (mm_f T) (mm_e T) i).2))).2) ((sm_rd (mm_f T) (mm_e T) i).1) ((sm_rd (mm_f T) (mm_e T) i).2)) hB0 (i) (by omega)) mt_M_erasePage ml_M_61 vt_M_erasePage rfl rfl ⟨Nat.le_of_ble_eq_true rfl, Nat.le_of_ble_eq_true rfl⟩ ⟨rfl, rfl⟩ ⟨Nat.zero_le _, Nat.zero_le _⟩ rfl rfl (Nat.le_of_ble_eq_true rfl) d_M_scrub_191 ?_
                          refine z_st (stn := []) rfl ?_
                          refine z_iincN (q := 2) (lvn := [(0, .ref (y 0)), (1, .int (nI (a + 1))), (2, .int (nI (i + 1))), (3, .int (bI (dd))), (4, .int (nI (k)))]) C0 d_M_scrub_194 rfl (by decide) [1, 2, 0, 3, 4] rfl ?_
                          refine z_gotoK (tgt := 14) C0 d_M_scrub_197 (by decide) ?_
                          refine z_lv [0, 1, 2] rfl ?_
                          exact ih (i + 1) (a + 1) ((zmk (sm_er i (f)) (mm_w T) (mm_q T) (mm_s T) (mm_k T) (mm_d T) (mm_h T) (mm_x T) (mm_r (sm_act (zmk (mm_f T) (mm_w T) (mm_q T) (mm_s T) (mm_k T) (mm_d T) (mm_h T) (mm_x T) (mm_r T) (mm_c T) (mm_a T) (mm_n T) ((sm_rd (mm_f T) (mm_e T) i).1) ((sm_rd (mm_f T) (mm_e T) i).2))).2) (mm_c (sm_act (zmk (mm_f T) (mm_w T) (mm_q T) (mm_s T) (mm_k T) (mm_d T) (mm_h T) (mm_x T) (mm_r T) (mm_c T) (mm_a T) (mm_n T) ((sm_rd (mm_f T) (mm_e T) i).1) ((sm_rd (mm_f T) (mm_e T) i).2))).2) (mm_a (sm_act (zmk (mm_f T) (mm_w T) (mm_q T) (mm_s T) (mm_k T) (mm_d T) (mm_h T) (mm_x T) (mm_r T) (mm_c T) (mm_a T) (mm_n T) ((sm_rd (mm_f T) (mm_e T) i).1) ((sm_rd (mm_f T) (mm_e T) i).2))).2) (mm_n (sm_act (zmk (mm_f T) (mm_w T) (mm_q T) (mm_s T) (mm_k T) (mm_d T) (mm_h T) (mm_x T) (mm_r T) (mm_c T) (mm_a T) (mm_n T) ((sm_rd (mm_f T) (mm_e T) i).1) ((sm_rd (mm_f T) (mm_e T) i).2))).2) ((sm_rd (mm_f T) (mm_e T) i).1) ((sm_rd (mm_f T) (mm_e T) i).2))) (by omega) (by rw [hR]; show (if (sm_rd (mm_f T) (mm_e T) i).1 = 2 ∨ sm_scd T i = true then (if (sm_act (sm_read T i)).1 = true then _ else _) else _) = _; rw [if_pos hor, if_pos (show (sm_act (sm_read T i)).1 = true from c133_4), sm_actE, ← hdd]; show (sm_scs n (i + 1) (a + 1) (zmk (sm_scg (mm_f T) (sm_rd (mm_f T) (mm_e T) i).2 (sm_rd (mm_f T) (mm_e T) i).1 i dd) _ _ _ _ _ _ _ _ _ _ _ _ _)) = _; have g1 : sm_scf (mm_f T) (sm_rd (mm_f T) (mm_e T) i).2 (sm_rd (mm_f T) (mm_e T) i).1 i = f := hWf.trans (if_neg c157_8); have g2 : sm_scg (mm_f T) (sm_rd (mm_f T) (mm_e T) i).2 (sm_rd (mm_f T) (mm_e T) i).1 i dd = sm_er i (f) := (by unfold sm_scg; rw [g1]; exact if_pos c186_9); rw [g2]; rfl)
                      · skip
                        refine z_aload_n C0 d_M_scrub_160 rfl 0 rfl ?_
                        refine z_get C0 gf_M_7 0 rfl rfl d_M_scrub_161 ?_
                        refine z_bipush (v := nI 6) C0 d_M_scrub_164 (by decide) ?_
                        refine z_iload_n C0 d_M_scrub_166 rfl 2 rfl ?_
                        refine z_imulN C0 d_M_scrub_167 ?_
                        refine z_iload C0 d_M_scrub_168 4 rfl ?_
                        refine z_iaddN C0 d_M_scrub_170 ?_
                        refine z_aload_n C0 d_M_scrub_171 rfl 0 rfl ?_
                        refine z_get C0 gf_M_42 0 rfl rfl d_M_scrub_172 ?_
                        refine z_iload C0 d_M_scrub_175 4 rfl ?_
                        refine z_iald C0 8 rfl (by omega) (by omega) d_M_scrub_177 ?_
                        refine z_iast C0 1 rfl (by omega) (by omega) d_M_scrub_178 ?_
                        refine z_iincN (q := 4) (lvn := [(0, .ref (y 0)), (1, .int (nI (a + 1))), (2, .int (nI (i))), (3, .int (bI (dd))), (4, .int (nI (k + 1)))]) C0 d_M_scrub_179 rfl (by decide) [1, 2, 3, 4, 0] rfl ?_
                        refine z_gotoK (tgt := 145) C0 d_M_scrub_182 (by decide) ?_
                        refine z_ws (wsn := zm_W cI cZ y bc bp (zmk (upd f (6 * i + k) (((sm_rd (mm_f T) (mm_e T) i).2) (k))) (mm_w T) (mm_q T) (mm_s T) (mm_k T) (mm_d T) (mm_h T) (mm_x T) (mm_r (sm_act (zmk (mm_f T) (mm_w T) (mm_q T) (mm_s T) (mm_k T) (mm_d T) (mm_h T) (mm_x T) (mm_r T) (mm_c T) (mm_a T) (mm_n T) ((sm_rd (mm_f T) (mm_e T) i).1) ((sm_rd (mm_f T) (mm_e T) i).2))).2) (mm_c (sm_act (zmk (mm_f T) (mm_w T) (mm_q T) (mm_s T) (mm_k T) (mm_d T) (mm_h T) (mm_x T) (mm_r T) (mm_c T) (mm_a T) (mm_n T) ((sm_rd (mm_f T) (mm_e T) i).1) ((sm_rd (mm_f T) (mm_e T) i).2))).2) (mm_a (sm_act (zmk (mm_f T) (mm_w T) (mm_q T) (mm_s T) (mm_k T) (mm_d T) (mm_h T) (mm_x T) (mm_r T) (mm_c T) (mm_a T) (mm_n T) ((sm_rd (mm_f T) (mm_e T) i).1) ((sm_rd (mm_f T) (mm_e T) i).2))).2) (mm_n (sm_act (zmk (mm_f T) (mm_w T) (mm_q T) (mm_s T) (mm_k T) (mm_d T) (mm_h T) (mm_x T) (mm_r T) (mm_c T) (mm_a T) (mm_n T) ((sm_rd (mm_f T) (mm_e T) i).1) ((sm_rd (mm_f T) (mm_e T) i).2))).2) ((sm_rd (mm_f T) (mm_e T) i).1) ((sm_rd (mm_f T) (mm_e T) i).2))) rfl ?_
                        exact ih2 (k + 1) (upd f (6 * i + k) (((sm_rd (mm_f T) (mm_e T) i).2) (k))) (by omega) (hWf.trans (by rw [if_pos c157_8, if_pos c157_8]; rfl))
                exact lw (6) (0) (mm_f T) (by omega) (rfl)
              · skip
                refine z_bipush (v := -2) C0 d_M_scrub_136 (by decide) ?_
                exact z_iret C0 hA hQ hr d_M_scrub_138 (by rw [hR, show sm_scs (n + 1) i a T = (-2, (sm_act (sm_read T i)).2) from (by show (if (sm_rd (mm_f T) (mm_e T) i).1 = 2 ∨ sm_scd T i = true then (if (sm_act (sm_read T i)).1 = true then _ else _) else _) = _; rw [if_pos hor]; exact if_neg (by rw [show (sm_act (sm_read T i)).1 = false from c133_4]; decide)), sm_actE]; exact ⟨rfl, rfl⟩)
            refine z_aload_n C0 d_M_scrub_117 rfl 0 rfl ?_
            refine z_get C0 gf_M_79 0 rfl rfl d_M_scrub_118 ?_
            refine z_iconst (v := nI 2) C0 d_M_scrub_121 (by decide) ?_
            refine z_icmpN_eq (tgt := 129) C0 d_M_scrub_122 (by decide) (sm_rd31 _ _ _) (by decide) (fun (c122_10 : (sm_rd (mm_f T) (mm_e T) i).1 = 2) => ?_) (fun (c122_10 : (sm_rd (mm_f T) (mm_e T) i).1 ≠ 2) => ?_)
            · skip
              exact jn129  (Or.inl c122_10)
            · skip
              refine z_iload_n C0 d_M_scrub_125 rfl 3 rfl ?_
              refine z_ifB_eq (tgt := 194) C0 d_M_scrub_126 (by decide) (fun (c126_11 : dd = false) => ?_) (fun (c126_11 : dd = true) => ?_)
              · skip
                refine z_iincN (q := 2) (lvn := [(0, .ref (y 0)), (1, .int (nI (a))), (2, .int (nI (i + 1))), (3, .int (bI (dd)))]) C0 d_M_scrub_194 rfl (by decide) [1, 2, 0, 3] rfl ?_
                refine z_gotoK (tgt := 14) C0 d_M_scrub_197 (by decide) ?_
                refine z_lv [0, 1, 2] rfl ?_
                exact ih (i + 1) (a) ((zmk (mm_f T) (mm_w T) (mm_q T) (mm_s T) (mm_k T) (mm_d T) (mm_h T) (mm_x T) (mm_r T) (mm_c T) (mm_a T) (mm_n T) ((sm_rd (mm_f T) (mm_e T) i).1) ((sm_rd (mm_f T) (mm_e T) i).2))) (by omega) (by rw [hR]; show (if (sm_rd (mm_f T) (mm_e T) i).1 = 2 ∨ sm_scd T i = true then _ else _) = _; rw [if_neg (fun z => z.elim (fun q => absurd (show (sm_rd (mm_f T) (mm_e T) i).1 = 2 from q) c122_10) (fun q => absurd ((hdd.trans q).symm.trans c126_11) (by decide)))]; rfl)
              · skip
                exact jn129  (Or.inr (hdd ▸ c126_11))
          refine z_aload_n C0 d_M_scrub_27 rfl 0 rfl ?_
          refine z_get C0 gf_M_79 0 rfl rfl d_M_scrub_28 ?_
          refine z_ifN_ne (tgt := 115) C0 d_M_scrub_31 (by decide) (sm_rd31 _ _ _) (fun c31_12 => ?_) (fun c31_12 => ?_)
          · skip
            refine z_iconst (v := nI 0) C0 d_M_scrub_115 (by decide) ?_
            refine z_topi (x := nI 0) (xn := bI false) (by decide) ?_
            exact jn116 (false) (by show _ = sm_dd (mm_f T) (sm_rd (mm_f T) (mm_e T) i).1 i; unfold sm_dd; rw [decide_eq_false (show ¬ (sm_rd (mm_f T) (mm_e T) i).1 = 0 from Nat.pos_iff_ne_zero.mp c31_12)]; rfl)
          · skip
            refine z_aload_n C0 d_M_scrub_34 rfl 0 rfl ?_
            refine z_get C0 gf_M_7 0 rfl rfl d_M_scrub_35 ?_
            refine z_bipush (v := nI 6) C0 d_M_scrub_38 (by decide) ?_
            refine z_iload_n C0 d_M_scrub_40 rfl 2 rfl ?_
            refine z_imulN C0 d_M_scrub_41 ?_
            refine z_iconst (v := nI 5) C0 d_M_scrub_42 (by decide) ?_
            refine z_iaddN C0 d_M_scrub_43 ?_
            refine z_iald C0 1 rfl (by omega) (by omega) d_M_scrub_44 ?_
            refine z_ldc (v := 262143) C0 ck_M_60 d_M_scrub_45 ?_
            refine z_icmp_ne (tgt := 111) C0 d_M_scrub_47 (by decide) (fun (c47_13 : ¬ ((mm_f T) (6 * i + 5)) = 262143) => ?_) (fun (c47_13 : ((mm_f T) (6 * i + 5)) = 262143) => ?_)
            · skip
              refine z_iconst (v := nI 1) C0 d_M_scrub_111 (by decide) ?_
              refine z_gotoK (tgt := 116) C0 d_M_scrub_112 (by decide) ?_
              refine z_topi (x := nI 1) (xn := bI true) (by decide) ?_
              exact jn116 (true) (by show _ = sm_dd (mm_f T) (sm_rd (mm_f T) (mm_e T) i).1 i; unfold sm_dd sm_drt; rw [decide_eq_true (show (sm_rd (mm_f T) (mm_e T) i).1 = 0 from c31_12), decide_eq_false (show ¬ mm_f T (6 * i + 5) = 262143 from c47_13)]; rfl)
            · skip
              refine z_aload_n C0 d_M_scrub_50 rfl 0 rfl ?_
              refine z_get C0 gf_M_7 0 rfl rfl d_M_scrub_51 ?_
              refine z_bipush (v := nI 6) C0 d_M_scrub_54 (by decide) ?_
              refine z_iload_n C0 d_M_scrub_56 rfl 2 rfl ?_
              refine z_imulN C0 d_M_scrub_57 ?_
              refine z_iald C0 1 rfl (by omega) (by omega) d_M_scrub_58 ?_
              refine z_aload_n C0 d_M_scrub_59 rfl 0 rfl ?_
              refine z_get C0 gf_M_7 0 rfl rfl d_M_scrub_60 ?_
              refine z_bipush (v := nI 6) C0 d_M_scrub_63 (by decide) ?_
              refine z_iload_n C0 d_M_scrub_65 rfl 2 rfl ?_
              refine z_imulN C0 d_M_scrub_66 ?_
              refine z_iconst (v := nI 1) C0 d_M_scrub_67 (by decide) ?_
              refine z_iaddN C0 d_M_scrub_68 ?_
              refine z_iald C0 1 rfl (by omega) (by omega) d_M_scrub_69 ?_
              refine z_iand C0 d_M_scrub_70 ?_
              refine z_aload_n C0 d_M_scrub_71 rfl 0 rfl ?_
              refine z_get C0 gf_M_7 0 rfl rfl d_M_scrub_72 ?_
              refine z_bipush (v := nI 6) C0 d_M_scrub_75 (by decide) ?_
              refine z_iload_n C0 d_M_scrub_77 rfl 2 rfl ?_
              refine z_imulN C0 d_M_scrub_78 ?_
              refine z_iconst (v := nI 2) C0 d_M_scrub_79 (by decide) ?_
              refine z_iaddN C0 d_M_scrub_80 ?_
              refine z_iald C0 1 rfl (by omega) (by omega) d_M_scrub_81 ?_
              refine z_iand C0 d_M_scrub_82 ?_
              refine z_aload_n C0 d_M_scrub_83 rfl 0 rfl ?_
              refine z_get C0 gf_M_7 0 rfl rfl d_M_scrub_84 ?_
              refine z_bipush (v := nI 6) C0 d_M_scrub_87 (by decide) ?_
              refine z_iload_n C0 d_M_scrub_89 rfl 2 rfl ?_
              refine z_imulN C0 d_M_scrub_90 ?_
              refine z_iconst (v := nI 3) C0 d_M_scrub_91 (by decide) ?_
              refine z_iaddN C0 d_M_scrub_92 ?_
              refine z_iald C0 1 rfl (by omega) (by omega) d_M_scrub_93 ?_
              refine z_iand C0 d_M_scrub_94 ?_
              refine z_aload_n C0 d_M_scrub_95 rfl 0 rfl ?_
              refine z_get C0 gf_M_7 0 rfl rfl d_M_scrub_96 ?_
              refine z_bipush (v := nI 6) C0 d_M_scrub_99 (by decide) ?_
              refine z_iload_n C0 d_M_scrub_101 rfl 2 rfl ?_
              refine z_imulN C0 d_M_scrub_102 ?_
              refine z_iconst (v := nI 4) C0 d_M_scrub_103 (by decide) ?_
              refine z_iaddN C0 d_M_scrub_104 ?_
              refine z_iald C0 1 rfl (by omega) (by omega) d_M_scrub_105 ?_
              refine z_iand C0 d_M_scrub_106 ?_
              refine z_iconst (v := -1) C0 d_M_scrub_107 (by decide) ?_
              refine z_icmp_eq (tgt := 115) C0 d_M_scrub_108 (by decide) (fun (c108_14 : ((((((mm_f T) (6 * i)) &&& ((mm_f T) (6 * i + 1))) &&& ((mm_f T) (6 * i + 2))) &&& ((mm_f T) (6 * i + 3))) &&& ((mm_f T) (6 * i + 4))) = (-1)) => ?_) (fun (c108_14 : ¬ ((((((mm_f T) (6 * i)) &&& ((mm_f T) (6 * i + 1))) &&& ((mm_f T) (6 * i + 2))) &&& ((mm_f T) (6 * i + 3))) &&& ((mm_f T) (6 * i + 4))) = (-1)) => ?_)
              · skip
                refine z_iconst (v := nI 0) C0 d_M_scrub_115 (by decide) ?_
                refine z_topi (x := nI 0) (xn := bI false) (by decide) ?_
                exact jn116 (false) (by show _ = sm_dd (mm_f T) (sm_rd (mm_f T) (mm_e T) i).1 i; unfold sm_dd sm_drt; rw [decide_eq_true (show (sm_rd (mm_f T) (mm_e T) i).1 = 0 from c31_12), decide_eq_true (show mm_f T (6 * i + 5) = 262143 from c47_13), decide_eq_true c108_14]; rfl)
              · skip
                refine z_iconst (v := nI 1) C0 d_M_scrub_111 (by decide) ?_
                refine z_gotoK (tgt := 116) C0 d_M_scrub_112 (by decide) ?_
                refine z_topi (x := nI 1) (xn := bI true) (by decide) ?_
                exact jn116 (true) (by show _ = sm_dd (mm_f T) (sm_rd (mm_f T) (mm_e T) i).1 i; unfold sm_dd sm_drt; rw [decide_eq_true (show (sm_rd (mm_f T) (mm_e T) i).1 = 0 from c31_12), decide_eq_true (show mm_f T (6 * i + 5) = 262143 from c47_13), decide_eq_false c108_14]; rfl)
    exact lp14 (bc * bp) (0) (0) (M) (by omega) (if_pos c4_1)
  · skip
    refine z_bipush (v := -2) C0 d_M_scrub_7 (by decide) ?_
    exact z_iret C0 hA hQ hr d_M_scrub_9 (by rw [show sm_scrub bc bp M = (-2, M) from (if_neg (by rw [c4_1]; decide))]; exact ⟨rfl, rfl⟩)
