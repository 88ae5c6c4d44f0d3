set_option maxHeartbeats 4000000 in
set_option maxRecDepth 100000 in
theorem c_M_mount (l : Launch) (D : va_G) (cI cZ : ClassId) (y : Nat → Nat) (bc bp : Nat) (M : zm_S) (hB : zb_ok bc bp)  (hok : sm_moOk bc bp M) : zc_Con l y_M_mount b_M_mount 5 (some .int) { frames := 5, cells := 0, slots := 0, locals := 118 } D cI cZ [.ref (y 0)] (zm_W cI cZ y bc bp M) (zo (some (.int ((sm_mount bc bp M).1))) (zm_W cI cZ y bc bp ((sm_mount bc bp M).2))) := by
  refine zc_start (by decide) (Nat.le_of_ble_eq_true rfl) ?_
  intro p e s m args below meth c A Q hA hQ C0 hr hin
  have C0 : zc_Cx p s m args meth c b_M_mount 5 R_M D cI cZ A := C0
  have hB0 := hB
  obtain ⟨hB1, hB2, hB3, hB4⟩ := hB
  have hN : bc * bp ≤ 20 := Nat.mul_le_mul hB2 hB4
  refine z_lvs (lvn := [(0, .ref (y 0))]) rfl ?_
  refine z_aload_n C0 d_M_mount_0 rfl 0 rfl ?_
  refine z_iconst (v := nI 0) C0 d_M_mount_1 (by decide) ?_
  refine z_topi (x := nI 0) (xn := bI false) (by decide) ?_
  refine z_put C0 gf_M_69 pf_M_11 0 rfl (bI_nar _) (bI_fit _) (Nat.le_of_ble_eq_true rfl) d_M_mount_2 ?_
  refine z_aload_n C0 d_M_mount_5 rfl 0 rfl ?_
  refine z_iconst (v := -1) C0 d_M_mount_6 (by decide) ?_
  refine z_put C0 gf_M_39 pf_M_14 0 rfl rfl rfl (Nat.le_of_ble_eq_true rfl) d_M_mount_7 ?_
  refine z_aload_n C0 d_M_mount_10 rfl 0 rfl ?_
  refine z_iconst (v := nI 1) C0 d_M_mount_11 (by decide) ?_
  refine z_topi (x := nI 1) (xn := bI true) (by decide) ?_
  refine z_put C0 gf_M_65 pf_M_10 0 rfl (bI_nar _) (bI_fit _) (Nat.le_of_ble_eq_true rfl) d_M_mount_12 ?_
  refine z_iconst (v := nI 0) C0 d_M_mount_15 (by decide) ?_
  refine z_topi (x := nI 0) (xn := bI false) (by decide) ?_
  refine z_istore_n (lvn := [(0, .ref (y 0)), (1, .int (bI (false)))]) C0 d_M_mount_16 rfl (by decide) [1, 0] rfl ?_
  refine z_iconst (v := nI 0) C0 d_M_mount_17 (by decide) ?_
  refine z_topi (x := nI 0) (xn := 0) (by decide) ?_
  refine z_istore_n (lvn := [(0, .ref (y 0)), (1, .int (bI (false))), (2, .int (0))]) C0 d_M_mount_18 rfl (by decide) [1, 2, 0] rfl ?_
  refine z_iconst (v := nI 0) C0 d_M_mount_19 (by decide) ?_
  refine z_istore_n (lvn := [(0, .ref (y 0)), (1, .int (bI (false))), (2, .int (0)), (3, .int (nI (0)))]) C0 d_M_mount_20 rfl (by decide) [1, 2, 3, 0] rfl ?_
  have lp21 : ∀ (n : Nat) (i : Nat) (any : Bool) (gr : Int32) (T : zm_S), (i + n = bc * bp) → (sm_mg bc bp M = sm_ms n i T any gr) → zc_Pt p l e { frames := 5, cells := 0, slots := 0, locals := 118 } s m args below meth c 5 D A 0 0 Q 21 [(0, .ref (y 0)), (1, .int (bI (any))), (2, .int (gr)), (3, .int (nI (i)))] [] (zm_W cI cZ y bc bp T) := by
    intro n
    induction n with
    | zero =>
      intro i any gr T hi hR
      refine z_iload_n C0 d_M_mount_21 rfl 3 rfl ?_
      refine z_aload_n C0 d_M_mount_22 rfl 0 rfl ?_
      refine z_get C0 gf_M_51 0 rfl rfl d_M_mount_23 ?_
      refine z_icmpN_ge (tgt := 180) C0 d_M_mount_26 (by decide) (by omega) (by omega) (fun (c26_1 : bc * bp ≤ i) => ?_) (fun (c26_1 : i < bc * bp) => ?_)
      · skip
        refine z_aload_n C0 d_M_mount_180 rfl 0 rfl ?_
        refine z_get C0 gf_M_65 0 rfl rfl d_M_mount_181 ?_
        refine z_ifB_ne (tgt := 189) C0 d_M_mount_184 (by decide) (fun (c184_2 : mm_r T = true) => ?_) (fun (c184_2 : mm_r T = false) => ?_)
        · skip
          have jn204 : ∀ (xv : Int32), (xv = sm_mnx any gr) → zc_Pt p l e { frames := 5, cells := 0, slots := 0, locals := 118 } s m args below meth c 5 D A 0 0 Q 204 [(0, .ref (y 0)), (1, .int (bI (any))), (2, .int (gr)), (3, .int (nI (i)))] [] (zm_W cI cZ y bc bp (zmk (mm_f T) (mm_w T) (mm_q T) (mm_s T) (mm_k T) (mm_d T) (mm_h T) xv (mm_r T) (mm_c T) (mm_a T) (mm_n T) (mm_t T) (mm_e T))) := by
            intro xv hxv
            refine z_aload_n C0 d_M_mount_204 rfl 0 rfl ?_
            refine z_iconst (v := -1) C0 d_M_mount_205 (by decide) ?_
            refine z_topi (x := -1) (xn := oN none) rfl ?_
            refine z_put C0 gf_M_32 pf_M_12 0 rfl rfl rfl (Nat.le_of_ble_eq_true rfl) d_M_mount_206 ?_
            refine z_aload_n C0 d_M_mount_209 rfl 0 rfl ?_
            refine z_get C0 gf_M_45 0 rfl rfl d_M_mount_210 ?_
            refine z_iconst (v := 1) C0 d_M_mount_213 (by decide) ?_
            refine z_isub C0 d_M_mount_214 ?_
            refine z_istore_n (lvn := [(0, .ref (y 0)), (1, .int (bI (any))), (2, .int (gr)), (3, .int ((nI (bc)) - 1))]) C0 d_M_mount_215 rfl (by decide) [1, 2, 3, 0] rfl ?_
            have lh : ∀ (n : Nat) (h : Option Nat), (n ≤ bc) → (sm_mhs bp (mm_w T) bc none = sm_mhs bp (mm_w T) n h) → zc_Pt p l e { frames := 5, cells := 0, slots := 0, locals := 118 } s m args below meth c 5 D A 0 0 Q 216 [(0, .ref (y 0)), (1, .int (bI (any))), (2, .int (gr)), (3, .int (nI n - 1))] [] (zm_W cI cZ y bc bp (zmk (mm_f T) (mm_w T) (mm_q T) (mm_s T) (mm_k T) (mm_d T) h xv (mm_r T) (mm_c T) (mm_a T) (mm_n T) (mm_t T) (mm_e T))) := by
              intro n
              induction n with
              | zero =>
                intro h hin2 hH
                refine z_lvs (lvn := [(0, .ref (y 0)), (1, .int (bI (any))), (2, .int (gr)), (3, .int (-1))]) (by rw [show nI 0 - 1 = (-1 : Int32) by decide]) ?_
                refine z_iload_n C0 d_M_mount_216 rfl 3 rfl ?_
                refine z_if_lt (tgt := 259) C0 d_M_mount_217 (by decide) (fun c217_3 => ?_) (fun c217_3 => ?_)
                · skip
                  have hHE : (zmk (mm_f T) (mm_w T) (mm_q T) (mm_s T) (mm_k T) (mm_d T) h xv (mm_r T) (mm_c T) (mm_a T) (mm_n T) (mm_t T) (mm_e T)) = sm_mhd bc bp T (sm_mnx any gr) := by rw [← hxv]; unfold sm_mhd; rw [hH]; rfl
                  obtain ⟨HE, hHE2⟩ : ∃ HE, sm_mhd bc bp T (sm_mnx any gr) = HE := ⟨_, rfl⟩
                  refine z_ws (wsn := zm_W cI cZ y bc bp HE) (by rw [← hHE2, ← hHE]) ?_
                  have hhE : zh_ok bc (mm_h HE) := by rw [← hHE2]; exact sm_mhs_ok bc bp (mm_w T)
                  have hR3 : sm_mount bc bp M = sm_mo1 bc bp (sm_mcl bc bp HE) := by unfold sm_mount; rw [hR]; exact (if_pos c184_2).trans (by rw [← hHE2]; rfl)
                  have hokE : sm_fr bc bp (mm_w HE) = 0 → ∀ b, sm_choose bc bp HE = some b → sm_clOk bc bp HE b := by have z := hok; unfold sm_moOk at z; rw [hR] at z; have z2 := z c184_2; rw [show sm_mh bc bp (sm_ms 0 i T any gr) = HE from hHE2] at z2; exact z2
                  have jn281 : ∀ (U : zm_S), (zh_ok bc (mm_h U)) → (sm_mount bc bp M = sm_mo1 bc bp U) → zc_Pt p l e { frames := 5, cells := 0, slots := 0, locals := 118 } s m args below meth c 5 D A 0 0 Q 281 [(0, .ref (y 0)), (1, .int (bI (any))), (2, .int (gr))] [] (zm_W cI cZ y bc bp U) := by
                    intro U hhU hRU
                    refine z_aload_n C0 d_M_mount_281 rfl 0 rfl ?_
                    refine z_allV (As := []) (rest := []) C0 (c_M_heldKeys l D cI cZ y bc bp U hB0  (hhU)) mt_M_heldKeys ml_M_142 vt_M_heldKeys rfl rfl ⟨Nat.le_of_ble_eq_true rfl, Nat.le_of_ble_eq_true rfl⟩ ⟨rfl, rfl⟩ ⟨Nat.zero_le _, Nat.zero_le _⟩ rfl rfl (Nat.le_of_ble_eq_true rfl) d_M_mount_282 ?_
                    refine z_st (stn := [.int (nI (sm_hks bc bp U 16 0 0))]) rfl ?_
                    exact z_iret C0 hA hQ hr d_M_mount_285 (by rw [hRU]; exact ⟨rfl, rfl⟩)
                  refine z_aload_n C0 d_M_mount_259 rfl 0 rfl ?_
                  refine z_allV (As := []) (rest := []) C0 (c_M_frees l D cI cZ y bc bp HE hB0  ) mt_M_frees ml_M_114 vt_M_frees rfl rfl ⟨Nat.le_of_ble_eq_true rfl, Nat.le_of_ble_eq_true rfl⟩ ⟨rfl, rfl⟩ ⟨Nat.zero_le _, Nat.zero_le _⟩ rfl rfl (Nat.le_of_ble_eq_true rfl) d_M_mount_260 ?_
                  refine z_st (stn := [.int (nI (sm_fr bc bp (mm_w HE)))]) rfl ?_
                  refine z_ifN_ne (tgt := 281) C0 d_M_mount_263 (by decide) (Nat.lt_of_le_of_lt (sm_frLe _ _ _) (by omega)) (fun c263_4 => ?_) (fun c263_4 => ?_)
                  · skip
                    refine z_lv [0, 1, 2] rfl ?_
                    exact jn281 (HE) (hhE) (hR3.trans (by rw [show sm_mcl bc bp HE = HE from if_neg (Nat.pos_iff_ne_zero.mp c263_4)]))
                  · skip
                    refine z_aload_n C0 d_M_mount_266 rfl 0 rfl ?_
                    refine z_allV (As := []) (rest := []) C0 (c_M_chosen l D cI cZ y bc bp HE hB0  (hhE)) mt_M_chosen ml_M_133 vt_M_chosen rfl rfl ⟨Nat.le_of_ble_eq_true rfl, Nat.le_of_ble_eq_true rfl⟩ ⟨rfl, rfl⟩ ⟨Nat.zero_le _, Nat.zero_le _⟩ rfl rfl (Nat.le_of_ble_eq_true rfl) d_M_mount_267 ?_
                    refine z_st (stn := [.int (oN (sm_choose bc bp HE))]) rfl ?_
                    refine z_istore_n (lvn := [(0, .ref (y 0)), (1, .int (bI (any))), (2, .int (gr)), (3, .int (oN (sm_choose bc bp HE)))]) C0 d_M_mount_270 rfl (by decide) [1, 2, 3, 0] rfl ?_
                    refine z_iload_n C0 d_M_mount_271 rfl 3 rfl ?_
                    rcases e272_5 : sm_choose bc bp HE with _ | g272_6
                    · refine z_st (stn := [.int (-1)]) (by first | rfl | (rw [e272_5]; rfl)) ?_
                      refine z_lvs (lvn := [(0, .ref (y 0)), (1, .int (bI (any))), (2, .int (gr)), (3, .int (-1))]) (by first | rfl | (rw [e272_5]; rfl)) ?_
                      refine z_if_lt (tgt := 281) C0 d_M_mount_272 (by decide) (fun c272_7 => ?_) (fun c272_7 => ?_)
                      · skip
                        refine z_lv [0, 1, 2] rfl ?_
                        exact jn281 (HE) (hhE) (hR3.trans (by rw [show sm_mcl bc bp HE = HE from (by unfold sm_mcl; rw [if_pos c263_4, e272_5]; rfl)]))
                      · exact absurd (by decide) c272_7
                    · refine z_st (stn := [.int (nI (g272_6))]) (by first | rfl | (rw [e272_5]; rfl)) ?_
                      refine z_lvs (lvn := [(0, .ref (y 0)), (1, .int (bI (any))), (2, .int (gr)), (3, .int (nI (g272_6)))]) (by first | rfl | (rw [e272_5]; rfl)) ?_
                      have hb272 := sm_choose_lt e272_5
                      refine z_if_lt (tgt := 281) C0 d_M_mount_272 (by decide) (fun c272_8 => ?_) (fun c272_8 => ?_)
                      · exact absurd c272_8 (nI_pos (by omega))
                      · skip
                        refine z_aload_n C0 d_M_mount_275 rfl 0 rfl ?_
                        refine z_iload_n C0 d_M_mount_276 rfl 3 rfl ?_
                        refine z_allV (As := [.int (nI (g272_6))]) (rest := []) C0 (c_M_clean l D cI cZ y bc bp HE hB0 (g272_6) (hhE) (sm_choose_lt e272_5) (hokE c263_4 _ e272_5)) mt_M_clean ml_M_136 vt_M_clean rfl rfl ⟨Nat.le_of_ble_eq_true rfl, Nat.le_of_ble_eq_true rfl⟩ ⟨rfl, rfl⟩ ⟨Nat.zero_le _, Nat.zero_le _⟩ rfl rfl (Nat.le_of_ble_eq_true rfl) d_M_mount_277 ?_
                        refine z_st (stn := [.int (bI ((sm_clean bc bp HE g272_6).1))]) rfl ?_
                        refine z_pop C0 d_M_mount_280 rfl ?_
                        refine z_lv [0, 1, 2] rfl ?_
                        exact jn281 (((sm_clean bc bp HE g272_6).2)) (sm_clean_hh _ hhE) (hR3.trans (by rw [show sm_mcl bc bp HE = (sm_clean bc bp HE g272_6).2 from (by unfold sm_mcl; rw [if_pos c263_4, e272_5]; rfl)]))
                · exact absurd (by decide) c217_3
              | succ n ih =>
                intro h hin2 hH
                refine z_lvs (lvn := [(0, .ref (y 0)), (1, .int (bI (any))), (2, .int (gr)), (3, .int (nI (n)))]) (by rw [nI_pred]) ?_
                refine z_iload_n C0 d_M_mount_216 rfl 3 rfl ?_
                refine z_if_lt (tgt := 259) C0 d_M_mount_217 (by decide) (fun c217_9 => ?_) (fun c217_9 => ?_)
                · exact absurd c217_9 (nI_pos (by omega))
                · skip
                  refine z_aload_n C0 d_M_mount_220 rfl 0 rfl ?_
                  refine z_iload_n C0 d_M_mount_221 rfl 3 rfl ?_
                  refine z_allV (As := [.int (nI (n))]) (rest := []) C0 (c_M_writtenOf l D cI cZ y bc bp (zmk (mm_f T) (mm_w T) (mm_q T) (mm_s T) (mm_k T) (mm_d T) h xv (mm_r T) (mm_c T) (mm_a T) (mm_n T) (mm_t T) (mm_e T)) hB0 (n) (by omega)) mt_M_writtenOf ml_M_101 vt_M_writtenOf rfl rfl ⟨Nat.le_of_ble_eq_true rfl, Nat.le_of_ble_eq_true rfl⟩ ⟨rfl, rfl⟩ ⟨Nat.zero_le _, Nat.zero_le _⟩ rfl rfl (Nat.le_of_ble_eq_true rfl) d_M_mount_222 ?_
                  refine z_st (stn := [.int (nI (sm_wr bp (mm_w T) n))]) rfl ?_
                  refine z_istore (lvn := [(0, .ref (y 0)), (1, .int (bI (any))), (2, .int (gr)), (3, .int (nI (n))), (4, .int (nI (sm_wr bp (mm_w T) n)))]) C0 d_M_mount_225 (by decide) [1, 2, 3, 4, 0] rfl ?_
                  refine z_aload_n C0 d_M_mount_227 rfl 0 rfl ?_
                  refine z_iload C0 d_M_mount_228 4 rfl ?_
                  refine z_ifN_le (tgt := 246) C0 d_M_mount_230 (by decide) (Nat.lt_of_le_of_lt (sm_wrLe _ _ _) (by omega)) (fun c230_10 => ?_) (fun c230_10 => ?_)
                  · skip
                    refine z_aload_n C0 d_M_mount_246 rfl 0 rfl ?_
                    refine z_get C0 gf_M_32 0 rfl rfl d_M_mount_247 ?_
                    refine z_put C0 gf_M_32 pf_M_12 0 rfl rfl rfl (Nat.le_of_ble_eq_true rfl) d_M_mount_250 ?_
                    refine z_iinc (q := 3) (lvn := [(0, .ref (y 0)), (1, .int (bI (any))), (2, .int (gr)), (3, .int (nI (n) - 1)), (4, .int (nI (sm_wr bp (mm_w T) n)))]) C0 d_M_mount_253 rfl (i_dec _) (by decide) [1, 2, 3, 0, 4] rfl ?_
                    refine z_gotoK (tgt := 216) C0 d_M_mount_256 (by decide) ?_
                    refine z_lv [0, 1, 2, 3] rfl ?_
                    refine z_ws (wsn := zm_W cI cZ y bc bp (zmk (mm_f T) (mm_w T) (mm_q T) (mm_s T) (mm_k T) (mm_d T) h xv (mm_r T) (mm_c T) (mm_a T) (mm_n T) (mm_t T) (mm_e T))) rfl ?_
                    exact ih (h) (by omega) (by rw [hH]; show sm_mhs bp (mm_w T) n (if 0 < sm_wr bp (mm_w T) n ∧ sm_wr bp (mm_w T) n < bp then some n else h) = _; rw [if_neg (fun z => Nat.pos_iff_ne_zero.mp z.1 c230_10)])
                  · skip
                    refine z_iload C0 d_M_mount_233 4 rfl ?_
                    refine z_aload_n C0 d_M_mount_235 rfl 0 rfl ?_
                    refine z_get C0 gf_M_48 0 rfl rfl d_M_mount_236 ?_
                    refine z_icmpN_ge (tgt := 246) C0 d_M_mount_239 (by decide) (Nat.lt_of_le_of_lt (sm_wrLe _ _ _) (by omega)) (by omega) (fun (c239_11 : bp ≤ sm_wr bp (mm_w T) n) => ?_) (fun (c239_11 : sm_wr bp (mm_w T) n < bp) => ?_)
                    · skip
                      refine z_aload_n C0 d_M_mount_246 rfl 0 rfl ?_
                      refine z_get C0 gf_M_32 0 rfl rfl d_M_mount_247 ?_
                      refine z_put C0 gf_M_32 pf_M_12 0 rfl rfl rfl (Nat.le_of_ble_eq_true rfl) d_M_mount_250 ?_
                      refine z_iinc (q := 3) (lvn := [(0, .ref (y 0)), (1, .int (bI (any))), (2, .int (gr)), (3, .int (nI (n) - 1)), (4, .int (nI (sm_wr bp (mm_w T) n)))]) C0 d_M_mount_253 rfl (i_dec _) (by decide) [1, 2, 3, 0, 4] rfl ?_
                      refine z_gotoK (tgt := 216) C0 d_M_mount_256 (by decide) ?_
                      refine z_lv [0, 1, 2, 3] rfl ?_
                      refine z_ws (wsn := zm_W cI cZ y bc bp (zmk (mm_f T) (mm_w T) (mm_q T) (mm_s T) (mm_k T) (mm_d T) h xv (mm_r T) (mm_c T) (mm_a T) (mm_n T) (mm_t T) (mm_e T))) rfl ?_
                      exact ih (h) (by omega) (by rw [hH]; show sm_mhs bp (mm_w T) n (if 0 < sm_wr bp (mm_w T) n ∧ sm_wr bp (mm_w T) n < bp then some n else h) = _; rw [if_neg (fun z => Nat.not_lt.mpr c239_11 z.2)])
                    · skip
                      refine z_iload_n C0 d_M_mount_242 rfl 3 rfl ?_
                      refine z_gotoK (tgt := 250) C0 d_M_mount_243 (by decide) ?_
                      refine z_topi (x := nI (n)) (xn := oN (some (n))) rfl ?_
                      refine z_put C0 gf_M_32 pf_M_12 0 rfl rfl rfl (Nat.le_of_ble_eq_true rfl) d_M_mount_250 ?_
                      refine z_iinc (q := 3) (lvn := [(0, .ref (y 0)), (1, .int (bI (any))), (2, .int (gr)), (3, .int (nI (n) - 1)), (4, .int (nI (sm_wr bp (mm_w T) n)))]) C0 d_M_mount_253 rfl (i_dec _) (by decide) [1, 2, 3, 0, 4] rfl ?_
                      refine z_gotoK (tgt := 216) C0 d_M_mount_256 (by decide) ?_
                      refine z_lv [0, 1, 2, 3] rfl ?_
                      refine z_ws (wsn := zm_W cI cZ y bc bp (zmk (mm_f T) (mm_w T) (mm_q T) (mm_s T) (mm_k T) (mm_d T) (some (n)) xv (mm_r T) (mm_c T) (mm_a T) (mm_n T) (mm_t T) (mm_e T))) rfl ?_
                      exact ih (some (n)) (by omega) (by rw [hH]; show sm_mhs bp (mm_w T) n (if 0 < sm_wr bp (mm_w T) n ∧ sm_wr bp (mm_w T) n < bp then some n else h) = _; rw [if_pos ⟨c230_10, c239_11⟩])
            refine z_ws (wsn := zm_W cI cZ y bc bp (zmk (mm_f T) (mm_w T) (mm_q T) (mm_s T) (mm_k T) (mm_d T) none xv (mm_r T) (mm_c T) (mm_a T) (mm_n T) (mm_t T) (mm_e T))) rfl ?_
            exact lh (bc) (none) (by omega) (rfl)
          refine z_aload_n C0 d_M_mount_189 rfl 0 rfl ?_
          refine z_iload_n C0 d_M_mount_190 rfl 1 rfl ?_
          refine z_ifB_eq (tgt := 200) C0 d_M_mount_191 (by decide) (fun (c191_12 : any = false) => ?_) (fun (c191_12 : any = true) => ?_)
          · skip
            refine z_iconst (v := 1) C0 d_M_mount_200 (by decide) ?_
            refine z_put C0 gf_M_36 pf_M_13 0 rfl rfl rfl (Nat.le_of_ble_eq_true rfl) d_M_mount_201 ?_
            refine z_ws (wsn := zm_W cI cZ y bc bp (zmk (mm_f T) (mm_w T) (mm_q T) (mm_s T) (mm_k T) (mm_d T) (mm_h T) 1 (mm_r T) (mm_c T) (mm_a T) (mm_n T) (mm_t T) (mm_e T))) rfl ?_
            exact jn204 (1) ((if_neg (by rw [c191_12]; decide)).symm)
          · skip
            refine z_iload_n C0 d_M_mount_194 rfl 2 rfl ?_
            refine z_iconst (v := 1) C0 d_M_mount_195 (by decide) ?_
            refine z_iadd C0 d_M_mount_196 ?_
            refine z_gotoK (tgt := 201) C0 d_M_mount_197 (by decide) ?_
            refine z_put C0 gf_M_36 pf_M_13 0 rfl rfl rfl (Nat.le_of_ble_eq_true rfl) d_M_mount_201 ?_
            refine z_ws (wsn := zm_W cI cZ y bc bp (zmk (mm_f T) (mm_w T) (mm_q T) (mm_s T) (mm_k T) (mm_d T) (mm_h T) (gr + 1) (mm_r T) (mm_c T) (mm_a T) (mm_n T) (mm_t T) (mm_e T))) rfl ?_
            exact jn204 (gr + 1) ((if_pos c191_12).symm)
        · skip
          refine z_iconst (v := -1) C0 d_M_mount_187 (by decide) ?_
          exact z_iret C0 hA hQ hr d_M_mount_188 (by rw [show sm_mount bc bp M = (-1, T) from (by unfold sm_mount; rw [hR]; exact if_neg (by rw [show mm_r (sm_ms 0 i T any gr).1 = false from c184_2]; decide))]; exact ⟨rfl, rfl⟩)
      · exact absurd c26_1 (by omega)
    | succ n ih =>
      intro i any gr T hi hR
      refine z_iload_n C0 d_M_mount_21 rfl 3 rfl ?_
      refine z_aload_n C0 d_M_mount_22 rfl 0 rfl ?_
      refine z_get C0 gf_M_51 0 rfl rfl d_M_mount_23 ?_
      refine z_icmpN_ge (tgt := 180) C0 d_M_mount_26 (by decide) (by omega) (by omega) (fun (c26_13 : bc * bp ≤ i) => ?_) (fun (c26_13 : i < bc * bp) => ?_)
      · exact absurd c26_13 (by omega)
      · skip
        refine z_aload_n C0 d_M_mount_29 rfl 0 rfl ?_
        refine z_iload_n C0 d_M_mount_30 rfl 3 rfl ?_
        refine z_allV (As := [.int (nI (i))]) (rest := []) C0 (c_M_read l D cI cZ y bc bp T hB0 (i) (by omega)) mt_M_read ml_M_124 vt_M_read rfl rfl ⟨Nat.le_of_ble_eq_true rfl, Nat.le_of_ble_eq_true rfl⟩ ⟨rfl, rfl⟩ ⟨Nat.zero_le _, Nat.zero_le _⟩ rfl rfl (Nat.le_of_ble_eq_true rfl) d_M_mount_31 ?_
        refine z_st (stn := []) rfl ?_
        have jn58 : ∀ (rv : Bool), (rv = (mm_r T && !decide ((sm_rd (mm_f T) (mm_e T) i).1 = 3))) → zc_Pt p l e { frames := 5, cells := 0, slots := 0, locals := 118 } s m args below meth c 5 D A 0 0 Q 58 [(0, .ref (y 0)), (1, .int (bI (any))), (2, .int (gr)), (3, .int (nI (i)))] [] (zm_W cI cZ y bc bp (zmk (mm_f T) (mm_w T) (mm_q T) (mm_s T) (mm_k T) (mm_d T) (mm_h T) (mm_x T) rv (mm_c T) (mm_a T) (mm_n T) ((sm_rd (mm_f T) (mm_e T) i).1) ((sm_rd (mm_f T) (mm_e T) i).2))) := by
          intro rv hrv
          have jn84 : ∀ (wv : Bool), (wv = sm_mw (sm_rd (mm_f T) (mm_e T) i).1) → zc_Pt p l e { frames := 5, cells := 0, slots := 0, locals := 118 } s m args below meth c 5 D A 0 0 Q 84 [(0, .ref (y 0)), (1, .int (bI (any))), (2, .int (gr)), (3, .int (nI (i)))] [.int (bI (wv)), .int (nI (i)), .ref (y 3)] (zm_W cI cZ y bc bp (zmk (mm_f T) (mm_w T) (mm_q T) (mm_s T) (mm_k T) (mm_d T) (mm_h T) (mm_x T) rv (mm_c T) (mm_a T) (mm_n T) ((sm_rd (mm_f T) (mm_e T) i).1) ((sm_rd (mm_f T) (mm_e T) i).2))) := by
            intro wv hwv
            refine z_zast C0 3 rfl (by omega) (by omega) d_M_mount_84 ?_
            refine z_aload_n C0 d_M_mount_85 rfl 0 rfl ?_
            refine z_get C0 gf_M_20 0 rfl rfl d_M_mount_86 ?_
            refine z_iload_n C0 d_M_mount_89 rfl 3 rfl ?_
            refine z_aload_n C0 d_M_mount_90 rfl 0 rfl ?_
            refine z_get C0 gf_M_42 0 rfl rfl d_M_mount_91 ?_
            refine z_iconst (v := nI 0) C0 d_M_mount_94 (by decide) ?_
            refine z_iald C0 8 rfl (by omega) (by omega) d_M_mount_95 ?_
            refine z_iast C0 4 rfl (by omega) (by omega) d_M_mount_96 ?_
            refine z_aload_n C0 d_M_mount_97 rfl 0 rfl ?_
            refine z_get C0 gf_M_23 0 rfl rfl d_M_mount_98 ?_
            refine z_iload_n C0 d_M_mount_101 rfl 3 rfl ?_
            refine z_aload_n C0 d_M_mount_102 rfl 0 rfl ?_
            refine z_get C0 gf_M_42 0 rfl rfl d_M_mount_103 ?_
            refine z_iconst (v := nI 1) C0 d_M_mount_106 (by decide) ?_
            refine z_iald C0 8 rfl (by omega) (by omega) d_M_mount_107 ?_
            refine z_iast C0 5 rfl (by omega) (by omega) d_M_mount_108 ?_
            refine z_aload_n C0 d_M_mount_109 rfl 0 rfl ?_
            refine z_get C0 gf_M_26 0 rfl rfl d_M_mount_110 ?_
            refine z_iload_n C0 d_M_mount_113 rfl 3 rfl ?_
            refine z_aload_n C0 d_M_mount_114 rfl 0 rfl ?_
            refine z_get C0 gf_M_42 0 rfl rfl d_M_mount_115 ?_
            refine z_iconst (v := nI 3) C0 d_M_mount_118 (by decide) ?_
            refine z_iald C0 8 rfl (by omega) (by omega) d_M_mount_119 ?_
            refine z_iast C0 6 rfl (by omega) (by omega) d_M_mount_120 ?_
            refine z_aload_n C0 d_M_mount_121 rfl 0 rfl ?_
            refine z_get C0 gf_M_16 0 rfl rfl d_M_mount_122 ?_
            refine z_iload_n C0 d_M_mount_125 rfl 3 rfl ?_
            refine z_zald C0 3 rfl (by omega) (by omega) d_M_mount_126 ?_
            refine z_top (vn := .int (bI (wv))) (by rw [ub_s]) ?_
            refine z_ifB_eq (tgt := 153) C0 d_M_mount_127 (by decide) (fun (c127_14 : wv = false) => ?_) (fun (c127_14 : wv = true) => ?_)
            · skip
              refine z_iload_n C0 d_M_mount_153 rfl 2 rfl ?_
              refine z_istore_n (lvn := [(0, .ref (y 0)), (1, .int (bI (any))), (2, .int (gr)), (3, .int (nI (i)))]) C0 d_M_mount_154 rfl (by decide) [1, 2, 0, 3] rfl ?_
              refine z_iload_n C0 d_M_mount_155 rfl 1 rfl ?_
              refine z_ifB_ne (tgt := 168) C0 d_M_mount_156 (by decide) (fun (c156_15 : any = true) => ?_) (fun (c156_15 : any = false) => ?_)
              · skip
                refine z_iconst (v := nI 1) C0 d_M_mount_168 (by decide) ?_
                refine z_gotoK (tgt := 173) C0 d_M_mount_169 (by decide) ?_
                refine z_topi (x := nI 1) (xn := bI true) (by decide) ?_
                refine z_istore_n (lvn := [(0, .ref (y 0)), (1, .int (bI (true))), (2, .int (gr)), (3, .int (nI (i)))]) C0 d_M_mount_173 rfl (by decide) [1, 0, 2, 3] rfl ?_
                refine z_iincN (q := 3) (lvn := [(0, .ref (y 0)), (1, .int (bI (true))), (2, .int (gr)), (3, .int (nI (i + 1)))]) C0 d_M_mount_174 rfl (by decide) [1, 2, 3, 0] rfl ?_
                refine z_gotoK (tgt := 21) C0 d_M_mount_177 (by decide) ?_
                refine z_ws (wsn := zm_W cI cZ y bc bp (zmk (mm_f T) (ub (mm_w T) (i) (wv)) (mm_q T) (upd (mm_s T) (i) (((sm_rd (mm_f T) (mm_e T) i).2) (0))) (upd (mm_k T) (i) (((sm_rd (mm_f T) (mm_e T) i).2) (1))) (upd (mm_d T) (i) (((sm_rd (mm_f T) (mm_e T) i).2) (3))) (mm_h T) (mm_x T) rv (mm_c T) (mm_a T) (mm_n T) ((sm_rd (mm_f T) (mm_e T) i).1) ((sm_rd (mm_f T) (mm_e T) i).2))) rfl ?_
                exact ih (i + 1) (true) (gr) ((zmk (mm_f T) (ub (mm_w T) (i) (wv)) (mm_q T) (upd (mm_s T) (i) (((sm_rd (mm_f T) (mm_e T) i).2) (0))) (upd (mm_k T) (i) (((sm_rd (mm_f T) (mm_e T) i).2) (1))) (upd (mm_d T) (i) (((sm_rd (mm_f T) (mm_e T) i).2) (3))) (mm_h T) (mm_x T) rv (mm_c T) (mm_a T) (mm_n T) ((sm_rd (mm_f T) (mm_e T) i).1) ((sm_rd (mm_f T) (mm_e T) i).2))) (by omega) (by rw [hR]; show sm_ms n (i + 1) (zmk (mm_f T) (ub (mm_w T) i (sm_mw (sm_rd (mm_f T) (mm_e T) i).1)) _ _ _ _ _ _ (mm_r T && !decide ((sm_rd (mm_f T) (mm_e T) i).1 = 3)) _ _ _ _ _) (any || sm_mw (sm_rd (mm_f T) (mm_e T) i).1) (sm_mgr any gr (sm_mw (sm_rd (mm_f T) (mm_e T) i).1) ((sm_rd (mm_f T) (mm_e T) i).2 0)) = _; rw [← hwv, ← hrv, show (any || wv) = true from (by rw [c127_14, c156_15]; rfl), show sm_mgr any gr wv ((sm_rd (mm_f T) (mm_e T) i).2 0) = gr from if_neg (fun z => absurd (z.1.symm.trans c127_14) (by decide))]; try rfl)
              · skip
                refine z_aload_n C0 d_M_mount_159 rfl 0 rfl ?_
                refine z_get C0 gf_M_16 0 rfl rfl d_M_mount_160 ?_
                refine z_iload_n C0 d_M_mount_163 rfl 3 rfl ?_
                refine z_zald C0 3 rfl (by omega) (by omega) d_M_mount_164 ?_
                refine z_top (vn := .int (bI (wv))) (by rw [ub_s]) ?_
                refine z_ifB_eq (tgt := 172) C0 d_M_mount_165 (by decide) (fun (c165_16 : wv = false) => ?_) (fun (c165_16 : wv = true) => ?_)
                · skip
                  refine z_iconst (v := nI 0) C0 d_M_mount_172 (by decide) ?_
                  refine z_topi (x := nI 0) (xn := bI false) (by decide) ?_
                  refine z_istore_n (lvn := [(0, .ref (y 0)), (1, .int (bI (false))), (2, .int (gr)), (3, .int (nI (i)))]) C0 d_M_mount_173 rfl (by decide) [1, 0, 2, 3] rfl ?_
                  refine z_iincN (q := 3) (lvn := [(0, .ref (y 0)), (1, .int (bI (false))), (2, .int (gr)), (3, .int (nI (i + 1)))]) C0 d_M_mount_174 rfl (by decide) [1, 2, 3, 0] rfl ?_
                  refine z_gotoK (tgt := 21) C0 d_M_mount_177 (by decide) ?_
                  refine z_ws (wsn := zm_W cI cZ y bc bp (zmk (mm_f T) (ub (mm_w T) (i) (wv)) (mm_q T) (upd (mm_s T) (i) (((sm_rd (mm_f T) (mm_e T) i).2) (0))) (upd (mm_k T) (i) (((sm_rd (mm_f T) (mm_e T) i).2) (1))) (upd (mm_d T) (i) (((sm_rd (mm_f T) (mm_e T) i).2) (3))) (mm_h T) (mm_x T) rv (mm_c T) (mm_a T) (mm_n T) ((sm_rd (mm_f T) (mm_e T) i).1) ((sm_rd (mm_f T) (mm_e T) i).2))) rfl ?_
                  exact ih (i + 1) (false) (gr) ((zmk (mm_f T) (ub (mm_w T) (i) (wv)) (mm_q T) (upd (mm_s T) (i) (((sm_rd (mm_f T) (mm_e T) i).2) (0))) (upd (mm_k T) (i) (((sm_rd (mm_f T) (mm_e T) i).2) (1))) (upd (mm_d T) (i) (((sm_rd (mm_f T) (mm_e T) i).2) (3))) (mm_h T) (mm_x T) rv (mm_c T) (mm_a T) (mm_n T) ((sm_rd (mm_f T) (mm_e T) i).1) ((sm_rd (mm_f T) (mm_e T) i).2))) (by omega) (by rw [hR]; show sm_ms n (i + 1) (zmk (mm_f T) (ub (mm_w T) i (sm_mw (sm_rd (mm_f T) (mm_e T) i).1)) _ _ _ _ _ _ (mm_r T && !decide ((sm_rd (mm_f T) (mm_e T) i).1 = 3)) _ _ _ _ _) (any || sm_mw (sm_rd (mm_f T) (mm_e T) i).1) (sm_mgr any gr (sm_mw (sm_rd (mm_f T) (mm_e T) i).1) ((sm_rd (mm_f T) (mm_e T) i).2 0)) = _; rw [← hwv, ← hrv, show (any || wv) = false from (by rw [c127_14, c156_15]; rfl), show sm_mgr any gr wv ((sm_rd (mm_f T) (mm_e T) i).2 0) = gr from if_neg (fun z => absurd (z.1.symm.trans c127_14) (by decide))]; try rfl)
                · exact absurd (c165_16.symm.trans c127_14) (by decide)
            · skip
              refine z_iload_n C0 d_M_mount_130 rfl 1 rfl ?_
              refine z_ifB_eq (tgt := 144) C0 d_M_mount_131 (by decide) (fun (c131_17 : any = false) => ?_) (fun (c131_17 : any = true) => ?_)
              · skip
                refine z_aload_n C0 d_M_mount_144 rfl 0 rfl ?_
                refine z_get C0 gf_M_42 0 rfl rfl d_M_mount_145 ?_
                refine z_iconst (v := nI 0) C0 d_M_mount_148 (by decide) ?_
                refine z_iald C0 8 rfl (by omega) (by omega) d_M_mount_149 ?_
                refine z_gotoK (tgt := 154) C0 d_M_mount_150 (by decide) ?_
                refine z_istore_n (lvn := [(0, .ref (y 0)), (1, .int (bI (any))), (2, .int (((sm_rd (mm_f T) (mm_e T) i).2) (0))), (3, .int (nI (i)))]) C0 d_M_mount_154 rfl (by decide) [1, 2, 0, 3] rfl ?_
                refine z_iload_n C0 d_M_mount_155 rfl 1 rfl ?_
                refine z_ifB_ne (tgt := 168) C0 d_M_mount_156 (by decide) (fun (c156_18 : any = true) => ?_) (fun (c156_18 : any = false) => ?_)
                · exact absurd (c156_18.symm.trans c131_17) (by decide)
                · skip
                  refine z_aload_n C0 d_M_mount_159 rfl 0 rfl ?_
                  refine z_get C0 gf_M_16 0 rfl rfl d_M_mount_160 ?_
                  refine z_iload_n C0 d_M_mount_163 rfl 3 rfl ?_
                  refine z_zald C0 3 rfl (by omega) (by omega) d_M_mount_164 ?_
                  refine z_top (vn := .int (bI (wv))) (by rw [ub_s]) ?_
                  refine z_ifB_eq (tgt := 172) C0 d_M_mount_165 (by decide) (fun (c165_19 : wv = false) => ?_) (fun (c165_19 : wv = true) => ?_)
                  · exact absurd (c165_19.symm.trans c127_14) (by decide)
                  · skip
                    refine z_iconst (v := nI 1) C0 d_M_mount_168 (by decide) ?_
                    refine z_gotoK (tgt := 173) C0 d_M_mount_169 (by decide) ?_
                    refine z_topi (x := nI 1) (xn := bI true) (by decide) ?_
                    refine z_istore_n (lvn := [(0, .ref (y 0)), (1, .int (bI (true))), (2, .int (((sm_rd (mm_f T) (mm_e T) i).2) (0))), (3, .int (nI (i)))]) C0 d_M_mount_173 rfl (by decide) [1, 0, 2, 3] rfl ?_
                    refine z_iincN (q := 3) (lvn := [(0, .ref (y 0)), (1, .int (bI (true))), (2, .int (((sm_rd (mm_f T) (mm_e T) i).2) (0))), (3, .int (nI (i + 1)))]) C0 d_M_mount_174 rfl (by decide) [1, 2, 3, 0] rfl ?_
                    refine z_gotoK (tgt := 21) C0 d_M_mount_177 (by decide) ?_
                    refine z_ws (wsn := zm_W cI cZ y bc bp (zmk (mm_f T) (ub (mm_w T) (i) (wv)) (mm_q T) (upd (mm_s T) (i) (((sm_rd (mm_f T) (mm_e T) i).2) (0))) (upd (mm_k T) (i) (((sm_rd (mm_f T) (mm_e T) i).2) (1))) (upd (mm_d T) (i) (((sm_rd (mm_f T) (mm_e T) i).2) (3))) (mm_h T) (mm_x T) rv (mm_c T) (mm_a T) (mm_n T) ((sm_rd (mm_f T) (mm_e T) i).1) ((sm_rd (mm_f T) (mm_e T) i).2))) rfl ?_
                    exact ih (i + 1) (true) (((sm_rd (mm_f T) (mm_e T) i).2) (0)) ((zmk (mm_f T) (ub (mm_w T) (i) (wv)) (mm_q T) (upd (mm_s T) (i) (((sm_rd (mm_f T) (mm_e T) i).2) (0))) (upd (mm_k T) (i) (((sm_rd (mm_f T) (mm_e T) i).2) (1))) (upd (mm_d T) (i) (((sm_rd (mm_f T) (mm_e T) i).2) (3))) (mm_h T) (mm_x T) rv (mm_c T) (mm_a T) (mm_n T) ((sm_rd (mm_f T) (mm_e T) i).1) ((sm_rd (mm_f T) (mm_e T) i).2))) (by omega) (by rw [hR]; show sm_ms n (i + 1) (zmk (mm_f T) (ub (mm_w T) i (sm_mw (sm_rd (mm_f T) (mm_e T) i).1)) _ _ _ _ _ _ (mm_r T && !decide ((sm_rd (mm_f T) (mm_e T) i).1 = 3)) _ _ _ _ _) (any || sm_mw (sm_rd (mm_f T) (mm_e T) i).1) (sm_mgr any gr (sm_mw (sm_rd (mm_f T) (mm_e T) i).1) ((sm_rd (mm_f T) (mm_e T) i).2 0)) = _; rw [← hwv, ← hrv, show (any || wv) = true from (by rw [c127_14, Bool.or_true]), show sm_mgr any gr wv ((sm_rd (mm_f T) (mm_e T) i).2 0) = (sm_rd (mm_f T) (mm_e T) i).2 0 from if_pos ⟨c127_14, Or.inl c131_17⟩]; try rfl)
              · skip
                refine z_aload_n C0 d_M_mount_134 rfl 0 rfl ?_
                refine z_get C0 gf_M_42 0 rfl rfl d_M_mount_135 ?_
                refine z_iconst (v := nI 0) C0 d_M_mount_138 (by decide) ?_
                refine z_iald C0 8 rfl (by omega) (by omega) d_M_mount_139 ?_
                refine z_iload_n C0 d_M_mount_140 rfl 2 rfl ?_
                refine z_icmp_le (tgt := 153) C0 d_M_mount_141 (by decide) (fun (c141_20 : (((sm_rd (mm_f T) (mm_e T) i).2) (0)) ≤ gr) => ?_) (fun (c141_20 : ¬ (((sm_rd (mm_f T) (mm_e T) i).2) (0)) ≤ gr) => ?_)
                · skip
                  refine z_iload_n C0 d_M_mount_153 rfl 2 rfl ?_
                  refine z_istore_n (lvn := [(0, .ref (y 0)), (1, .int (bI (any))), (2, .int (gr)), (3, .int (nI (i)))]) C0 d_M_mount_154 rfl (by decide) [1, 2, 0, 3] rfl ?_
                  refine z_iload_n C0 d_M_mount_155 rfl 1 rfl ?_
                  refine z_ifB_ne (tgt := 168) C0 d_M_mount_156 (by decide) (fun (c156_21 : any = true) => ?_) (fun (c156_21 : any = false) => ?_)
                  · skip
                    refine z_iconst (v := nI 1) C0 d_M_mount_168 (by decide) ?_
                    refine z_gotoK (tgt := 173) C0 d_M_mount_169 (by decide) ?_
                    refine z_topi (x := nI 1) (xn := bI true) (by decide) ?_
                    refine z_istore_n (lvn := [(0, .ref (y 0)), (1, .int (bI (true))), (2, .int (gr)), (3, .int (nI (i)))]) C0 d_M_mount_173 rfl (by decide) [1, 0, 2, 3] rfl ?_
                    refine z_iincN (q := 3) (lvn := [(0, .ref (y 0)), (1, .int (bI (true))), (2, .int (gr)), (3, .int (nI (i + 1)))]) C0 d_M_mount_174 rfl (by decide) [1, 2, 3, 0] rfl ?_
                    refine z_gotoK (tgt := 21) C0 d_M_mount_177 (by decide) ?_
                    refine z_ws (wsn := zm_W cI cZ y bc bp (zmk (mm_f T) (ub (mm_w T) (i) (wv)) (mm_q T) (upd (mm_s T) (i) (((sm_rd (mm_f T) (mm_e T) i).2) (0))) (upd (mm_k T) (i) (((sm_rd (mm_f T) (mm_e T) i).2) (1))) (upd (mm_d T) (i) (((sm_rd (mm_f T) (mm_e T) i).2) (3))) (mm_h T) (mm_x T) rv (mm_c T) (mm_a T) (mm_n T) ((sm_rd (mm_f T) (mm_e T) i).1) ((sm_rd (mm_f T) (mm_e T) i).2))) rfl ?_
                    exact ih (i + 1) (true) (gr) ((zmk (mm_f T) (ub (mm_w T) (i) (wv)) (mm_q T) (upd (mm_s T) (i) (((sm_rd (mm_f T) (mm_e T) i).2) (0))) (upd (mm_k T) (i) (((sm_rd (mm_f T) (mm_e T) i).2) (1))) (upd (mm_d T) (i) (((sm_rd (mm_f T) (mm_e T) i).2) (3))) (mm_h T) (mm_x T) rv (mm_c T) (mm_a T) (mm_n T) ((sm_rd (mm_f T) (mm_e T) i).1) ((sm_rd (mm_f T) (mm_e T) i).2))) (by omega) (by rw [hR]; show sm_ms n (i + 1) (zmk (mm_f T) (ub (mm_w T) i (sm_mw (sm_rd (mm_f T) (mm_e T) i).1)) _ _ _ _ _ _ (mm_r T && !decide ((sm_rd (mm_f T) (mm_e T) i).1 = 3)) _ _ _ _ _) (any || sm_mw (sm_rd (mm_f T) (mm_e T) i).1) (sm_mgr any gr (sm_mw (sm_rd (mm_f T) (mm_e T) i).1) ((sm_rd (mm_f T) (mm_e T) i).2 0)) = _; rw [← hwv, ← hrv, show (any || wv) = true from (by rw [c127_14, Bool.or_true]), show sm_mgr any gr wv ((sm_rd (mm_f T) (mm_e T) i).2 0) = gr from if_neg (fun z => z.2.elim (fun q => absurd (q.symm.trans c131_17) (by decide)) (fun q => Int32.not_lt.mpr c141_20 q))]; try rfl)
                  · exact absurd (c156_21.symm.trans c131_17) (by decide)
                · skip
                  refine z_aload_n C0 d_M_mount_144 rfl 0 rfl ?_
                  refine z_get C0 gf_M_42 0 rfl rfl d_M_mount_145 ?_
                  refine z_iconst (v := nI 0) C0 d_M_mount_148 (by decide) ?_
                  refine z_iald C0 8 rfl (by omega) (by omega) d_M_mount_149 ?_
                  refine z_gotoK (tgt := 154) C0 d_M_mount_150 (by decide) ?_
                  refine z_istore_n (lvn := [(0, .ref (y 0)), (1, .int (bI (any))), (2, .int (((sm_rd (mm_f T) (mm_e T) i).2) (0))), (3, .int (nI (i)))]) C0 d_M_mount_154 rfl (by decide) [1, 2, 0, 3] rfl ?_
                  refine z_iload_n C0 d_M_mount_155 rfl 1 rfl ?_
                  refine z_ifB_ne (tgt := 168) C0 d_M_mount_156 (by decide) (fun (c156_22 : any = true) => ?_) (fun (c156_22 : any = false) => ?_)
                  · skip
                    refine z_iconst (v := nI 1) C0 d_M_mount_168 (by decide) ?_
                    refine z_gotoK (tgt := 173) C0 d_M_mount_169 (by decide) ?_
                    refine z_topi (x := nI 1) (xn := bI true) (by decide) ?_
                    refine z_istore_n (lvn := [(0, .ref (y 0)), (1, .int (bI (true))), (2, .int (((sm_rd (mm_f T) (mm_e T) i).2) (0))), (3, .int (nI (i)))]) C0 d_M_mount_173 rfl (by decide) [1, 0, 2, 3] rfl ?_
                    refine z_iincN (q := 3) (lvn := [(0, .ref (y 0)), (1, .int (bI (true))), (2, .int (((sm_rd (mm_f T) (mm_e T) i).2) (0))), (3, .int (nI (i + 1)))]) C0 d_M_mount_174 rfl (by decide) [1, 2, 3, 0] rfl ?_
                    refine z_gotoK (tgt := 21) C0 d_M_mount_177 (by decide) ?_
                    refine z_ws (wsn := zm_W cI cZ y bc bp (zmk (mm_f T) (ub (mm_w T) (i) (wv)) (mm_q T) (upd (mm_s T) (i) (((sm_rd (mm_f T) (mm_e T) i).2) (0))) (upd (mm_k T) (i) (((sm_rd (mm_f T) (mm_e T) i).2) (1))) (upd (mm_d T) (i) (((sm_rd (mm_f T) (mm_e T) i).2) (3))) (mm_h T) (mm_x T) rv (mm_c T) (mm_a T) (mm_n T) ((sm_rd (mm_f T) (mm_e T) i).1) ((sm_rd (mm_f T) (mm_e T) i).2))) rfl ?_
                    exact ih (i + 1) (true) (((sm_rd (mm_f T) (mm_e T) i).2) (0)) ((zmk (mm_f T) (ub (mm_w T) (i) (wv)) (mm_q T) (upd (mm_s T) (i) (((sm_rd (mm_f T) (mm_e T) i).2) (0))) (upd (mm_k T) (i) (((sm_rd (mm_f T) (mm_e T) i).2) (1))) (upd (mm_d T) (i) (((sm_rd (mm_f T) (mm_e T) i).2) (3))) (mm_h T) (mm_x T) rv (mm_c T) (mm_a T) (mm_n T) ((sm_rd (mm_f T) (mm_e T) i).1) ((sm_rd (mm_f T) (mm_e T) i).2))) (by omega) (by rw [hR]; show sm_ms n (i + 1) (zmk (mm_f T) (ub (mm_w T) i (sm_mw (sm_rd (mm_f T) (mm_e T) i).1)) _ _ _ _ _ _ (mm_r T && !decide ((sm_rd (mm_f T) (mm_e T) i).1 = 3)) _ _ _ _ _) (any || sm_mw (sm_rd (mm_f T) (mm_e T) i).1) (sm_mgr any gr (sm_mw (sm_rd (mm_f T) (mm_e T) i).1) ((sm_rd (mm_f T) (mm_e T) i).2 0)) = _; rw [← hwv, ← hrv, show (any || wv) = true from (by rw [c127_14, Bool.or_true]), show sm_mgr any gr wv ((sm_rd (mm_f T) (mm_e T) i).2 0) = (sm_rd (mm_f T) (mm_e T) i).2 0 from if_pos ⟨c127_14, Or.inr (Int32.not_le.mp c141_20)⟩]; try rfl)
                  · exact absurd (c156_22.symm.trans c131_17) (by decide)
          refine z_aload_n C0 d_M_mount_58 rfl 0 rfl ?_
          refine z_get C0 gf_M_16 0 rfl rfl d_M_mount_59 ?_
          refine z_iload_n C0 d_M_mount_62 rfl 3 rfl ?_
          refine z_aload_n C0 d_M_mount_63 rfl 0 rfl ?_
          refine z_get C0 gf_M_79 0 rfl rfl d_M_mount_64 ?_
          refine z_iconst (v := nI 1) C0 d_M_mount_67 (by decide) ?_
          refine z_icmpN_eq (tgt := 79) C0 d_M_mount_68 (by decide) (sm_rd31 _ _ _) (by decide) (fun (c68_23 : (sm_rd (mm_f T) (mm_e T) i).1 = 1) => ?_) (fun (c68_23 : (sm_rd (mm_f T) (mm_e T) i).1 ≠ 1) => ?_)
          · skip
            refine z_iconst (v := nI 1) C0 d_M_mount_79 (by decide) ?_
            refine z_gotoK (tgt := 84) C0 d_M_mount_80 (by decide) ?_
            refine z_topi (x := nI 1) (xn := bI true) (by decide) ?_
            exact jn84 (true) (by unfold sm_mw; rw [decide_eq_true (show (sm_rd (mm_f T) (mm_e T) i).1 = 1 from c68_23)]; rfl)
          · skip
            refine z_aload_n C0 d_M_mount_71 rfl 0 rfl ?_
            refine z_get C0 gf_M_79 0 rfl rfl d_M_mount_72 ?_
            refine z_iconst (v := nI 2) C0 d_M_mount_75 (by decide) ?_
            refine z_icmpN_ne (tgt := 83) C0 d_M_mount_76 (by decide) (sm_rd31 _ _ _) (by decide) (fun (c76_24 : (sm_rd (mm_f T) (mm_e T) i).1 ≠ 2) => ?_) (fun (c76_24 : (sm_rd (mm_f T) (mm_e T) i).1 = 2) => ?_)
            · skip
              refine z_iconst (v := nI 0) C0 d_M_mount_83 (by decide) ?_
              refine z_topi (x := nI 0) (xn := bI false) (by decide) ?_
              exact jn84 (false) (by unfold sm_mw; rw [decide_eq_false (show ¬ (sm_rd (mm_f T) (mm_e T) i).1 = 1 from c68_23), decide_eq_false (show ¬ (sm_rd (mm_f T) (mm_e T) i).1 = 2 from c76_24)]; rfl)
            · skip
              refine z_iconst (v := nI 1) C0 d_M_mount_79 (by decide) ?_
              refine z_gotoK (tgt := 84) C0 d_M_mount_80 (by decide) ?_
              refine z_topi (x := nI 1) (xn := bI true) (by decide) ?_
              exact jn84 (true) (by unfold sm_mw; rw [decide_eq_true (show (sm_rd (mm_f T) (mm_e T) i).1 = 2 from c76_24), Bool.or_true])
        refine z_aload_n C0 d_M_mount_34 rfl 0 rfl ?_
        refine z_aload_n C0 d_M_mount_35 rfl 0 rfl ?_
        refine z_get C0 gf_M_65 0 rfl rfl d_M_mount_36 ?_
        refine z_ifB_eq (tgt := 54) C0 d_M_mount_39 (by decide) (fun (c39_25 : mm_r T = false) => ?_) (fun (c39_25 : mm_r T = true) => ?_)
        · skip
          refine z_iconst (v := nI 0) C0 d_M_mount_54 (by decide) ?_
          refine z_topi (x := nI 0) (xn := bI false) (by decide) ?_
          refine z_put C0 gf_M_65 pf_M_10 0 rfl (bI_nar _) (bI_fit _) (Nat.le_of_ble_eq_true rfl) d_M_mount_55 ?_
          refine z_ws (wsn := zm_W cI cZ y bc bp (zmk (mm_f T) (mm_w T) (mm_q T) (mm_s T) (mm_k T) (mm_d T) (mm_h T) (mm_x T) false (mm_c T) (mm_a T) (mm_n T) ((sm_rd (mm_f T) (mm_e T) i).1) ((sm_rd (mm_f T) (mm_e T) i).2))) rfl ?_
          exact jn58 (false) (by rw [c39_25]; rfl)
        · skip
          refine z_aload_n C0 d_M_mount_42 rfl 0 rfl ?_
          refine z_get C0 gf_M_79 0 rfl rfl d_M_mount_43 ?_
          refine z_iconst (v := nI 3) C0 d_M_mount_46 (by decide) ?_
          refine z_icmpN_eq (tgt := 54) C0 d_M_mount_47 (by decide) (sm_rd31 _ _ _) (by decide) (fun (c47_26 : (sm_rd (mm_f T) (mm_e T) i).1 = 3) => ?_) (fun (c47_26 : (sm_rd (mm_f T) (mm_e T) i).1 ≠ 3) => ?_)
          · skip
            refine z_iconst (v := nI 0) C0 d_M_mount_54 (by decide) ?_
            refine z_topi (x := nI 0) (xn := bI false) (by decide) ?_
            refine z_put C0 gf_M_65 pf_M_10 0 rfl (bI_nar _) (bI_fit _) (Nat.le_of_ble_eq_true rfl) d_M_mount_55 ?_
            refine z_ws (wsn := zm_W cI cZ y bc bp (zmk (mm_f T) (mm_w T) (mm_q T) (mm_s T) (mm_k T) (mm_d T) (mm_h T) (mm_x T) false (mm_c T) (mm_a T) (mm_n T) ((sm_rd (mm_f T) (mm_e T) i).1) ((sm_rd (mm_f T) (mm_e T) i).2))) rfl ?_
            exact jn58 (false) (by rw [c39_25, decide_eq_true (show (sm_rd (mm_f T) (mm_e T) i).1 = 3 from c47_26)]; rfl)
          · skip
            refine z_iconst (v := nI 1) C0 d_M_mount_50 (by decide) ?_
            refine z_gotoK (tgt := 55) C0 d_M_mount_51 (by decide) ?_
            refine z_topi (x := nI 1) (xn := bI true) (by decide) ?_
            refine z_put C0 gf_M_65 pf_M_10 0 rfl (bI_nar _) (bI_fit _) (Nat.le_of_ble_eq_true rfl) d_M_mount_55 ?_
            refine z_ws (wsn := zm_W cI cZ y bc bp (zmk (mm_f T) (mm_w T) (mm_q T) (mm_s T) (mm_k T) (mm_d T) (mm_h T) (mm_x T) true (mm_c T) (mm_a T) (mm_n T) ((sm_rd (mm_f T) (mm_e T) i).1) ((sm_rd (mm_f T) (mm_e T) i).2))) rfl ?_
            exact jn58 (true) (by rw [c39_25, decide_eq_false (show ¬ (sm_rd (mm_f T) (mm_e T) i).1 = 3 from c47_26)]; rfl)
  refine z_ws (wsn := zm_W cI cZ y bc bp (zmk (mm_f M) (mm_w M) (mm_q M) (mm_s M) (mm_k M) (mm_d M) (mm_h M) (mm_x M) true false (-1) (mm_n M) (mm_t M) (mm_e M))) rfl ?_
  exact lp21 (bc * bp) (0) (false) (0) ((zmk (mm_f M) (mm_w M) (mm_q M) (mm_s M) (mm_k M) (mm_d M) (mm_h M) (mm_x M) true false (-1) (mm_n M) (mm_t M) (mm_e M))) (by omega) (rfl)
