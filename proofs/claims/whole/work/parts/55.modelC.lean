set_option maxHeartbeats 4000000 in
set_option maxRecDepth 100000 in
theorem c_M_chosen (l : Launch) (D : va_G) (cI cZ : ClassId) (y : Nat → Nat) (bc bp : Nat) (M : zm_S) (hB : zb_ok bc bp)  (hh : zh_ok bc (mm_h M)) : zc_Con l y_M_chosen b_M_chosen 6 (some .int) { frames := 4, cells := 0, slots := 0, locals := 93 } D cI cZ [.ref (y 0)] (zm_W cI cZ y bc bp M) (zo (some (.int (oN (sm_choose bc bp M)))) (zm_W cI cZ y bc bp M)) := by
  refine zc_start (by decide) (Nat.le_of_ble_eq_true rfl) ?_
  intro p e s m args below meth c A Q hA hQ C0 hr hin
  have C0 : zc_Cx p s m args meth c b_M_chosen 6 R_M D cI cZ A := C0
  have hB0 := hB
  obtain ⟨hB1, hB2, hB3, hB4⟩ := hB
  have hN : bc * bp ≤ 20 := Nat.mul_le_mul hB2 hB4
  refine z_lvs (lvn := [(0, .ref (y 0))]) rfl ?_
  rcases hhd : mm_h M with _ | hd
  · refine z_lvs (lvn := [(0, .ref (y 0))]) (by first | rfl | (rw [hhd]; rfl)) ?_
    refine z_aload_n C0 d_M_chosen_0 rfl 0 rfl ?_
    refine z_allV (As := []) (rest := []) C0 (c_M_headless l D cI cZ y bc bp M hB0  (hh)) mt_M_headless ml_M_107 vt_M_headless rfl rfl ⟨Nat.le_of_ble_eq_true rfl, Nat.le_of_ble_eq_true rfl⟩ ⟨rfl, rfl⟩ ⟨Nat.zero_le _, Nat.zero_le _⟩ rfl rfl (Nat.le_of_ble_eq_true rfl) d_M_chosen_1 ?_
    refine z_st (stn := [.int (bI (sm_hl bp (mm_w M) (mm_h M)))]) rfl ?_
    refine z_istore_n (lvn := [(0, .ref (y 0)), (1, .int (bI (sm_hl bp (mm_w M) (mm_h M))))]) C0 d_M_chosen_4 rfl (by decide) [1, 0] rfl ?_
    refine z_iconst (v := -1) C0 d_M_chosen_5 (by decide) ?_
    refine z_istore_n (lvn := [(0, .ref (y 0)), (1, .int (bI (sm_hl bp (mm_w M) (mm_h M)))), (2, .int (-1))]) C0 d_M_chosen_6 rfl (by decide) [1, 2, 0] rfl ?_
    refine z_iconst (v := nI 0) C0 d_M_chosen_7 (by decide) ?_
    refine z_istore_n (lvn := [(0, .ref (y 0)), (1, .int (bI (sm_hl bp (mm_w M) (mm_h M)))), (2, .int (-1)), (3, .int (nI (0)))]) C0 d_M_chosen_8 rfl (by decide) [1, 2, 3, 0] rfl ?_
    refine z_iconst (v := nI 0) C0 d_M_chosen_9 (by decide) ?_
    refine z_istore (lvn := [(0, .ref (y 0)), (1, .int (bI (sm_hl bp (mm_w M) (mm_h M)))), (2, .int (-1)), (3, .int (nI (0))), (4, .int (nI (0)))]) C0 d_M_chosen_10 (by decide) [1, 2, 3, 4, 0] rfl ?_
    have lp12 : ∀ (n : Nat) (i : Nat) (best : Option Nat) (a : Nat), (i + n = bc) → (∀ q, best = some q → q < i) → (a ≤ bp) → (sm_chs bc bp M (sm_hl bp (mm_w M) (mm_h M)) bc 0 none 0 = sm_chs bc bp M (sm_hl bp (mm_w M) (mm_h M)) n i best a) → zc_Pt p l e { frames := 4, cells := 0, slots := 0, locals := 93 } s m args below meth c 6 D A 0 0 Q 12 [(0, .ref (y 0)), (1, .int (bI (sm_hl bp (mm_w M) (mm_h M)))), (2, .int (oN (best))), (3, .int (nI (a))), (4, .int (nI (i)))] [] (zm_W cI cZ y bc bp M) := by
      intro n
      induction n with
      | zero =>
        intro i best a hi hb ha hR
        refine z_iload C0 d_M_chosen_12 4 rfl ?_
        refine z_aload_n C0 d_M_chosen_14 rfl 0 rfl ?_
        refine z_get C0 gf_M_45 0 rfl rfl d_M_chosen_15 ?_
        refine z_icmpN_ge (tgt := 73) C0 d_M_chosen_18 (by decide) (by omega) (by omega) (fun (c18_1 : bc ≤ i) => ?_) (fun (c18_1 : i < bc) => ?_)
        · skip
          rcases best with _ | q1
          · refine z_lvs (lvn := [(0, .ref (y 0)), (1, .int (bI (sm_hl bp (mm_w M) (mm_h M)))), (2, .int (-1)), (3, .int (nI (a))), (4, .int (nI (i)))]) rfl ?_
            refine z_iload_n C0 d_M_chosen_73 rfl 2 rfl ?_
            refine z_if_lt (tgt := 96) C0 d_M_chosen_74 (by decide) (fun c74_2 => ?_) (fun c74_2 => ?_)
            · skip
              refine z_iconst (v := -1) C0 d_M_chosen_96 (by decide) ?_
              exact z_iret C0 hA hQ hr d_M_chosen_97 (by have e9 : sm_choose bc bp M = none := (by unfold sm_choose; rw [hR]; show sm_ch2 bc bp M (sm_hl bp (mm_w M) (mm_h M)) (none, a) = _; rfl); rw [e9]; exact ⟨rfl, rfl⟩)
            · exact absurd (by decide) c74_2
          · refine z_lvs (lvn := [(0, .ref (y 0)), (1, .int (bI (sm_hl bp (mm_w M) (mm_h M)))), (2, .int (nI (q1))), (3, .int (nI (a))), (4, .int (nI (i)))]) rfl ?_
            have hq1 := hb q1 rfl
            refine z_iload_n C0 d_M_chosen_73 rfl 2 rfl ?_
            refine z_if_lt (tgt := 96) C0 d_M_chosen_74 (by decide) (fun c74_3 => ?_) (fun c74_3 => ?_)
            · exact absurd c74_3 (nI_pos (by omega))
            · skip
              refine z_iload_n C0 d_M_chosen_77 rfl 3 rfl ?_
              refine z_aload_n C0 d_M_chosen_78 rfl 0 rfl ?_
              refine z_get C0 gf_M_48 0 rfl rfl d_M_chosen_79 ?_
              refine z_icmpN_eq (tgt := 96) C0 d_M_chosen_82 (by decide) (by omega) (by omega) (fun (c82_4 : a = bp) => ?_) (fun (c82_4 : a ≠ bp) => ?_)
              · skip
                refine z_iconst (v := -1) C0 d_M_chosen_96 (by decide) ?_
                exact z_iret C0 hA hQ hr d_M_chosen_97 (by have e9 : sm_choose bc bp M = none := (by unfold sm_choose; rw [hR]; show sm_ch2 bc bp M (sm_hl bp (mm_w M) (mm_h M)) (some q1, a) = _; simp [sm_ch2, hhd, c82_4]); rw [e9]; exact ⟨rfl, rfl⟩)
              · skip
                refine z_iload_n C0 d_M_chosen_85 rfl 1 rfl ?_
                refine z_ifB_eq (tgt := 98) C0 d_M_chosen_86 (by decide) (fun (c86_5 : sm_hl bp (mm_w M) (mm_h M) = false) => ?_) (fun (c86_5 : sm_hl bp (mm_w M) (mm_h M) = true) => ?_)
                · exact absurd c86_5 (by rw [hhd]; exact fun z => by cases z)
                · skip
                  refine z_aload_n C0 d_M_chosen_89 rfl 0 rfl ?_
                  refine z_allV (As := []) (rest := []) C0 (c_M_frees l D cI cZ y bc bp M hB0  ) mt_M_frees ml_M_114 vt_M_frees rfl rfl ⟨Nat.le_of_ble_eq_true rfl, Nat.le_of_ble_eq_true rfl⟩ ⟨rfl, rfl⟩ ⟨Nat.zero_le _, Nat.zero_le _⟩ rfl rfl (Nat.le_of_ble_eq_true rfl) d_M_chosen_90 ?_
                  refine z_st (stn := [.int (nI (sm_fr bc bp (mm_w M)))]) rfl ?_
                  refine z_ifN_ne (tgt := 98) C0 d_M_chosen_93 (by decide) (Nat.lt_of_le_of_lt (sm_frLe _ _ _) (by omega)) (fun c93_6 => ?_) (fun c93_6 => ?_)
                  · skip
                    refine z_iload_n C0 d_M_chosen_98 rfl 1 rfl ?_
                    refine z_ifB_ne (tgt := 123) C0 d_M_chosen_99 (by decide) (fun (c99_7 : sm_hl bp (mm_w M) (mm_h M) = true) => ?_) (fun (c99_7 : sm_hl bp (mm_w M) (mm_h M) = false) => ?_)
                    · skip
                      refine z_iload_n C0 d_M_chosen_123 rfl 2 rfl ?_
                      exact z_iret C0 hA hQ hr d_M_chosen_124 (by have e9 : sm_choose bc bp M = some q1 := (by unfold sm_choose; rw [hR]; show sm_ch2 bc bp M (sm_hl bp (mm_w M) (mm_h M)) (some q1, a) = _; rw [c86_5]; simp [sm_ch2, hhd, c82_4, Nat.pos_iff_ne_zero.mp c93_6]); rw [e9]; exact ⟨rfl, rfl⟩)
                    · exact absurd (c99_7.symm.trans c86_5) (by decide)
                  · skip
                    refine z_iconst (v := -1) C0 d_M_chosen_96 (by decide) ?_
                    exact z_iret C0 hA hQ hr d_M_chosen_97 (by have e9 : sm_choose bc bp M = none := (by unfold sm_choose; rw [hR]; show sm_ch2 bc bp M (sm_hl bp (mm_w M) (mm_h M)) (some q1, a) = _; rw [c86_5]; simp [sm_ch2, hhd, c82_4, c93_6]); rw [e9]; exact ⟨rfl, rfl⟩)
        · exact absurd c18_1 (by omega)
      | succ n ih =>
        intro i best a hi hb ha hR
        refine z_iload C0 d_M_chosen_12 4 rfl ?_
        refine z_aload_n C0 d_M_chosen_14 rfl 0 rfl ?_
        refine z_get C0 gf_M_45 0 rfl rfl d_M_chosen_15 ?_
        refine z_icmpN_ge (tgt := 73) C0 d_M_chosen_18 (by decide) (by omega) (by omega) (fun (c18_8 : bc ≤ i) => ?_) (fun (c18_8 : i < bc) => ?_)
        · exact absurd c18_8 (by omega)
        · skip
          refine z_aload_n C0 d_M_chosen_21 rfl 0 rfl ?_
          refine z_iload C0 d_M_chosen_22 4 rfl ?_
          refine z_allV (As := [.int (nI (i))]) (rest := []) C0 (c_M_writtenOf l D cI cZ y bc bp M hB0 (i) (by omega)) mt_M_writtenOf ml_M_101 vt_M_writtenOf rfl rfl ⟨Nat.le_of_ble_eq_true rfl, Nat.le_of_ble_eq_true rfl⟩ ⟨rfl, rfl⟩ ⟨Nat.zero_le _, Nat.zero_le _⟩ rfl rfl (Nat.le_of_ble_eq_true rfl) d_M_chosen_24 ?_
          refine z_st (stn := [.int (nI (sm_wr bp (mm_w M) i))]) rfl ?_
          refine z_ifN_le (tgt := 67) C0 d_M_chosen_27 (by decide) (Nat.lt_of_le_of_lt (sm_wrLe _ _ _) (by omega)) (fun c27_9 => ?_) (fun c27_9 => ?_)
          · skip
            refine z_iincN (q := 4) (lvn := [(0, .ref (y 0)), (1, .int (bI (sm_hl bp (mm_w M) (mm_h M)))), (2, .int (oN (best))), (3, .int (nI (a))), (4, .int (nI (i + 1)))]) C0 d_M_chosen_67 rfl (by decide) [1, 2, 3, 4, 0] rfl ?_
            refine z_gotoK (tgt := 12) C0 d_M_chosen_70 (by decide) ?_
            exact ih (i + 1) (best) (a) (by omega) (fun q h => by have := hb q h; omega) (ha) (by rw [hR]; show sm_chs bc bp M (sm_hl bp (mm_w M) (mm_h M)) (n + 1) i _ a = _; simp only [sm_chs]; rw [if_neg (fun z => absurd z.1 (by rw [c27_9]; decide))])
          · skip
            refine z_iload C0 d_M_chosen_30 4 rfl ?_
            refine z_aload_n C0 d_M_chosen_32 rfl 0 rfl ?_
            refine z_get C0 gf_M_32 0 rfl rfl d_M_chosen_33 ?_
            refine z_top (vn := .int (-1)) (by first | rfl | (rw [hhd]; rfl)) ?_
            refine z_icmp_ne (tgt := 43) C0 d_M_chosen_36 (by decide) (fun c36_10 => ?_) (fun c36_10 => ?_)
            · skip
              refine z_aload_n C0 d_M_chosen_43 rfl 0 rfl ?_
              refine z_iload C0 d_M_chosen_44 4 rfl ?_
              refine z_allV (As := [.int (nI (i))]) (rest := []) C0 (c_M_neededOf l D cI cZ y bc bp M hB0 (i) (hh) (by omega)) mt_M_neededOf ml_M_111 vt_M_neededOf rfl rfl ⟨Nat.le_of_ble_eq_true rfl, Nat.le_of_ble_eq_true rfl⟩ ⟨rfl, rfl⟩ ⟨Nat.zero_le _, Nat.zero_le _⟩ rfl rfl (Nat.le_of_ble_eq_true rfl) d_M_chosen_46 ?_
              refine z_st (stn := [.int (nI (sm_nd bc bp M i))]) rfl ?_
              refine z_istore (lvn := [(0, .ref (y 0)), (1, .int (bI (sm_hl bp (mm_w M) (mm_h M)))), (2, .int (oN (best))), (3, .int (nI (a))), (4, .int (nI (i))), (5, .int (nI (sm_nd bc bp M i)))]) C0 d_M_chosen_49 (by decide) [1, 2, 3, 4, 5, 0] rfl ?_
              rcases best with _ | q0
              · refine z_lvs (lvn := [(0, .ref (y 0)), (1, .int (bI (sm_hl bp (mm_w M) (mm_h M)))), (2, .int (-1)), (3, .int (nI (a))), (4, .int (nI (i))), (5, .int (nI (sm_nd bc bp M i)))]) rfl ?_
                refine z_iload_n C0 d_M_chosen_51 rfl 2 rfl ?_
                refine z_if_lt (tgt := 61) C0 d_M_chosen_52 (by decide) (fun c52_11 => ?_) (fun c52_11 => ?_)
                · skip
                  refine z_iload C0 d_M_chosen_61 4 rfl ?_
                  refine z_istore_n (lvn := [(0, .ref (y 0)), (1, .int (bI (sm_hl bp (mm_w M) (mm_h M)))), (2, .int (nI (i))), (3, .int (nI (a))), (4, .int (nI (i))), (5, .int (nI (sm_nd bc bp M i)))]) C0 d_M_chosen_63 rfl (by decide) [1, 2, 0, 3, 4, 5] rfl ?_
                  refine z_iload C0 d_M_chosen_64 5 rfl ?_
                  refine z_istore_n (lvn := [(0, .ref (y 0)), (1, .int (bI (sm_hl bp (mm_w M) (mm_h M)))), (2, .int (nI (i))), (3, .int (nI (sm_nd bc bp M i))), (4, .int (nI (i))), (5, .int (nI (sm_nd bc bp M i)))]) C0 d_M_chosen_66 rfl (by decide) [1, 2, 3, 0, 4, 5] rfl ?_
                  refine z_iincN (q := 4) (lvn := [(0, .ref (y 0)), (1, .int (bI (sm_hl bp (mm_w M) (mm_h M)))), (2, .int (nI (i))), (3, .int (nI (sm_nd bc bp M i))), (4, .int (nI (i + 1))), (5, .int (nI (sm_nd bc bp M i)))]) C0 d_M_chosen_67 rfl (by decide) [1, 2, 3, 4, 0, 5] rfl ?_
                  refine z_gotoK (tgt := 12) C0 d_M_chosen_70 (by decide) ?_
                  refine z_lv [0, 1, 2, 3, 4] rfl ?_
                  exact ih (i + 1) (some (i)) (sm_nd bc bp M i) (by omega) (fun q h => by cases h; omega) (sm_ndLe _ _ _ _) (by rw [hR]; show sm_chs bc bp M (sm_hl bp (mm_w M) (mm_h M)) (n + 1) i _ a = _; simp only [sm_chs]; rw [if_pos ⟨c27_9, Or.inl (by rw [hhd]; exact fun z => by cases z), Or.inl (by trivial)⟩])
                · exact absurd (by decide) c52_11
              · refine z_lvs (lvn := [(0, .ref (y 0)), (1, .int (bI (sm_hl bp (mm_w M) (mm_h M)))), (2, .int (nI (q0))), (3, .int (nI (a))), (4, .int (nI (i))), (5, .int (nI (sm_nd bc bp M i)))]) rfl ?_
                have hq0 := hb q0 rfl
                refine z_iload_n C0 d_M_chosen_51 rfl 2 rfl ?_
                refine z_if_lt (tgt := 61) C0 d_M_chosen_52 (by decide) (fun c52_12 => ?_) (fun c52_12 => ?_)
                · exact absurd c52_12 (nI_pos (by omega))
                · skip
                  refine z_iload C0 d_M_chosen_55 5 rfl ?_
                  refine z_iload_n C0 d_M_chosen_57 rfl 3 rfl ?_
                  refine z_icmpN_ge (tgt := 67) C0 d_M_chosen_58 (by decide) (Nat.lt_of_le_of_lt (sm_ndLe _ _ _ _) (by omega)) (by omega) (fun (c58_13 : a ≤ sm_nd bc bp M i) => ?_) (fun (c58_13 : sm_nd bc bp M i < a) => ?_)
                  · skip
                    refine z_iincN (q := 4) (lvn := [(0, .ref (y 0)), (1, .int (bI (sm_hl bp (mm_w M) (mm_h M)))), (2, .int (nI (q0))), (3, .int (nI (a))), (4, .int (nI (i + 1))), (5, .int (nI (sm_nd bc bp M i)))]) C0 d_M_chosen_67 rfl (by decide) [1, 2, 3, 4, 0, 5] rfl ?_
                    refine z_gotoK (tgt := 12) C0 d_M_chosen_70 (by decide) ?_
                    refine z_lv [0, 1, 2, 3, 4] rfl ?_
                    exact ih (i + 1) (some (q0)) (a) (by omega) (fun q h => by cases h; omega) (ha) (by rw [hR]; show sm_chs bc bp M (sm_hl bp (mm_w M) (mm_h M)) (n + 1) i _ a = _; simp only [sm_chs]; rw [if_neg (fun z => z.2.2.elim (fun q => by cases q) (fun q => Nat.not_lt.mpr c58_13 q))])
                  · skip
                    refine z_iload C0 d_M_chosen_61 4 rfl ?_
                    refine z_istore_n (lvn := [(0, .ref (y 0)), (1, .int (bI (sm_hl bp (mm_w M) (mm_h M)))), (2, .int (nI (i))), (3, .int (nI (a))), (4, .int (nI (i))), (5, .int (nI (sm_nd bc bp M i)))]) C0 d_M_chosen_63 rfl (by decide) [1, 2, 0, 3, 4, 5] rfl ?_
                    refine z_iload C0 d_M_chosen_64 5 rfl ?_
                    refine z_istore_n (lvn := [(0, .ref (y 0)), (1, .int (bI (sm_hl bp (mm_w M) (mm_h M)))), (2, .int (nI (i))), (3, .int (nI (sm_nd bc bp M i))), (4, .int (nI (i))), (5, .int (nI (sm_nd bc bp M i)))]) C0 d_M_chosen_66 rfl (by decide) [1, 2, 3, 0, 4, 5] rfl ?_
                    refine z_iincN (q := 4) (lvn := [(0, .ref (y 0)), (1, .int (bI (sm_hl bp (mm_w M) (mm_h M)))), (2, .int (nI (i))), (3, .int (nI (sm_nd bc bp M i))), (4, .int (nI (i + 1))), (5, .int (nI (sm_nd bc bp M i)))]) C0 d_M_chosen_67 rfl (by decide) [1, 2, 3, 4, 0, 5] rfl ?_
                    refine z_gotoK (tgt := 12) C0 d_M_chosen_70 (by decide) ?_
                    refine z_lv [0, 1, 2, 3, 4] rfl ?_
                    exact ih (i + 1) (some (i)) (sm_nd bc bp M i) (by omega) (fun q h => by cases h; omega) (sm_ndLe _ _ _ _) (by rw [hR]; show sm_chs bc bp M (sm_hl bp (mm_w M) (mm_h M)) (n + 1) i _ a = _; simp only [sm_chs]; rw [if_pos ⟨c27_9, Or.inl (by rw [hhd]; exact fun z => by cases z), Or.inr c58_13⟩])
            · exact absurd c36_10 (nI_m1 (by omega))
    exact lp12 (bc) (0) none (0) (by omega) (fun q h => by cases h) (by omega) (rfl)
  · refine z_lvs (lvn := [(0, .ref (y 0))]) (by first | rfl | (rw [hhd]; rfl)) ?_
    have hlt : hd < bc := hh hd hhd
    refine z_aload_n C0 d_M_chosen_0 rfl 0 rfl ?_
    refine z_allV (As := []) (rest := []) C0 (c_M_headless l D cI cZ y bc bp M hB0  (hh)) mt_M_headless ml_M_107 vt_M_headless rfl rfl ⟨Nat.le_of_ble_eq_true rfl, Nat.le_of_ble_eq_true rfl⟩ ⟨rfl, rfl⟩ ⟨Nat.zero_le _, Nat.zero_le _⟩ rfl rfl (Nat.le_of_ble_eq_true rfl) d_M_chosen_1 ?_
    refine z_st (stn := [.int (bI (sm_hl bp (mm_w M) (mm_h M)))]) rfl ?_
    refine z_istore_n (lvn := [(0, .ref (y 0)), (1, .int (bI (sm_hl bp (mm_w M) (mm_h M))))]) C0 d_M_chosen_4 rfl (by decide) [1, 0] rfl ?_
    refine z_iconst (v := -1) C0 d_M_chosen_5 (by decide) ?_
    refine z_istore_n (lvn := [(0, .ref (y 0)), (1, .int (bI (sm_hl bp (mm_w M) (mm_h M)))), (2, .int (-1))]) C0 d_M_chosen_6 rfl (by decide) [1, 2, 0] rfl ?_
    refine z_iconst (v := nI 0) C0 d_M_chosen_7 (by decide) ?_
    refine z_istore_n (lvn := [(0, .ref (y 0)), (1, .int (bI (sm_hl bp (mm_w M) (mm_h M)))), (2, .int (-1)), (3, .int (nI (0)))]) C0 d_M_chosen_8 rfl (by decide) [1, 2, 3, 0] rfl ?_
    refine z_iconst (v := nI 0) C0 d_M_chosen_9 (by decide) ?_
    refine z_istore (lvn := [(0, .ref (y 0)), (1, .int (bI (sm_hl bp (mm_w M) (mm_h M)))), (2, .int (-1)), (3, .int (nI (0))), (4, .int (nI (0)))]) C0 d_M_chosen_10 (by decide) [1, 2, 3, 4, 0] rfl ?_
    have lp12 : ∀ (n : Nat) (i : Nat) (best : Option Nat) (a : Nat), (i + n = bc) → (∀ q, best = some q → q < i) → (a ≤ bp) → (sm_chs bc bp M (sm_hl bp (mm_w M) (mm_h M)) bc 0 none 0 = sm_chs bc bp M (sm_hl bp (mm_w M) (mm_h M)) n i best a) → zc_Pt p l e { frames := 4, cells := 0, slots := 0, locals := 93 } s m args below meth c 6 D A 0 0 Q 12 [(0, .ref (y 0)), (1, .int (bI (sm_hl bp (mm_w M) (mm_h M)))), (2, .int (oN (best))), (3, .int (nI (a))), (4, .int (nI (i)))] [] (zm_W cI cZ y bc bp M) := by
      intro n
      induction n with
      | zero =>
        intro i best a hi hb ha hR
        refine z_iload C0 d_M_chosen_12 4 rfl ?_
        refine z_aload_n C0 d_M_chosen_14 rfl 0 rfl ?_
        refine z_get C0 gf_M_45 0 rfl rfl d_M_chosen_15 ?_
        refine z_icmpN_ge (tgt := 73) C0 d_M_chosen_18 (by decide) (by omega) (by omega) (fun (c18_14 : bc ≤ i) => ?_) (fun (c18_14 : i < bc) => ?_)
        · skip
          rcases best with _ | q1
          · refine z_lvs (lvn := [(0, .ref (y 0)), (1, .int (bI (sm_hl bp (mm_w M) (mm_h M)))), (2, .int (-1)), (3, .int (nI (a))), (4, .int (nI (i)))]) rfl ?_
            refine z_iload_n C0 d_M_chosen_73 rfl 2 rfl ?_
            refine z_if_lt (tgt := 96) C0 d_M_chosen_74 (by decide) (fun c74_15 => ?_) (fun c74_15 => ?_)
            · skip
              refine z_iconst (v := -1) C0 d_M_chosen_96 (by decide) ?_
              exact z_iret C0 hA hQ hr d_M_chosen_97 (by have e9 : sm_choose bc bp M = none := (by unfold sm_choose; rw [hR]; show sm_ch2 bc bp M (sm_hl bp (mm_w M) (mm_h M)) (none, a) = _; rfl); rw [e9]; exact ⟨rfl, rfl⟩)
            · exact absurd (by decide) c74_15
          · refine z_lvs (lvn := [(0, .ref (y 0)), (1, .int (bI (sm_hl bp (mm_w M) (mm_h M)))), (2, .int (nI (q1))), (3, .int (nI (a))), (4, .int (nI (i)))]) rfl ?_
            have hq1 := hb q1 rfl
            refine z_iload_n C0 d_M_chosen_73 rfl 2 rfl ?_
            refine z_if_lt (tgt := 96) C0 d_M_chosen_74 (by decide) (fun c74_16 => ?_) (fun c74_16 => ?_)
            · exact absurd c74_16 (nI_pos (by omega))
            · skip
              refine z_iload_n C0 d_M_chosen_77 rfl 3 rfl ?_
              refine z_aload_n C0 d_M_chosen_78 rfl 0 rfl ?_
              refine z_get C0 gf_M_48 0 rfl rfl d_M_chosen_79 ?_
              refine z_icmpN_eq (tgt := 96) C0 d_M_chosen_82 (by decide) (by omega) (by omega) (fun (c82_17 : a = bp) => ?_) (fun (c82_17 : a ≠ bp) => ?_)
              · skip
                refine z_iconst (v := -1) C0 d_M_chosen_96 (by decide) ?_
                exact z_iret C0 hA hQ hr d_M_chosen_97 (by have e9 : sm_choose bc bp M = none := (by unfold sm_choose; rw [hR]; show sm_ch2 bc bp M (sm_hl bp (mm_w M) (mm_h M)) (some q1, a) = _; simp [sm_ch2, hhd, c82_17]); rw [e9]; exact ⟨rfl, rfl⟩)
              · skip
                refine z_iload_n C0 d_M_chosen_85 rfl 1 rfl ?_
                refine z_ifB_eq (tgt := 98) C0 d_M_chosen_86 (by decide) (fun (c86_18 : sm_hl bp (mm_w M) (mm_h M) = false) => ?_) (fun (c86_18 : sm_hl bp (mm_w M) (mm_h M) = true) => ?_)
                · skip
                  refine z_iload_n C0 d_M_chosen_98 rfl 1 rfl ?_
                  refine z_ifB_ne (tgt := 123) C0 d_M_chosen_99 (by decide) (fun (c99_19 : sm_hl bp (mm_w M) (mm_h M) = true) => ?_) (fun (c99_19 : sm_hl bp (mm_w M) (mm_h M) = false) => ?_)
                  · exact absurd (c99_19.symm.trans c86_18) (by decide)
                  · skip
                    refine z_aload_n C0 d_M_chosen_102 rfl 0 rfl ?_
                    refine z_get C0 gf_M_48 0 rfl rfl d_M_chosen_103 ?_
                    refine z_aload_n C0 d_M_chosen_106 rfl 0 rfl ?_
                    refine z_aload_n C0 d_M_chosen_107 rfl 0 rfl ?_
                    refine z_get C0 gf_M_32 0 rfl rfl d_M_chosen_108 ?_
                    refine z_top (vn := .int (nI (hd))) (by first | rfl | (rw [hhd]; rfl)) ?_
                    refine z_allV (As := [.int (nI (hd))]) (rest := [.int (nI (bp))]) C0 (c_M_writtenOf l D cI cZ y bc bp M hB0 (hd) (by omega)) mt_M_writtenOf ml_M_101 vt_M_writtenOf rfl rfl ⟨Nat.le_of_ble_eq_true rfl, Nat.le_of_ble_eq_true rfl⟩ ⟨rfl, rfl⟩ ⟨Nat.zero_le _, Nat.zero_le _⟩ rfl rfl (Nat.le_of_ble_eq_true rfl) d_M_chosen_111 ?_
                    refine z_st (stn := [.int (nI (sm_wr bp (mm_w M) hd)), .int (nI (bp))]) rfl ?_
                    refine z_isubN C0 d_M_chosen_114 (sm_wrLe _ _ _) ?_
                    refine z_iload_n C0 d_M_chosen_115 rfl 3 rfl ?_
                    refine z_icmpN_ge (tgt := 123) C0 d_M_chosen_116 (by decide) (Nat.lt_of_le_of_lt (Nat.sub_le _ _) (by omega)) (by omega) (fun (c116_20 : a ≤ bp - (sm_wr bp (mm_w M) hd)) => ?_) (fun (c116_20 : bp - (sm_wr bp (mm_w M) hd) < a) => ?_)
                    · skip
                      refine z_iload_n C0 d_M_chosen_123 rfl 2 rfl ?_
                      exact z_iret C0 hA hQ hr d_M_chosen_124 (by have e9 : sm_choose bc bp M = some q1 := (by unfold sm_choose; rw [hR]; show sm_ch2 bc bp M (sm_hl bp (mm_w M) (mm_h M)) (some q1, a) = _; rw [c86_18]; simp [sm_ch2, hhd, c82_17, Nat.not_lt.mpr c116_20]); rw [e9]; exact ⟨rfl, rfl⟩)
                    · skip
                      refine z_iconst (v := -1) C0 d_M_chosen_119 (by decide) ?_
                      refine z_gotoK (tgt := 124) C0 d_M_chosen_120 (by decide) ?_
                      exact z_iret C0 hA hQ hr d_M_chosen_124 (by have e9 : sm_choose bc bp M = none := (by unfold sm_choose; rw [hR]; show sm_ch2 bc bp M (sm_hl bp (mm_w M) (mm_h M)) (some q1, a) = _; rw [c86_18]; simp [sm_ch2, hhd, c82_17, c116_20]); rw [e9]; exact ⟨rfl, rfl⟩)
                · skip
                  refine z_aload_n C0 d_M_chosen_89 rfl 0 rfl ?_
                  refine z_allV (As := []) (rest := []) C0 (c_M_frees l D cI cZ y bc bp M hB0  ) mt_M_frees ml_M_114 vt_M_frees rfl rfl ⟨Nat.le_of_ble_eq_true rfl, Nat.le_of_ble_eq_true rfl⟩ ⟨rfl, rfl⟩ ⟨Nat.zero_le _, Nat.zero_le _⟩ rfl rfl (Nat.le_of_ble_eq_true rfl) d_M_chosen_90 ?_
                  refine z_st (stn := [.int (nI (sm_fr bc bp (mm_w M)))]) rfl ?_
                  refine z_ifN_ne (tgt := 98) C0 d_M_chosen_93 (by decide) (Nat.lt_of_le_of_lt (sm_frLe _ _ _) (by omega)) (fun c93_21 => ?_) (fun c93_21 => ?_)
                  · skip
                    refine z_iload_n C0 d_M_chosen_98 rfl 1 rfl ?_
                    refine z_ifB_ne (tgt := 123) C0 d_M_chosen_99 (by decide) (fun (c99_22 : sm_hl bp (mm_w M) (mm_h M) = true) => ?_) (fun (c99_22 : sm_hl bp (mm_w M) (mm_h M) = false) => ?_)
                    · skip
                      refine z_iload_n C0 d_M_chosen_123 rfl 2 rfl ?_
                      exact z_iret C0 hA hQ hr d_M_chosen_124 (by have e9 : sm_choose bc bp M = some q1 := (by unfold sm_choose; rw [hR]; show sm_ch2 bc bp M (sm_hl bp (mm_w M) (mm_h M)) (some q1, a) = _; rw [c86_18]; simp [sm_ch2, hhd, c82_17, Nat.pos_iff_ne_zero.mp c93_21]); rw [e9]; exact ⟨rfl, rfl⟩)
                    · exact absurd (c99_22.symm.trans c86_18) (by decide)
                  · skip
                    refine z_iconst (v := -1) C0 d_M_chosen_96 (by decide) ?_
                    exact z_iret C0 hA hQ hr d_M_chosen_97 (by have e9 : sm_choose bc bp M = none := (by unfold sm_choose; rw [hR]; show sm_ch2 bc bp M (sm_hl bp (mm_w M) (mm_h M)) (some q1, a) = _; rw [c86_18]; simp [sm_ch2, hhd, c82_17, c93_21]); rw [e9]; exact ⟨rfl, rfl⟩)
        · exact absurd c18_14 (by omega)
      | succ n ih =>
        intro i best a hi hb ha hR
        refine z_iload C0 d_M_chosen_12 4 rfl ?_
        refine z_aload_n C0 d_M_chosen_14 rfl 0 rfl ?_
        refine z_get C0 gf_M_45 0 rfl rfl d_M_chosen_15 ?_
        refine z_icmpN_ge (tgt := 73) C0 d_M_chosen_18 (by decide) (by omega) (by omega) (fun (c18_23 : bc ≤ i) => ?_) (fun (c18_23 : i < bc) => ?_)
        · exact absurd c18_23 (by omega)
        · skip
          refine z_aload_n C0 d_M_chosen_21 rfl 0 rfl ?_
          refine z_iload C0 d_M_chosen_22 4 rfl ?_
          refine z_allV (As := [.int (nI (i))]) (rest := []) C0 (c_M_writtenOf l D cI cZ y bc bp M hB0 (i) (by omega)) mt_M_writtenOf ml_M_101 vt_M_writtenOf rfl rfl ⟨Nat.le_of_ble_eq_true rfl, Nat.le_of_ble_eq_true rfl⟩ ⟨rfl, rfl⟩ ⟨Nat.zero_le _, Nat.zero_le _⟩ rfl rfl (Nat.le_of_ble_eq_true rfl) d_M_chosen_24 ?_
          refine z_st (stn := [.int (nI (sm_wr bp (mm_w M) i))]) rfl ?_
          refine z_ifN_le (tgt := 67) C0 d_M_chosen_27 (by decide) (Nat.lt_of_le_of_lt (sm_wrLe _ _ _) (by omega)) (fun c27_24 => ?_) (fun c27_24 => ?_)
          · skip
            refine z_iincN (q := 4) (lvn := [(0, .ref (y 0)), (1, .int (bI (sm_hl bp (mm_w M) (mm_h M)))), (2, .int (oN (best))), (3, .int (nI (a))), (4, .int (nI (i + 1)))]) C0 d_M_chosen_67 rfl (by decide) [1, 2, 3, 4, 0] rfl ?_
            refine z_gotoK (tgt := 12) C0 d_M_chosen_70 (by decide) ?_
            exact ih (i + 1) (best) (a) (by omega) (fun q h => by have := hb q h; omega) (ha) (by rw [hR]; show sm_chs bc bp M (sm_hl bp (mm_w M) (mm_h M)) (n + 1) i _ a = _; simp only [sm_chs]; rw [if_neg (fun z => absurd z.1 (by rw [c27_24]; decide))])
          · skip
            refine z_iload C0 d_M_chosen_30 4 rfl ?_
            refine z_aload_n C0 d_M_chosen_32 rfl 0 rfl ?_
            refine z_get C0 gf_M_32 0 rfl rfl d_M_chosen_33 ?_
            refine z_top (vn := .int (nI (hd))) (by first | rfl | (rw [hhd]; rfl)) ?_
            refine z_icmpN_ne (tgt := 43) C0 d_M_chosen_36 (by decide) (by omega) (by omega) (fun (c36_25 : i ≠ hd) => ?_) (fun (c36_25 : i = hd) => ?_)
            · skip
              refine z_aload_n C0 d_M_chosen_43 rfl 0 rfl ?_
              refine z_iload C0 d_M_chosen_44 4 rfl ?_
              refine z_allV (As := [.int (nI (i))]) (rest := []) C0 (c_M_neededOf l D cI cZ y bc bp M hB0 (i) (hh) (by omega)) mt_M_neededOf ml_M_111 vt_M_neededOf rfl rfl ⟨Nat.le_of_ble_eq_true rfl, Nat.le_of_ble_eq_true rfl⟩ ⟨rfl, rfl⟩ ⟨Nat.zero_le _, Nat.zero_le _⟩ rfl rfl (Nat.le_of_ble_eq_true rfl) d_M_chosen_46 ?_
              refine z_st (stn := [.int (nI (sm_nd bc bp M i))]) rfl ?_
              refine z_istore (lvn := [(0, .ref (y 0)), (1, .int (bI (sm_hl bp (mm_w M) (mm_h M)))), (2, .int (oN (best))), (3, .int (nI (a))), (4, .int (nI (i))), (5, .int (nI (sm_nd bc bp M i)))]) C0 d_M_chosen_49 (by decide) [1, 2, 3, 4, 5, 0] rfl ?_
              rcases best with _ | q0
              · refine z_lvs (lvn := [(0, .ref (y 0)), (1, .int (bI (sm_hl bp (mm_w M) (mm_h M)))), (2, .int (-1)), (3, .int (nI (a))), (4, .int (nI (i))), (5, .int (nI (sm_nd bc bp M i)))]) rfl ?_
                refine z_iload_n C0 d_M_chosen_51 rfl 2 rfl ?_
                refine z_if_lt (tgt := 61) C0 d_M_chosen_52 (by decide) (fun c52_26 => ?_) (fun c52_26 => ?_)
                · skip
                  refine z_iload C0 d_M_chosen_61 4 rfl ?_
                  refine z_istore_n (lvn := [(0, .ref (y 0)), (1, .int (bI (sm_hl bp (mm_w M) (mm_h M)))), (2, .int (nI (i))), (3, .int (nI (a))), (4, .int (nI (i))), (5, .int (nI (sm_nd bc bp M i)))]) C0 d_M_chosen_63 rfl (by decide) [1, 2, 0, 3, 4, 5] rfl ?_
                  refine z_iload C0 d_M_chosen_64 5 rfl ?_
                  refine z_istore_n (lvn := [(0, .ref (y 0)), (1, .int (bI (sm_hl bp (mm_w M) (mm_h M)))), (2, .int (nI (i))), (3, .int (nI (sm_nd bc bp M i))), (4, .int (nI (i))), (5, .int (nI (sm_nd bc bp M i)))]) C0 d_M_chosen_66 rfl (by decide) [1, 2, 3, 0, 4, 5] rfl ?_
                  refine z_iincN (q := 4) (lvn := [(0, .ref (y 0)), (1, .int (bI (sm_hl bp (mm_w M) (mm_h M)))), (2, .int (nI (i))), (3, .int (nI (sm_nd bc bp M i))), (4, .int (nI (i + 1))), (5, .int (nI (sm_nd bc bp M i)))]) C0 d_M_chosen_67 rfl (by decide) [1, 2, 3, 4, 0, 5] rfl ?_
                  refine z_gotoK (tgt := 12) C0 d_M_chosen_70 (by decide) ?_
                  refine z_lv [0, 1, 2, 3, 4] rfl ?_
                  exact ih (i + 1) (some (i)) (sm_nd bc bp M i) (by omega) (fun q h => by cases h; omega) (sm_ndLe _ _ _ _) (by rw [hR]; show sm_chs bc bp M (sm_hl bp (mm_w M) (mm_h M)) (n + 1) i _ a = _; simp only [sm_chs]; rw [if_pos ⟨c27_24, Or.inl (by rw [hhd]; intro z; exact c36_25 (Option.some.inj z).symm), Or.inl (by trivial)⟩])
                · exact absurd (by decide) c52_26
              · refine z_lvs (lvn := [(0, .ref (y 0)), (1, .int (bI (sm_hl bp (mm_w M) (mm_h M)))), (2, .int (nI (q0))), (3, .int (nI (a))), (4, .int (nI (i))), (5, .int (nI (sm_nd bc bp M i)))]) rfl ?_
                have hq0 := hb q0 rfl
                refine z_iload_n C0 d_M_chosen_51 rfl 2 rfl ?_
                refine z_if_lt (tgt := 61) C0 d_M_chosen_52 (by decide) (fun c52_27 => ?_) (fun c52_27 => ?_)
                · exact absurd c52_27 (nI_pos (by omega))
                · skip
                  refine z_iload C0 d_M_chosen_55 5 rfl ?_
                  refine z_iload_n C0 d_M_chosen_57 rfl 3 rfl ?_
                  refine z_icmpN_ge (tgt := 67) C0 d_M_chosen_58 (by decide) (Nat.lt_of_le_of_lt (sm_ndLe _ _ _ _) (by omega)) (by omega) (fun (c58_28 : a ≤ sm_nd bc bp M i) => ?_) (fun (c58_28 : sm_nd bc bp M i < a) => ?_)
                  · skip
                    refine z_iincN (q := 4) (lvn := [(0, .ref (y 0)), (1, .int (bI (sm_hl bp (mm_w M) (mm_h M)))), (2, .int (nI (q0))), (3, .int (nI (a))), (4, .int (nI (i + 1))), (5, .int (nI (sm_nd bc bp M i)))]) C0 d_M_chosen_67 rfl (by decide) [1, 2, 3, 4, 0, 5] rfl ?_
                    refine z_gotoK (tgt := 12) C0 d_M_chosen_70 (by decide) ?_
                    refine z_lv [0, 1, 2, 3, 4] rfl ?_
                    exact ih (i + 1) (some (q0)) (a) (by omega) (fun q h => by cases h; omega) (ha) (by rw [hR]; show sm_chs bc bp M (sm_hl bp (mm_w M) (mm_h M)) (n + 1) i _ a = _; simp only [sm_chs]; rw [if_neg (fun z => z.2.2.elim (fun q => by cases q) (fun q => Nat.not_lt.mpr c58_28 q))])
                  · skip
                    refine z_iload C0 d_M_chosen_61 4 rfl ?_
                    refine z_istore_n (lvn := [(0, .ref (y 0)), (1, .int (bI (sm_hl bp (mm_w M) (mm_h M)))), (2, .int (nI (i))), (3, .int (nI (a))), (4, .int (nI (i))), (5, .int (nI (sm_nd bc bp M i)))]) C0 d_M_chosen_63 rfl (by decide) [1, 2, 0, 3, 4, 5] rfl ?_
                    refine z_iload C0 d_M_chosen_64 5 rfl ?_
                    refine z_istore_n (lvn := [(0, .ref (y 0)), (1, .int (bI (sm_hl bp (mm_w M) (mm_h M)))), (2, .int (nI (i))), (3, .int (nI (sm_nd bc bp M i))), (4, .int (nI (i))), (5, .int (nI (sm_nd bc bp M i)))]) C0 d_M_chosen_66 rfl (by decide) [1, 2, 3, 0, 4, 5] rfl ?_
                    refine z_iincN (q := 4) (lvn := [(0, .ref (y 0)), (1, .int (bI (sm_hl bp (mm_w M) (mm_h M)))), (2, .int (nI (i))), (3, .int (nI (sm_nd bc bp M i))), (4, .int (nI (i + 1))), (5, .int (nI (sm_nd bc bp M i)))]) C0 d_M_chosen_67 rfl (by decide) [1, 2, 3, 4, 0, 5] rfl ?_
                    refine z_gotoK (tgt := 12) C0 d_M_chosen_70 (by decide) ?_
                    refine z_lv [0, 1, 2, 3, 4] rfl ?_
                    exact ih (i + 1) (some (i)) (sm_nd bc bp M i) (by omega) (fun q h => by cases h; omega) (sm_ndLe _ _ _ _) (by rw [hR]; show sm_chs bc bp M (sm_hl bp (mm_w M) (mm_h M)) (n + 1) i _ a = _; simp only [sm_chs]; rw [if_pos ⟨c27_24, Or.inl (by rw [hhd]; intro z; exact c36_25 (Option.some.inj z).symm), Or.inr c58_28⟩])
            · skip
              refine z_iload_n C0 d_M_chosen_39 rfl 1 rfl ?_
              refine z_ifB_eq (tgt := 67) C0 d_M_chosen_40 (by decide) (fun (c40_29 : sm_hl bp (mm_w M) (mm_h M) = false) => ?_) (fun (c40_29 : sm_hl bp (mm_w M) (mm_h M) = true) => ?_)
              · skip
                refine z_iincN (q := 4) (lvn := [(0, .ref (y 0)), (1, .int (bI (sm_hl bp (mm_w M) (mm_h M)))), (2, .int (oN (best))), (3, .int (nI (a))), (4, .int (nI (i + 1)))]) C0 d_M_chosen_67 rfl (by decide) [1, 2, 3, 4, 0] rfl ?_
                refine z_gotoK (tgt := 12) C0 d_M_chosen_70 (by decide) ?_
                exact ih (i + 1) (best) (a) (by omega) (fun q h => by have := hb q h; omega) (ha) (by rw [hR]; show sm_chs bc bp M (sm_hl bp (mm_w M) (mm_h M)) (n + 1) i _ a = _; simp only [sm_chs]; rw [if_neg (fun z => z.2.1.elim (fun q => q (by rw [hhd, c36_25])) (fun q => absurd (q.symm.trans c40_29) (by decide)))])
              · skip
                refine z_aload_n C0 d_M_chosen_43 rfl 0 rfl ?_
                refine z_iload C0 d_M_chosen_44 4 rfl ?_
                refine z_allV (As := [.int (nI (i))]) (rest := []) C0 (c_M_neededOf l D cI cZ y bc bp M hB0 (i) (hh) (by omega)) mt_M_neededOf ml_M_111 vt_M_neededOf rfl rfl ⟨Nat.le_of_ble_eq_true rfl, Nat.le_of_ble_eq_true rfl⟩ ⟨rfl, rfl⟩ ⟨Nat.zero_le _, Nat.zero_le _⟩ rfl rfl (Nat.le_of_ble_eq_true rfl) d_M_chosen_46 ?_
                refine z_st (stn := [.int (nI (sm_nd bc bp M i))]) rfl ?_
                refine z_istore (lvn := [(0, .ref (y 0)), (1, .int (bI (sm_hl bp (mm_w M) (mm_h M)))), (2, .int (oN (best))), (3, .int (nI (a))), (4, .int (nI (i))), (5, .int (nI (sm_nd bc bp M i)))]) C0 d_M_chosen_49 (by decide) [1, 2, 3, 4, 5, 0] rfl ?_
                rcases best with _ | q0
                · refine z_lvs (lvn := [(0, .ref (y 0)), (1, .int (bI (sm_hl bp (mm_w M) (mm_h M)))), (2, .int (-1)), (3, .int (nI (a))), (4, .int (nI (i))), (5, .int (nI (sm_nd bc bp M i)))]) rfl ?_
                  refine z_iload_n C0 d_M_chosen_51 rfl 2 rfl ?_
                  refine z_if_lt (tgt := 61) C0 d_M_chosen_52 (by decide) (fun c52_30 => ?_) (fun c52_30 => ?_)
                  · skip
                    refine z_iload C0 d_M_chosen_61 4 rfl ?_
                    refine z_istore_n (lvn := [(0, .ref (y 0)), (1, .int (bI (sm_hl bp (mm_w M) (mm_h M)))), (2, .int (nI (i))), (3, .int (nI (a))), (4, .int (nI (i))), (5, .int (nI (sm_nd bc bp M i)))]) C0 d_M_chosen_63 rfl (by decide) [1, 2, 0, 3, 4, 5] rfl ?_
                    refine z_iload C0 d_M_chosen_64 5 rfl ?_
                    refine z_istore_n (lvn := [(0, .ref (y 0)), (1, .int (bI (sm_hl bp (mm_w M) (mm_h M)))), (2, .int (nI (i))), (3, .int (nI (sm_nd bc bp M i))), (4, .int (nI (i))), (5, .int (nI (sm_nd bc bp M i)))]) C0 d_M_chosen_66 rfl (by decide) [1, 2, 3, 0, 4, 5] rfl ?_
                    refine z_iincN (q := 4) (lvn := [(0, .ref (y 0)), (1, .int (bI (sm_hl bp (mm_w M) (mm_h M)))), (2, .int (nI (i))), (3, .int (nI (sm_nd bc bp M i))), (4, .int (nI (i + 1))), (5, .int (nI (sm_nd bc bp M i)))]) C0 d_M_chosen_67 rfl (by decide) [1, 2, 3, 4, 0, 5] rfl ?_
                    refine z_gotoK (tgt := 12) C0 d_M_chosen_70 (by decide) ?_
                    refine z_lv [0, 1, 2, 3, 4] rfl ?_
                    exact ih (i + 1) (some (i)) (sm_nd bc bp M i) (by omega) (fun q h => by cases h; omega) (sm_ndLe _ _ _ _) (by rw [hR]; show sm_chs bc bp M (sm_hl bp (mm_w M) (mm_h M)) (n + 1) i _ a = _; simp only [sm_chs]; rw [if_pos ⟨c27_24, Or.inr c40_29, Or.inl (by trivial)⟩])
                  · exact absurd (by decide) c52_30
                · refine z_lvs (lvn := [(0, .ref (y 0)), (1, .int (bI (sm_hl bp (mm_w M) (mm_h M)))), (2, .int (nI (q0))), (3, .int (nI (a))), (4, .int (nI (i))), (5, .int (nI (sm_nd bc bp M i)))]) rfl ?_
                  have hq0 := hb q0 rfl
                  refine z_iload_n C0 d_M_chosen_51 rfl 2 rfl ?_
                  refine z_if_lt (tgt := 61) C0 d_M_chosen_52 (by decide) (fun c52_31 => ?_) (fun c52_31 => ?_)
                  · exact absurd c52_31 (nI_pos (by omega))
                  · skip
                    refine z_iload C0 d_M_chosen_55 5 rfl ?_
                    refine z_iload_n C0 d_M_chosen_57 rfl 3 rfl ?_
                    refine z_icmpN_ge (tgt := 67) C0 d_M_chosen_58 (by decide) (Nat.lt_of_le_of_lt (sm_ndLe _ _ _ _) (by omega)) (by omega) (fun (c58_32 : a ≤ sm_nd bc bp M i) => ?_) (fun (c58_32 : sm_nd bc bp M i < a) => ?_)
                    · skip
                      refine z_iincN (q := 4) (lvn := [(0, .ref (y 0)), (1, .int (bI (sm_hl bp (mm_w M) (mm_h M)))), (2, .int (nI (q0))), (3, .int (nI (a))), (4, .int (nI (i + 1))), (5, .int (nI (sm_nd bc bp M i)))]) C0 d_M_chosen_67 rfl (by decide) [1, 2, 3, 4, 0, 5] rfl ?_
                      refine z_gotoK (tgt := 12) C0 d_M_chosen_70 (by decide) ?_
                      refine z_lv [0, 1, 2, 3, 4] rfl ?_
                      exact ih (i + 1) (some (q0)) (a) (by omega) (fun q h => by cases h; omega) (ha) (by rw [hR]; show sm_chs bc bp M (sm_hl bp (mm_w M) (mm_h M)) (n + 1) i _ a = _; simp only [sm_chs]; rw [if_neg (fun z => z.2.2.elim (fun q => by cases q) (fun q => Nat.not_lt.mpr c58_32 q))])
                    · skip
                      refine z_iload C0 d_M_chosen_61 4 rfl ?_
                      refine z_istore_n (lvn := [(0, .ref (y 0)), (1, .int (bI (sm_hl bp (mm_w M) (mm_h M)))), (2, .int (nI (i))), (3, .int (nI (a))), (4, .int (nI (i))), (5, .int (nI (sm_nd bc bp M i)))]) C0 d_M_chosen_63 rfl (by decide) [1, 2, 0, 3, 4, 5] rfl ?_
                      refine z_iload C0 d_M_chosen_64 5 rfl ?_
                      refine z_istore_n (lvn := [(0, .ref (y 0)), (1, .int (bI (sm_hl bp (mm_w M) (mm_h M)))), (2, .int (nI (i))), (3, .int (nI (sm_nd bc bp M i))), (4, .int (nI (i))), (5, .int (nI (sm_nd bc bp M i)))]) C0 d_M_chosen_66 rfl (by decide) [1, 2, 3, 0, 4, 5] rfl ?_
                      refine z_iincN (q := 4) (lvn := [(0, .ref (y 0)), (1, .int (bI (sm_hl bp (mm_w M) (mm_h M)))), (2, .int (nI (i))), (3, .int (nI (sm_nd bc bp M i))), (4, .int (nI (i + 1))), (5, .int (nI (sm_nd bc bp M i)))]) C0 d_M_chosen_67 rfl (by decide) [1, 2, 3, 4, 0, 5] rfl ?_
                      refine z_gotoK (tgt := 12) C0 d_M_chosen_70 (by decide) ?_
                      refine z_lv [0, 1, 2, 3, 4] rfl ?_
                      exact ih (i + 1) (some (i)) (sm_nd bc bp M i) (by omega) (fun q h => by cases h; omega) (sm_ndLe _ _ _ _) (by rw [hR]; show sm_chs bc bp M (sm_hl bp (mm_w M) (mm_h M)) (n + 1) i _ a = _; simp only [sm_chs]; rw [if_pos ⟨c27_24, Or.inr c40_29, Or.inr c58_32⟩])
    exact lp12 (bc) (0) none (0) (by omega) (fun q h => by cases h) (by omega) (rfl)
