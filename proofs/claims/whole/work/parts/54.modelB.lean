set_option maxHeartbeats 4000000 in
set_option maxRecDepth 100000 in
theorem c_M_latest (l : Launch) (D : va_G) (cI cZ : ClassId) (y : Nat → Nat) (bc bp : Nat) (M : zm_S) (hB : zb_ok bc bp) (kv : Int32) (hh : zh_ok bc (mm_h M)) : zc_Con l y_M_latest b_M_latest 4 (some .int) { frames := 1, cells := 0, slots := 0, locals := 24 } D cI cZ [.ref (y 0), .int (kv)] (zm_W cI cZ y bc bp M) (zo (some (.int (oN (sm_lat bc bp M kv)))) (zm_W cI cZ y bc bp M)) := by
  refine zc_start (by decide) (Nat.le_of_ble_eq_true rfl) ?_
  intro p e s m args below meth c A Q hA hQ C0 hr hin
  have C0 : zc_Cx p s m args meth c b_M_latest 4 R_M D cI cZ A := C0
  have hB0 := hB
  obtain ⟨hB1, hB2, hB3, hB4⟩ := hB
  have hN : bc * bp ≤ 20 := Nat.mul_le_mul hB2 hB4
  refine z_lvs (lvn := [(0, .ref (y 0)), (1, .int (kv))]) rfl ?_
  refine z_iconst (v := -1) C0 d_M_latest_0 (by decide) ?_
  refine z_istore_n (lvn := [(0, .ref (y 0)), (1, .int (kv)), (2, .int (-1))]) C0 d_M_latest_1 rfl (by decide) [1, 2, 0] rfl ?_
  refine z_iconst (v := nI 0) C0 d_M_latest_2 (by decide) ?_
  refine z_istore_n (lvn := [(0, .ref (y 0)), (1, .int (kv)), (2, .int (-1)), (3, .int (nI (0)))]) C0 d_M_latest_3 rfl (by decide) [1, 2, 3, 0] rfl ?_
  have lp4 : ∀ (n : Nat) (i : Nat) (best : Option Nat), (i + n = bc * bp) → (∀ q, best = some q → q < i) → (sm_lat bc bp M kv = sm_lats bp (mm_h M) (mm_w M) (mm_s M) (mm_k M) kv n i best) → zc_Pt p l e { frames := 1, cells := 0, slots := 0, locals := 24 } s m args below meth c 4 D A 0 0 Q 4 [(0, .ref (y 0)), (1, .int (kv)), (2, .int (oN (best))), (3, .int (nI (i)))] [] (zm_W cI cZ y bc bp M) := by
    intro n
    induction n with
    | zero =>
      intro i best hi hb hR
      refine z_iload_n C0 d_M_latest_4 rfl 3 rfl ?_
      refine z_aload_n C0 d_M_latest_5 rfl 0 rfl ?_
      refine z_get C0 gf_M_51 0 rfl rfl d_M_latest_6 ?_
      refine z_icmpN_ge (tgt := 52) C0 d_M_latest_9 (by decide) (by omega) (by omega) (fun (c9_1 : bc * bp ≤ i) => ?_) (fun (c9_1 : i < bc * bp) => ?_)
      · skip
        refine z_iload_n C0 d_M_latest_52 rfl 2 rfl ?_
        exact z_iret C0 hA hQ hr d_M_latest_53 (⟨by rw [hR]; rfl, rfl⟩)
      · exact absurd c9_1 (by omega)
    | succ n ih =>
      intro i best hi hb hR
      refine z_iload_n C0 d_M_latest_4 rfl 3 rfl ?_
      refine z_aload_n C0 d_M_latest_5 rfl 0 rfl ?_
      refine z_get C0 gf_M_51 0 rfl rfl d_M_latest_6 ?_
      refine z_icmpN_ge (tgt := 52) C0 d_M_latest_9 (by decide) (by omega) (by omega) (fun (c9_2 : bc * bp ≤ i) => ?_) (fun (c9_2 : i < bc * bp) => ?_)
      · exact absurd c9_2 (by omega)
      · skip
        refine z_aload_n C0 d_M_latest_12 rfl 0 rfl ?_
        refine z_get C0 gf_M_16 0 rfl rfl d_M_latest_13 ?_
        refine z_iload_n C0 d_M_latest_16 rfl 3 rfl ?_
        refine z_zald C0 3 rfl (by omega) (by omega) d_M_latest_17 ?_
        refine z_ifB_eq (tgt := 46) C0 d_M_latest_18 (by decide) (fun (c18_3 : (mm_w M) (i) = false) => ?_) (fun (c18_3 : (mm_w M) (i) = true) => ?_)
        · skip
          refine z_iincN (q := 3) (lvn := [(0, .ref (y 0)), (1, .int (kv)), (2, .int (oN (best))), (3, .int (nI (i + 1)))]) C0 d_M_latest_46 rfl (by decide) [1, 2, 3, 0] rfl ?_
          refine z_gotoK (tgt := 4) C0 d_M_latest_49 (by decide) ?_
          exact ih (i + 1) (best) (by omega) (fun q h => by have := hb q h; omega) (by rw [hR]; simp [sm_lats, sm_befO, c9_2, c18_3])
        · skip
          refine z_aload_n C0 d_M_latest_21 rfl 0 rfl ?_
          refine z_get C0 gf_M_23 0 rfl rfl d_M_latest_22 ?_
          refine z_iload_n C0 d_M_latest_25 rfl 3 rfl ?_
          refine z_iald C0 5 rfl (by omega) (by omega) d_M_latest_26 ?_
          refine z_iload_n C0 d_M_latest_27 rfl 1 rfl ?_
          refine z_icmp_ne (tgt := 46) C0 d_M_latest_28 (by decide) (fun (c28_4 : ¬ ((mm_k M) (i)) = kv) => ?_) (fun (c28_4 : ((mm_k M) (i)) = kv) => ?_)
          · skip
            refine z_iincN (q := 3) (lvn := [(0, .ref (y 0)), (1, .int (kv)), (2, .int (oN (best))), (3, .int (nI (i + 1)))]) C0 d_M_latest_46 rfl (by decide) [1, 2, 3, 0] rfl ?_
            refine z_gotoK (tgt := 4) C0 d_M_latest_49 (by decide) ?_
            exact ih (i + 1) (best) (by omega) (fun q h => by have := hb q h; omega) (by rw [hR]; simp [sm_lats, sm_befO, c9_2, c18_3, c28_4])
          · skip
            rcases best with _ | q0
            · refine z_lvs (lvn := [(0, .ref (y 0)), (1, .int (kv)), (2, .int (-1)), (3, .int (nI (i)))]) rfl ?_
              refine z_iload_n C0 d_M_latest_31 rfl 2 rfl ?_
              refine z_if_lt (tgt := 44) C0 d_M_latest_32 (by decide) (fun c32_5 => ?_) (fun c32_5 => ?_)
              · skip
                refine z_iload_n C0 d_M_latest_44 rfl 3 rfl ?_
                refine z_istore_n (lvn := [(0, .ref (y 0)), (1, .int (kv)), (2, .int (nI (i))), (3, .int (nI (i)))]) C0 d_M_latest_45 rfl (by decide) [1, 2, 0, 3] rfl ?_
                refine z_iincN (q := 3) (lvn := [(0, .ref (y 0)), (1, .int (kv)), (2, .int (nI (i))), (3, .int (nI (i + 1)))]) C0 d_M_latest_46 rfl (by decide) [1, 2, 3, 0] rfl ?_
                refine z_gotoK (tgt := 4) C0 d_M_latest_49 (by decide) ?_
                exact ih (i + 1) (some (i)) (by omega) (fun q h => by cases h; omega) (by rw [hR]; simp [sm_lats, sm_befO, c9_2, c18_3, c28_4])
              · exact absurd (by decide) c32_5
            · refine z_lvs (lvn := [(0, .ref (y 0)), (1, .int (kv)), (2, .int (nI (q0))), (3, .int (nI (i)))]) rfl ?_
              have hq0 := hb q0 rfl
              refine z_iload_n C0 d_M_latest_31 rfl 2 rfl ?_
              refine z_if_lt (tgt := 44) C0 d_M_latest_32 (by decide) (fun c32_6 => ?_) (fun c32_6 => ?_)
              · exact absurd c32_6 (nI_pos (by omega))
              · skip
                refine z_aload_n C0 d_M_latest_35 rfl 0 rfl ?_
                refine z_iload_n C0 d_M_latest_36 rfl 3 rfl ?_
                refine z_iload_n C0 d_M_latest_37 rfl 2 rfl ?_
                refine z_allV (As := [.int (nI (i)), .int (nI (q0))]) (rest := []) C0 (c_M_before l D cI cZ y bc bp M hB0 (i) (q0) (hh) (by omega) (by omega)) mt_M_before ml_M_90 vt_M_before rfl rfl ⟨Nat.le_of_ble_eq_true rfl, Nat.le_of_ble_eq_true rfl⟩ ⟨rfl, rfl⟩ ⟨Nat.zero_le _, Nat.zero_le _⟩ rfl rfl (Nat.le_of_ble_eq_true rfl) d_M_latest_38 ?_
                refine z_st (stn := [.int (bI (sm_bef bp (mm_h M) (mm_s M) i q0))]) rfl ?_
                refine z_ifB_eq (tgt := 46) C0 d_M_latest_41 (by decide) (fun (c41_7 : sm_bef bp (mm_h M) (mm_s M) i q0 = false) => ?_) (fun (c41_7 : sm_bef bp (mm_h M) (mm_s M) i q0 = true) => ?_)
                · skip
                  refine z_iincN (q := 3) (lvn := [(0, .ref (y 0)), (1, .int (kv)), (2, .int (nI (q0))), (3, .int (nI (i + 1)))]) C0 d_M_latest_46 rfl (by decide) [1, 2, 3, 0] rfl ?_
                  refine z_gotoK (tgt := 4) C0 d_M_latest_49 (by decide) ?_
                  exact ih (i + 1) (some (q0)) (by omega) (fun q h => by cases h; omega) (by rw [hR]; simp [sm_lats, sm_befO, c9_2, c18_3, c28_4, c41_7])
                · skip
                  refine z_iload_n C0 d_M_latest_44 rfl 3 rfl ?_
                  refine z_istore_n (lvn := [(0, .ref (y 0)), (1, .int (kv)), (2, .int (nI (i))), (3, .int (nI (i)))]) C0 d_M_latest_45 rfl (by decide) [1, 2, 0, 3] rfl ?_
                  refine z_iincN (q := 3) (lvn := [(0, .ref (y 0)), (1, .int (kv)), (2, .int (nI (i))), (3, .int (nI (i + 1)))]) C0 d_M_latest_46 rfl (by decide) [1, 2, 3, 0] rfl ?_
                  refine z_gotoK (tgt := 4) C0 d_M_latest_49 (by decide) ?_
                  exact ih (i + 1) (some (i)) (by omega) (fun q h => by cases h; omega) (by rw [hR]; simp [sm_lats, sm_befO, c9_2, c18_3, c28_4, c41_7])
  exact lp4 (bc * bp) (0) none (by omega) (fun q h => by cases h) (rfl)

set_option maxHeartbeats 4000000 in
set_option maxRecDepth 100000 in
theorem c_M_held (l : Launch) (D : va_G) (cI cZ : ClassId) (y : Nat → Nat) (bc bp : Nat) (M : zm_S) (hB : zb_ok bc bp) (kv : Int32) (hh : zh_ok bc (mm_h M)) : zc_Con l y_M_held b_M_held 3 (some .boolean) { frames := 2, cells := 0, slots := 0, locals := 47 } D cI cZ [.ref (y 0), .int (kv)] (zm_W cI cZ y bc bp M) (zo (some (.int (bI (sm_held bc bp M kv)))) (zm_W cI cZ y bc bp M)) := by
  refine zc_start (by decide) (Nat.le_of_ble_eq_true rfl) ?_
  intro p e s m args below meth c A Q hA hQ C0 hr hin
  have C0 : zc_Cx p s m args meth c b_M_held 3 R_M D cI cZ A := C0
  have hB0 := hB
  obtain ⟨hB1, hB2, hB3, hB4⟩ := hB
  have hN : bc * bp ≤ 20 := Nat.mul_le_mul hB2 hB4
  refine z_lvs (lvn := [(0, .ref (y 0)), (1, .int (kv))]) rfl ?_
  refine z_aload_n C0 d_M_held_0 rfl 0 rfl ?_
  refine z_iload_n C0 d_M_held_1 rfl 1 rfl ?_
  refine z_allV (As := [.int (kv)]) (rest := []) C0 (c_M_latest l D cI cZ y bc bp M hB0 (kv) (hh)) mt_M_latest ml_M_94 vt_M_latest rfl rfl ⟨Nat.le_of_ble_eq_true rfl, Nat.le_of_ble_eq_true rfl⟩ ⟨rfl, rfl⟩ ⟨Nat.zero_le _, Nat.zero_le _⟩ rfl rfl (Nat.le_of_ble_eq_true rfl) d_M_held_2 ?_
  refine z_st (stn := [.int (oN (sm_lat bc bp M kv))]) rfl ?_
  refine z_istore_n (lvn := [(0, .ref (y 0)), (1, .int (kv)), (2, .int (oN (sm_lat bc bp M kv)))]) C0 d_M_held_5 rfl (by decide) [1, 2, 0] rfl ?_
  refine z_iload_n C0 d_M_held_6 rfl 2 rfl ?_
  rcases e7_1 : sm_lat bc bp M kv with _ | g7_2
  · refine z_st (stn := [.int (-1)]) (by first | rfl | (rw [e7_1]; rfl)) ?_
    refine z_lvs (lvn := [(0, .ref (y 0)), (1, .int (kv)), (2, .int (-1))]) (by first | rfl | (rw [e7_1]; rfl)) ?_
    refine z_if_lt (tgt := 24) C0 d_M_held_7 (by decide) (fun c7_3 => ?_) (fun c7_3 => ?_)
    · skip
      refine z_iconst (v := nI 0) C0 d_M_held_24 (by decide) ?_
      refine z_topi (x := nI 0) (xn := bI false) (by decide) ?_
      exact z_zret C0 hA hQ hr d_M_held_25 (⟨by unfold sm_held; rw [e7_1]; simp [sl_heldO, e7_1], rfl⟩)
    · exact absurd (by decide) c7_3
  · refine z_st (stn := [.int (nI (g7_2))]) (by first | rfl | (rw [e7_1]; rfl)) ?_
    refine z_lvs (lvn := [(0, .ref (y 0)), (1, .int (kv)), (2, .int (nI (g7_2)))]) (by first | rfl | (rw [e7_1]; rfl)) ?_
    have hq := sm_latLt e7_1
    refine z_if_lt (tgt := 24) C0 d_M_held_7 (by decide) (fun c7_4 => ?_) (fun c7_4 => ?_)
    · exact absurd c7_4 (nI_pos (by omega))
    · skip
      refine z_aload_n C0 d_M_held_10 rfl 0 rfl ?_
      refine z_get C0 gf_M_26 0 rfl rfl d_M_held_11 ?_
      refine z_iload_n C0 d_M_held_14 rfl 2 rfl ?_
      refine z_iald C0 6 rfl (by omega) (by omega) d_M_held_15 ?_
      refine z_iconst (v := nI 1) C0 d_M_held_16 (by decide) ?_
      refine z_topi (x := nI 1) (xn := 1) (by decide) ?_
      refine z_icmp_ne (tgt := 24) C0 d_M_held_17 (by decide) (fun (c17_5 : ¬ ((mm_d M) (g7_2)) = 1) => ?_) (fun (c17_5 : ((mm_d M) (g7_2)) = 1) => ?_)
      · skip
        refine z_iconst (v := nI 0) C0 d_M_held_24 (by decide) ?_
        refine z_topi (x := nI 0) (xn := bI false) (by decide) ?_
        exact z_zret C0 hA hQ hr d_M_held_25 (⟨by unfold sm_held; rw [e7_1]; simp [sl_heldO, e7_1, c17_5], rfl⟩)
      · skip
        refine z_iconst (v := nI 1) C0 d_M_held_20 (by decide) ?_
        refine z_gotoK (tgt := 25) C0 d_M_held_21 (by decide) ?_
        refine z_topi (x := nI 1) (xn := bI true) (by decide) ?_
        exact z_zret C0 hA hQ hr d_M_held_25 (⟨by unfold sm_held; rw [e7_1]; simp [sl_heldO, e7_1, c17_5], rfl⟩)

set_option maxHeartbeats 4000000 in
set_option maxRecDepth 100000 in
theorem c_M_heldKeys (l : Launch) (D : va_G) (cI cZ : ClassId) (y : Nat → Nat) (bc bp : Nat) (M : zm_S) (hB : zb_ok bc bp)  (hh : zh_ok bc (mm_h M)) : zc_Con l y_M_heldKeys b_M_heldKeys 3 (some .int) { frames := 3, cells := 0, slots := 0, locals := 69 } D cI cZ [.ref (y 0)] (zm_W cI cZ y bc bp M) (zo (some (.int (nI (sm_hks bc bp M 16 0 0)))) (zm_W cI cZ y bc bp M)) := by
  refine zc_start (by decide) (Nat.le_of_ble_eq_true rfl) ?_
  intro p e s m args below meth c A Q hA hQ C0 hr hin
  have C0 : zc_Cx p s m args meth c b_M_heldKeys 3 R_M D cI cZ A := C0
  have hB0 := hB
  obtain ⟨hB1, hB2, hB3, hB4⟩ := hB
  have hN : bc * bp ≤ 20 := Nat.mul_le_mul hB2 hB4
  refine z_lvs (lvn := [(0, .ref (y 0))]) rfl ?_
  refine z_iconst (v := nI 0) C0 d_M_heldKeys_0 (by decide) ?_
  refine z_istore_n (lvn := [(0, .ref (y 0)), (1, .int (nI (0)))]) C0 d_M_heldKeys_1 rfl (by decide) [1, 0] rfl ?_
  refine z_iconst (v := nI 0) C0 d_M_heldKeys_2 (by decide) ?_
  refine z_istore_n (lvn := [(0, .ref (y 0)), (1, .int (nI (0))), (2, .int (nI (0)))]) C0 d_M_heldKeys_3 rfl (by decide) [1, 2, 0] rfl ?_
  have lp4 : ∀ (n : Nat) (k : Nat) (a : Nat), (k + n = 16) → (sm_hks bc bp M 16 0 0 = sm_hks bc bp M n k a) → zc_Pt p l e { frames := 3, cells := 0, slots := 0, locals := 69 } s m args below meth c 3 D A 0 0 Q 4 [(0, .ref (y 0)), (1, .int (nI (a))), (2, .int (nI (k)))] [] (zm_W cI cZ y bc bp M) := by
    intro n
    induction n with
    | zero =>
      intro k a hi hR
      refine z_iload_n C0 d_M_heldKeys_4 rfl 2 rfl ?_
      refine z_bipush (v := nI 16) C0 d_M_heldKeys_5 (by decide) ?_
      refine z_icmpN_ge (tgt := 32) C0 d_M_heldKeys_7 (by decide) (by omega) (by omega) (fun (c7_1 : 16 ≤ k) => ?_) (fun (c7_1 : k < 16) => ?_)
      · skip
        refine z_iload_n C0 d_M_heldKeys_32 rfl 1 rfl ?_
        exact z_iret C0 hA hQ hr d_M_heldKeys_33 (⟨by rw [hR]; rfl, rfl⟩)
      · exact absurd c7_1 (by omega)
    | succ n ih =>
      intro k a hi hR
      refine z_iload_n C0 d_M_heldKeys_4 rfl 2 rfl ?_
      refine z_bipush (v := nI 16) C0 d_M_heldKeys_5 (by decide) ?_
      refine z_icmpN_ge (tgt := 32) C0 d_M_heldKeys_7 (by decide) (by omega) (by omega) (fun (c7_2 : 16 ≤ k) => ?_) (fun (c7_2 : k < 16) => ?_)
      · exact absurd c7_2 (by omega)
      · skip
        refine z_aload_n C0 d_M_heldKeys_10 rfl 0 rfl ?_
        refine z_iload_n C0 d_M_heldKeys_11 rfl 2 rfl ?_
        refine z_allV (As := [.int (nI (k))]) (rest := []) C0 (c_M_held l D cI cZ y bc bp M hB0 (nI (k)) (hh)) mt_M_held ml_M_139 vt_M_held rfl rfl ⟨Nat.le_of_ble_eq_true rfl, Nat.le_of_ble_eq_true rfl⟩ ⟨rfl, rfl⟩ ⟨Nat.zero_le _, Nat.zero_le _⟩ rfl rfl (Nat.le_of_ble_eq_true rfl) d_M_heldKeys_12 ?_
        refine z_st (stn := [.int (bI (sm_held bc bp M (nI (k))))]) rfl ?_
        refine z_ifB_eq (tgt := 24) C0 d_M_heldKeys_15 (by decide) (fun (c15_3 : sm_held bc bp M (nI (k)) = false) => ?_) (fun (c15_3 : sm_held bc bp M (nI (k)) = true) => ?_)
        · skip
          refine z_iload_n C0 d_M_heldKeys_24 rfl 1 rfl ?_
          refine z_istore_n (lvn := [(0, .ref (y 0)), (1, .int (nI (a))), (2, .int (nI (k)))]) C0 d_M_heldKeys_25 rfl (by decide) [1, 0, 2] rfl ?_
          refine z_iincN (q := 2) (lvn := [(0, .ref (y 0)), (1, .int (nI (a))), (2, .int (nI (k + 1)))]) C0 d_M_heldKeys_26 rfl (by decide) [1, 2, 0] rfl ?_
          refine z_gotoK (tgt := 4) C0 d_M_heldKeys_29 (by decide) ?_
          exact ih (k + 1) (a) (by omega) (by rw [hR]; simp [sm_hks, c7_2, c15_3])
        · skip
          refine z_iload_n C0 d_M_heldKeys_18 rfl 1 rfl ?_
          refine z_iconst (v := nI 1) C0 d_M_heldKeys_19 (by decide) ?_
          refine z_iaddN C0 d_M_heldKeys_20 ?_
          refine z_gotoK (tgt := 25) C0 d_M_heldKeys_21 (by decide) ?_
          refine z_istore_n (lvn := [(0, .ref (y 0)), (1, .int (nI (a + 1))), (2, .int (nI (k)))]) C0 d_M_heldKeys_25 rfl (by decide) [1, 0, 2] rfl ?_
          refine z_iincN (q := 2) (lvn := [(0, .ref (y 0)), (1, .int (nI (a + 1))), (2, .int (nI (k + 1)))]) C0 d_M_heldKeys_26 rfl (by decide) [1, 2, 0] rfl ?_
          refine z_gotoK (tgt := 4) C0 d_M_heldKeys_29 (by decide) ?_
          exact ih (k + 1) (a + 1) (by omega) (by rw [hR]; simp [sm_hks, c7_2, c15_3])
  exact lp4 (16) (0) (0) (by omega) (rfl)

set_option maxHeartbeats 4000000 in
set_option maxRecDepth 100000 in
theorem c_M_isNeeded (l : Launch) (D : va_G) (cI cZ : ClassId) (y : Nat → Nat) (bc bp : Nat) (M : zm_S) (hB : zb_ok bc bp) (pg : Nat) (hh : zh_ok bc (mm_h M)) (hp : pg < bc * bp) : zc_Con l y_M_isNeeded b_M_isNeeded 4 (some .boolean) { frames := 2, cells := 0, slots := 0, locals := 47 } D cI cZ [.ref (y 0), .int (nI (pg))] (zm_W cI cZ y bc bp M) (zo (some (.int (bI (sm_need bc bp M pg)))) (zm_W cI cZ y bc bp M)) := by
  refine zc_start (by decide) (Nat.le_of_ble_eq_true rfl) ?_
  intro p e s m args below meth c A Q hA hQ C0 hr hin
  have C0 : zc_Cx p s m args meth c b_M_isNeeded 4 R_M D cI cZ A := C0
  have hB0 := hB
  obtain ⟨hB1, hB2, hB3, hB4⟩ := hB
  have hN : bc * bp ≤ 20 := Nat.mul_le_mul hB2 hB4
  refine z_lvs (lvn := [(0, .ref (y 0)), (1, .int (nI (pg)))]) rfl ?_
  refine z_aload_n C0 d_M_isNeeded_0 rfl 0 rfl ?_
  refine z_get C0 gf_M_16 0 rfl rfl d_M_isNeeded_1 ?_
  refine z_iload_n C0 d_M_isNeeded_4 rfl 1 rfl ?_
  refine z_zald C0 3 rfl (by omega) (by omega) d_M_isNeeded_5 ?_
  refine z_ifB_eq (tgt := 23) C0 d_M_isNeeded_6 (by decide) (fun (c6_1 : (mm_w M) (pg) = false) => ?_) (fun (c6_1 : (mm_w M) (pg) = true) => ?_)
  · skip
    refine z_iconst (v := nI 0) C0 d_M_isNeeded_23 (by decide) ?_
    refine z_topi (x := nI 0) (xn := bI false) (by decide) ?_
    exact z_zret C0 hA hQ hr d_M_isNeeded_24 (⟨by unfold sm_need; rw [if_neg (fun z => absurd (z.1.symm.trans c6_1) (by decide))], rfl⟩)
  · skip
    refine z_aload_n C0 d_M_isNeeded_9 rfl 0 rfl ?_
    refine z_aload_n C0 d_M_isNeeded_10 rfl 0 rfl ?_
    refine z_get C0 gf_M_23 0 rfl rfl d_M_isNeeded_11 ?_
    refine z_iload_n C0 d_M_isNeeded_14 rfl 1 rfl ?_
    refine z_iald C0 5 rfl (by omega) (by omega) d_M_isNeeded_15 ?_
    refine z_allV (As := [.int ((mm_k M) (pg))]) (rest := []) C0 (c_M_latest l D cI cZ y bc bp M hB0 ((mm_k M) (pg)) (hh)) mt_M_latest ml_M_94 vt_M_latest rfl rfl ⟨Nat.le_of_ble_eq_true rfl, Nat.le_of_ble_eq_true rfl⟩ ⟨rfl, rfl⟩ ⟨Nat.zero_le _, Nat.zero_le _⟩ rfl rfl (Nat.le_of_ble_eq_true rfl) d_M_isNeeded_16 ?_
    refine z_st (stn := [.int (oN (sm_lat bc bp M ((mm_k M) (pg))))]) rfl ?_
    refine z_iload_n C0 d_M_isNeeded_19 rfl 1 rfl ?_
    rcases e20_2 : sm_lat bc bp M ((mm_k M) (pg)) with _ | g20_3
    · refine z_st (stn := [.int (nI (pg)), .int (-1)]) (by first | rfl | (rw [e20_2]; rfl)) ?_
      refine z_icmp_eq (tgt := 25) C0 d_M_isNeeded_20 (by decide) (fun c20_4 => ?_) (fun c20_4 => ?_)
      · exact absurd c20_4.symm (nI_m1 (by omega))
      · skip
        refine z_iconst (v := nI 0) C0 d_M_isNeeded_23 (by decide) ?_
        refine z_topi (x := nI 0) (xn := bI false) (by decide) ?_
        exact z_zret C0 hA hQ hr d_M_isNeeded_24 (⟨by unfold sm_need; rw [if_neg (fun z => by have z2 := z.2; rw [e20_2] at z2; cases z2)], rfl⟩)
    · refine z_st (stn := [.int (nI (pg)), .int (nI (g20_3))]) (by first | rfl | (rw [e20_2]; rfl)) ?_
      have hq := sm_latLt e20_2
      refine z_icmpN_eq (tgt := 25) C0 d_M_isNeeded_20 (by decide) (by omega) (by omega) (fun (c20_5 : g20_3 = pg) => ?_) (fun (c20_5 : g20_3 ≠ pg) => ?_)
      · skip
        refine z_iconst (v := nI 0) C0 d_M_isNeeded_25 (by decide) ?_
        refine z_topi (x := nI 0) (xn := bI false) (by decide) ?_
        refine z_istore_n (lvn := [(0, .ref (y 0)), (1, .int (nI (pg))), (2, .int (bI (false)))]) C0 d_M_isNeeded_26 rfl (by decide) [1, 2, 0] rfl ?_
        refine z_iconst (v := nI 0) C0 d_M_isNeeded_27 (by decide) ?_
        refine z_istore_n (lvn := [(0, .ref (y 0)), (1, .int (nI (pg))), (2, .int (bI (false))), (3, .int (nI (0)))]) C0 d_M_isNeeded_28 rfl (by decide) [1, 2, 3, 0] rfl ?_
        have lp29 : ∀ (n : Nat) (i : Nat) (o : Bool), (i + n = bc * bp) → (sm_oths (mm_w M) (mm_k M) pg (bc * bp) 0 false = sm_oths (mm_w M) (mm_k M) pg n i o) → zc_Pt p l e { frames := 2, cells := 0, slots := 0, locals := 47 } s m args below meth c 4 D A 0 0 Q 29 [(0, .ref (y 0)), (1, .int (nI (pg))), (2, .int (bI (o))), (3, .int (nI (i)))] [] (zm_W cI cZ y bc bp M) := by
          intro n
          induction n with
          | zero =>
            intro i o hi hR
            refine z_iload_n C0 d_M_isNeeded_29 rfl 3 rfl ?_
            refine z_aload_n C0 d_M_isNeeded_30 rfl 0 rfl ?_
            refine z_get C0 gf_M_51 0 rfl rfl d_M_isNeeded_31 ?_
            refine z_icmpN_ge (tgt := 82) C0 d_M_isNeeded_34 (by decide) (by omega) (by omega) (fun (c34_6 : bc * bp ≤ i) => ?_) (fun (c34_6 : i < bc * bp) => ?_)
            · skip
              refine z_aload_n C0 d_M_isNeeded_82 rfl 0 rfl ?_
              refine z_get C0 gf_M_26 0 rfl rfl d_M_isNeeded_83 ?_
              refine z_iload_n C0 d_M_isNeeded_86 rfl 1 rfl ?_
              refine z_iald C0 6 rfl (by omega) (by omega) d_M_isNeeded_87 ?_
              refine z_iconst (v := nI 1) C0 d_M_isNeeded_88 (by decide) ?_
              refine z_topi (x := nI 1) (xn := 1) (by decide) ?_
              refine z_icmp_eq (tgt := 96) C0 d_M_isNeeded_89 (by decide) (fun (c89_7 : ((mm_d M) (pg)) = 1) => ?_) (fun (c89_7 : ¬ ((mm_d M) (pg)) = 1) => ?_)
              · skip
                refine z_iconst (v := nI 1) C0 d_M_isNeeded_96 (by decide) ?_
                refine z_gotoK (tgt := 101) C0 d_M_isNeeded_97 (by decide) ?_
                refine z_topi (x := nI 1) (xn := bI true) (by decide) ?_
                exact z_zret C0 hA hQ hr d_M_isNeeded_101 (by have e9 : sm_need bc bp M pg = (decide (mm_d M pg = 1) || sm_oths (mm_w M) (mm_k M) pg (bc * bp) 0 false) := if_pos ⟨c6_1, by rw [e20_2, c20_5]⟩; rw [e9, hR]; exact ⟨by simp [sm_oths, c89_7], rfl⟩)
              · skip
                refine z_iload_n C0 d_M_isNeeded_92 rfl 2 rfl ?_
                refine z_ifB_eq (tgt := 100) C0 d_M_isNeeded_93 (by decide) (fun (c93_8 : o = false) => ?_) (fun (c93_8 : o = true) => ?_)
                · skip
                  refine z_iconst (v := nI 0) C0 d_M_isNeeded_100 (by decide) ?_
                  refine z_topi (x := nI 0) (xn := bI false) (by decide) ?_
                  exact z_zret C0 hA hQ hr d_M_isNeeded_101 (by have e9 : sm_need bc bp M pg = (decide (mm_d M pg = 1) || sm_oths (mm_w M) (mm_k M) pg (bc * bp) 0 false) := if_pos ⟨c6_1, by rw [e20_2, c20_5]⟩; rw [e9, hR]; exact ⟨by simp [sm_oths, c89_7, c93_8], rfl⟩)
                · skip
                  refine z_iconst (v := nI 1) C0 d_M_isNeeded_96 (by decide) ?_
                  refine z_gotoK (tgt := 101) C0 d_M_isNeeded_97 (by decide) ?_
                  refine z_topi (x := nI 1) (xn := bI true) (by decide) ?_
                  exact z_zret C0 hA hQ hr d_M_isNeeded_101 (by have e9 : sm_need bc bp M pg = (decide (mm_d M pg = 1) || sm_oths (mm_w M) (mm_k M) pg (bc * bp) 0 false) := if_pos ⟨c6_1, by rw [e20_2, c20_5]⟩; rw [e9, hR]; exact ⟨by simp [sm_oths, c89_7, c93_8], rfl⟩)
            · exact absurd c34_6 (by omega)
          | succ n ih =>
            intro i o hi hR
            refine z_iload_n C0 d_M_isNeeded_29 rfl 3 rfl ?_
            refine z_aload_n C0 d_M_isNeeded_30 rfl 0 rfl ?_
            refine z_get C0 gf_M_51 0 rfl rfl d_M_isNeeded_31 ?_
            refine z_icmpN_ge (tgt := 82) C0 d_M_isNeeded_34 (by decide) (by omega) (by omega) (fun (c34_9 : bc * bp ≤ i) => ?_) (fun (c34_9 : i < bc * bp) => ?_)
            · exact absurd c34_9 (by omega)
            · skip
              refine z_iload_n C0 d_M_isNeeded_37 rfl 2 rfl ?_
              refine z_ifB_ne (tgt := 70) C0 d_M_isNeeded_38 (by decide) (fun (c38_10 : o = true) => ?_) (fun (c38_10 : o = false) => ?_)
              · skip
                refine z_iconst (v := nI 1) C0 d_M_isNeeded_70 (by decide) ?_
                refine z_gotoK (tgt := 75) C0 d_M_isNeeded_71 (by decide) ?_
                refine z_topi (x := nI 1) (xn := bI true) (by decide) ?_
                refine z_istore_n (lvn := [(0, .ref (y 0)), (1, .int (nI (pg))), (2, .int (bI (true))), (3, .int (nI (i)))]) C0 d_M_isNeeded_75 rfl (by decide) [1, 2, 0, 3] rfl ?_
                refine z_iincN (q := 3) (lvn := [(0, .ref (y 0)), (1, .int (nI (pg))), (2, .int (bI (true))), (3, .int (nI (i + 1)))]) C0 d_M_isNeeded_76 rfl (by decide) [1, 2, 3, 0] rfl ?_
                refine z_gotoK (tgt := 29) C0 d_M_isNeeded_79 (by decide) ?_
                exact ih (i + 1) (true) (by omega) (by rw [hR]; simp [sm_oths, c6_1, e20_2, c20_5, c34_9, c38_10])
              · skip
                refine z_iload_n C0 d_M_isNeeded_41 rfl 3 rfl ?_
                refine z_iload_n C0 d_M_isNeeded_42 rfl 1 rfl ?_
                refine z_icmpN_eq (tgt := 74) C0 d_M_isNeeded_43 (by decide) (by omega) (by omega) (fun (c43_11 : i = pg) => ?_) (fun (c43_11 : i ≠ pg) => ?_)
                · skip
                  refine z_iconst (v := nI 0) C0 d_M_isNeeded_74 (by decide) ?_
                  refine z_topi (x := nI 0) (xn := bI false) (by decide) ?_
                  refine z_istore_n (lvn := [(0, .ref (y 0)), (1, .int (nI (pg))), (2, .int (bI (false))), (3, .int (nI (i)))]) C0 d_M_isNeeded_75 rfl (by decide) [1, 2, 0, 3] rfl ?_
                  refine z_iincN (q := 3) (lvn := [(0, .ref (y 0)), (1, .int (nI (pg))), (2, .int (bI (false))), (3, .int (nI (i + 1)))]) C0 d_M_isNeeded_76 rfl (by decide) [1, 2, 3, 0] rfl ?_
                  refine z_gotoK (tgt := 29) C0 d_M_isNeeded_79 (by decide) ?_
                  exact ih (i + 1) (false) (by omega) (by rw [hR]; simp [sm_oths, c6_1, e20_2, c20_5, c34_9, c38_10, c43_11])
                · skip
                  refine z_aload_n C0 d_M_isNeeded_46 rfl 0 rfl ?_
                  refine z_get C0 gf_M_16 0 rfl rfl d_M_isNeeded_47 ?_
                  refine z_iload_n C0 d_M_isNeeded_50 rfl 3 rfl ?_
                  refine z_zald C0 3 rfl (by omega) (by omega) d_M_isNeeded_51 ?_
                  refine z_ifB_eq (tgt := 74) C0 d_M_isNeeded_52 (by decide) (fun (c52_12 : (mm_w M) (i) = false) => ?_) (fun (c52_12 : (mm_w M) (i) = true) => ?_)
                  · skip
                    refine z_iconst (v := nI 0) C0 d_M_isNeeded_74 (by decide) ?_
                    refine z_topi (x := nI 0) (xn := bI false) (by decide) ?_
                    refine z_istore_n (lvn := [(0, .ref (y 0)), (1, .int (nI (pg))), (2, .int (bI (false))), (3, .int (nI (i)))]) C0 d_M_isNeeded_75 rfl (by decide) [1, 2, 0, 3] rfl ?_
                    refine z_iincN (q := 3) (lvn := [(0, .ref (y 0)), (1, .int (nI (pg))), (2, .int (bI (false))), (3, .int (nI (i + 1)))]) C0 d_M_isNeeded_76 rfl (by decide) [1, 2, 3, 0] rfl ?_
                    refine z_gotoK (tgt := 29) C0 d_M_isNeeded_79 (by decide) ?_
                    exact ih (i + 1) (false) (by omega) (by rw [hR]; simp [sm_oths, c6_1, e20_2, c20_5, c34_9, c38_10, c43_11, c52_12])
                  · skip
                    refine z_aload_n C0 d_M_isNeeded_55 rfl 0 rfl ?_
                    refine z_get C0 gf_M_23 0 rfl rfl d_M_isNeeded_56 ?_
                    refine z_iload_n C0 d_M_isNeeded_59 rfl 3 rfl ?_
                    refine z_iald C0 5 rfl (by omega) (by omega) d_M_isNeeded_60 ?_
                    refine z_aload_n C0 d_M_isNeeded_61 rfl 0 rfl ?_
                    refine z_get C0 gf_M_23 0 rfl rfl d_M_isNeeded_62 ?_
                    refine z_iload_n C0 d_M_isNeeded_65 rfl 1 rfl ?_
                    refine z_iald C0 5 rfl (by omega) (by omega) d_M_isNeeded_66 ?_
                    refine z_icmp_ne (tgt := 74) C0 d_M_isNeeded_67 (by decide) (fun (c67_13 : ¬ ((mm_k M) (i)) = ((mm_k M) (pg))) => ?_) (fun (c67_13 : ((mm_k M) (i)) = ((mm_k M) (pg))) => ?_)
                    · skip
                      refine z_iconst (v := nI 0) C0 d_M_isNeeded_74 (by decide) ?_
                      refine z_topi (x := nI 0) (xn := bI false) (by decide) ?_
                      refine z_istore_n (lvn := [(0, .ref (y 0)), (1, .int (nI (pg))), (2, .int (bI (false))), (3, .int (nI (i)))]) C0 d_M_isNeeded_75 rfl (by decide) [1, 2, 0, 3] rfl ?_
                      refine z_iincN (q := 3) (lvn := [(0, .ref (y 0)), (1, .int (nI (pg))), (2, .int (bI (false))), (3, .int (nI (i + 1)))]) C0 d_M_isNeeded_76 rfl (by decide) [1, 2, 3, 0] rfl ?_
                      refine z_gotoK (tgt := 29) C0 d_M_isNeeded_79 (by decide) ?_
                      exact ih (i + 1) (false) (by omega) (by rw [hR]; simp [sm_oths, c6_1, e20_2, c20_5, c34_9, c38_10, c43_11, c52_12, c67_13])
                    · skip
                      refine z_iconst (v := nI 1) C0 d_M_isNeeded_70 (by decide) ?_
                      refine z_gotoK (tgt := 75) C0 d_M_isNeeded_71 (by decide) ?_
                      refine z_topi (x := nI 1) (xn := bI true) (by decide) ?_
                      refine z_istore_n (lvn := [(0, .ref (y 0)), (1, .int (nI (pg))), (2, .int (bI (true))), (3, .int (nI (i)))]) C0 d_M_isNeeded_75 rfl (by decide) [1, 2, 0, 3] rfl ?_
                      refine z_iincN (q := 3) (lvn := [(0, .ref (y 0)), (1, .int (nI (pg))), (2, .int (bI (true))), (3, .int (nI (i + 1)))]) C0 d_M_isNeeded_76 rfl (by decide) [1, 2, 3, 0] rfl ?_
                      refine z_gotoK (tgt := 29) C0 d_M_isNeeded_79 (by decide) ?_
                      exact ih (i + 1) (true) (by omega) (by rw [hR]; simp [sm_oths, c6_1, e20_2, c20_5, c34_9, c38_10, c43_11, c52_12, c67_13])
        exact lp29 (bc * bp) (0) (false) (by omega) (rfl)
      · skip
        refine z_iconst (v := nI 0) C0 d_M_isNeeded_23 (by decide) ?_
        refine z_topi (x := nI 0) (xn := bI false) (by decide) ?_
        exact z_zret C0 hA hQ hr d_M_isNeeded_24 (⟨by unfold sm_need; rw [if_neg (fun z => by have z2 := z.2; rw [e20_2] at z2; exact c20_5 (Option.some.inj z2))], rfl⟩)

set_option maxHeartbeats 4000000 in
set_option maxRecDepth 100000 in
theorem c_M_neededOf (l : Launch) (D : va_G) (cI cZ : ClassId) (y : Nat → Nat) (bc bp : Nat) (M : zm_S) (hB : zb_ok bc bp) (b : Nat) (hh : zh_ok bc (mm_h M)) (hb : b < bc) : zc_Con l y_M_neededOf b_M_neededOf 4 (some .int) { frames := 3, cells := 0, slots := 0, locals := 70 } D cI cZ [.ref (y 0), .int (nI (b))] (zm_W cI cZ y bc bp M) (zo (some (.int (nI (sm_nd bc bp M b)))) (zm_W cI cZ y bc bp M)) := by
  refine zc_start (by decide) (Nat.le_of_ble_eq_true rfl) ?_
  intro p e s m args below meth c A Q hA hQ C0 hr hin
  have C0 : zc_Cx p s m args meth c b_M_neededOf 4 R_M D cI cZ A := C0
  have hB0 := hB
  obtain ⟨hB1, hB2, hB3, hB4⟩ := hB
  have hN : bc * bp ≤ 20 := Nat.mul_le_mul hB2 hB4
  have hblk := zq_blk (bp := bp) hb
  refine z_lvs (lvn := [(0, .ref (y 0)), (1, .int (nI (b)))]) rfl ?_
  refine z_iconst (v := nI 0) C0 d_M_neededOf_0 (by decide) ?_
  refine z_istore_n (lvn := [(0, .ref (y 0)), (1, .int (nI (b))), (2, .int (nI (0)))]) C0 d_M_neededOf_1 rfl (by decide) [1, 2, 0] rfl ?_
  refine z_iload_n C0 d_M_neededOf_2 rfl 1 rfl ?_
  refine z_aload_n C0 d_M_neededOf_3 rfl 0 rfl ?_
  refine z_get C0 gf_M_48 0 rfl rfl d_M_neededOf_4 ?_
  refine z_imulN C0 d_M_neededOf_7 ?_
  refine z_istore_n (lvn := [(0, .ref (y 0)), (1, .int (nI (b))), (2, .int (nI (0))), (3, .int (nI (b * bp)))]) C0 d_M_neededOf_8 rfl (by decide) [1, 2, 3, 0] rfl ?_
  have lp9 : ∀ (n : Nat) (i : Nat) (a : Nat), (i + n = b * bp + bp) → (sm_nd bc bp M b = sm_nds bc bp M n i a) → zc_Pt p l e { frames := 3, cells := 0, slots := 0, locals := 70 } s m args below meth c 4 D A 0 0 Q 9 [(0, .ref (y 0)), (1, .int (nI (b))), (2, .int (nI (a))), (3, .int (nI (i)))] [] (zm_W cI cZ y bc bp M) := by
    intro n
    induction n with
    | zero =>
      intro i a hi hR
      refine z_iload_n C0 d_M_neededOf_9 rfl 3 rfl ?_
      refine z_iload_n C0 d_M_neededOf_10 rfl 1 rfl ?_
      refine z_aload_n C0 d_M_neededOf_11 rfl 0 rfl ?_
      refine z_get C0 gf_M_48 0 rfl rfl d_M_neededOf_12 ?_
      refine z_imulN C0 d_M_neededOf_15 ?_
      refine z_aload_n C0 d_M_neededOf_16 rfl 0 rfl ?_
      refine z_get C0 gf_M_48 0 rfl rfl d_M_neededOf_17 ?_
      refine z_iaddN C0 d_M_neededOf_20 ?_
      refine z_icmpN_ge (tgt := 46) C0 d_M_neededOf_21 (by decide) (by omega) (by omega) (fun (c21_1 : b * bp + bp ≤ i) => ?_) (fun (c21_1 : i < b * bp + bp) => ?_)
      · skip
        refine z_iload_n C0 d_M_neededOf_46 rfl 2 rfl ?_
        exact z_iret C0 hA hQ hr d_M_neededOf_47 (⟨by rw [hR]; rfl, rfl⟩)
      · exact absurd c21_1 (by omega)
    | succ n ih =>
      intro i a hi hR
      refine z_iload_n C0 d_M_neededOf_9 rfl 3 rfl ?_
      refine z_iload_n C0 d_M_neededOf_10 rfl 1 rfl ?_
      refine z_aload_n C0 d_M_neededOf_11 rfl 0 rfl ?_
      refine z_get C0 gf_M_48 0 rfl rfl d_M_neededOf_12 ?_
      refine z_imulN C0 d_M_neededOf_15 ?_
      refine z_aload_n C0 d_M_neededOf_16 rfl 0 rfl ?_
      refine z_get C0 gf_M_48 0 rfl rfl d_M_neededOf_17 ?_
      refine z_iaddN C0 d_M_neededOf_20 ?_
      refine z_icmpN_ge (tgt := 46) C0 d_M_neededOf_21 (by decide) (by omega) (by omega) (fun (c21_2 : b * bp + bp ≤ i) => ?_) (fun (c21_2 : i < b * bp + bp) => ?_)
      · exact absurd c21_2 (by omega)
      · skip
        refine z_aload_n C0 d_M_neededOf_24 rfl 0 rfl ?_
        refine z_iload_n C0 d_M_neededOf_25 rfl 3 rfl ?_
        refine z_allV (As := [.int (nI (i))]) (rest := []) C0 (c_M_isNeeded l D cI cZ y bc bp M hB0 (i) (hh) (by omega)) mt_M_isNeeded ml_M_98 vt_M_isNeeded rfl rfl ⟨Nat.le_of_ble_eq_true rfl, Nat.le_of_ble_eq_true rfl⟩ ⟨rfl, rfl⟩ ⟨Nat.zero_le _, Nat.zero_le _⟩ rfl rfl (Nat.le_of_ble_eq_true rfl) d_M_neededOf_26 ?_
        refine z_st (stn := [.int (bI (sm_need bc bp M i))]) rfl ?_
        refine z_ifB_eq (tgt := 38) C0 d_M_neededOf_29 (by decide) (fun (c29_3 : sm_need bc bp M i = false) => ?_) (fun (c29_3 : sm_need bc bp M i = true) => ?_)
        · skip
          refine z_iload_n C0 d_M_neededOf_38 rfl 2 rfl ?_
          refine z_istore_n (lvn := [(0, .ref (y 0)), (1, .int (nI (b))), (2, .int (nI (a))), (3, .int (nI (i)))]) C0 d_M_neededOf_39 rfl (by decide) [1, 2, 0, 3] rfl ?_
          refine z_iincN (q := 3) (lvn := [(0, .ref (y 0)), (1, .int (nI (b))), (2, .int (nI (a))), (3, .int (nI (i + 1)))]) C0 d_M_neededOf_40 rfl (by decide) [1, 2, 3, 0] rfl ?_
          refine z_gotoK (tgt := 9) C0 d_M_neededOf_43 (by decide) ?_
          exact ih (i + 1) (a) (by omega) (by rw [hR]; simp [sm_nds, c21_2, c29_3])
        · skip
          refine z_iload_n C0 d_M_neededOf_32 rfl 2 rfl ?_
          refine z_iconst (v := nI 1) C0 d_M_neededOf_33 (by decide) ?_
          refine z_iaddN C0 d_M_neededOf_34 ?_
          refine z_gotoK (tgt := 39) C0 d_M_neededOf_35 (by decide) ?_
          refine z_istore_n (lvn := [(0, .ref (y 0)), (1, .int (nI (b))), (2, .int (nI (a + 1))), (3, .int (nI (i)))]) C0 d_M_neededOf_39 rfl (by decide) [1, 2, 0, 3] rfl ?_
          refine z_iincN (q := 3) (lvn := [(0, .ref (y 0)), (1, .int (nI (b))), (2, .int (nI (a + 1))), (3, .int (nI (i + 1)))]) C0 d_M_neededOf_40 rfl (by decide) [1, 2, 3, 0] rfl ?_
          refine z_gotoK (tgt := 9) C0 d_M_neededOf_43 (by decide) ?_
          exact ih (i + 1) (a + 1) (by omega) (by rw [hR]; simp [sm_nds, c21_2, c29_3])
  exact lp9 (bp) (b * bp) (0) (by omega) (rfl)

set_option maxHeartbeats 4000000 in
set_option maxRecDepth 100000 in
theorem c_M_placeInHead (l : Launch) (D : va_G) (cI cZ : ClassId) (y : Nat → Nat) (bc bp : Nat) (M : zm_S) (hB : zb_ok bc bp)  (hg : ∃ hd, mm_h M = some hd ∧ hd < bc ∧ ∃ q, hd * bp ≤ q ∧ q < hd * bp + bp ∧ mm_w M q = false) : zc_Con l y_M_placeInHead b_M_placeInHead 2 (some .int) { frames := 0, cells := 0, slots := 0, locals := 0 } D cI cZ [.ref (y 0)] (zm_W cI cZ y bc bp M) (zo (some (.int (nI (sm_plO bp (mm_w M) (mm_h M))))) (zm_W cI cZ y bc bp M)) := by
  refine zc_start (by decide) (Nat.le_of_ble_eq_true rfl) ?_
  intro p e s m args below meth c A Q hA hQ C0 hr hin
  have C0 : zc_Cx p s m args meth c b_M_placeInHead 2 R_M D cI cZ A := C0
  have hB0 := hB
  obtain ⟨hB1, hB2, hB3, hB4⟩ := hB
  have hN : bc * bp ≤ 20 := Nat.mul_le_mul hB2 hB4
  obtain ⟨hd, hhd, hlt, hgap⟩ := hg
  have hblk := zq_blk (bp := bp) hlt
  refine z_lvs (lvn := [(0, .ref (y 0))]) rfl ?_
  refine z_aload_n C0 d_M_placeInHead_0 rfl 0 rfl ?_
  refine z_get C0 gf_M_32 0 rfl rfl d_M_placeInHead_1 ?_
  refine z_top (vn := .int (nI (hd))) (by first | rfl | (rw [hhd]; rfl)) ?_
  refine z_aload_n C0 d_M_placeInHead_4 rfl 0 rfl ?_
  refine z_get C0 gf_M_48 0 rfl rfl d_M_placeInHead_5 ?_
  refine z_imulN C0 d_M_placeInHead_8 ?_
  refine z_istore_n (lvn := [(0, .ref (y 0)), (1, .int (nI (hd * bp)))]) C0 d_M_placeInHead_9 rfl (by decide) [1, 0] rfl ?_
  have lp10 : ∀ (n : Nat) (i : Nat), (i + n = hd * bp + bp) → (∃ q, i ≤ q ∧ q < hd * bp + bp ∧ mm_w M q = false) → (sm_plO bp (mm_w M) (mm_h M) = sm_pls (mm_w M) n i) → zc_Pt p l e { frames := 0, cells := 0, slots := 0, locals := 0 } s m args below meth c 2 D A 0 0 Q 10 [(0, .ref (y 0)), (1, .int (nI (i)))] [] (zm_W cI cZ y bc bp M) := by
    intro n
    induction n with
    | zero =>
      intro i hi hgp hR
      exfalso; obtain ⟨q, h1, h2, _⟩ := hgp; omega
    | succ n ih =>
      intro i hi hgp hR
      refine z_aload_n C0 d_M_placeInHead_10 rfl 0 rfl ?_
      refine z_get C0 gf_M_16 0 rfl rfl d_M_placeInHead_11 ?_
      refine z_iload_n C0 d_M_placeInHead_14 rfl 1 rfl ?_
      refine z_zald C0 3 rfl (by omega) (by omega) d_M_placeInHead_15 ?_
      refine z_ifB_eq (tgt := 25) C0 d_M_placeInHead_16 (by decide) (fun (c16_1 : (mm_w M) (i) = false) => ?_) (fun (c16_1 : (mm_w M) (i) = true) => ?_)
      · skip
        refine z_iload_n C0 d_M_placeInHead_25 rfl 1 rfl ?_
        exact z_iret C0 hA hQ hr d_M_placeInHead_26 (⟨by rw [hR]; simp [sm_pls, c16_1], rfl⟩)
      · skip
        refine z_iincN (q := 1) (lvn := [(0, .ref (y 0)), (1, .int (nI (i + 1)))]) C0 d_M_placeInHead_19 rfl (by decide) [1, 0] rfl ?_
        refine z_gotoK (tgt := 10) C0 d_M_placeInHead_22 (by decide) ?_
        exact ih (i + 1) (by omega) (by obtain ⟨q, h1, h2, h3⟩ := hgp; exact ⟨q, Nat.lt_of_le_of_ne h1 (fun z => absurd (by rw [z]; exact h3 : mm_w M i = false) (by rw [c16_1]; decide)), h2, h3⟩) (by rw [hR]; simp [sm_pls, c16_1])
  exact lp10 (bp) (hd * bp) (by omega) (hgap) (by rw [hhd]; rfl)
