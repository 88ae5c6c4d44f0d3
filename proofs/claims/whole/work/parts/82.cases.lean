set_option maxHeartbeats 4000000 in
set_option maxRecDepth 100000 in
theorem law_0 {p : Program} {e : Env} {s : State} {m : MethodId} {below : List Frame} {meth : Method} {c : Code} (l : Launch) {b L : Nat} {xs : Nat → Int32} {D : va_G} {cI cZ : ClassId} {x y : Nat → Nat} {bc bp : Nat} (C0 : zc_Cx p s m #[Value.ref b] meth c b_law 4 R_W D cI cZ (fun q : Nat => s.heap.size ≤ q)) (hX : va_X b L xs s s.heap) (hbl : b < s.heap.size) (hbA : ¬ (fun q : Nat => s.heap.size ≤ q) b) (hL : L < 2 ^ 31) (hB0 : zb_ok bc bp) {i : Nat} {S : zs_S} {M : zm_S} (hi : i + 3 ≤ L) (hR : zR bc bp S M) (go : ∀ S M, zR bc bp S M → zc_Pt p l e room_1 s m #[Value.ref b] below meth c 4 D (fun q : Nat => s.heap.size ≤ q) 22 1361 (lw_Z below #[Value.ref b] s) 458 [(0, .ref b), (1, .ref (x 0)), (2, .ref (y 0)), (3, .int (nI i))] [] (zs_W cI cZ x bc bp S ++ zm_W cI cZ y bc bp M)) : zc_Pt p l e room_1 s m #[Value.ref b] below meth c 4 D (fun q : Nat => s.heap.size ≤ q) 22 1361 (lw_Z below #[Value.ref b] s) 132 [(0, .ref b), (1, .ref (x 0)), (2, .ref (y 0)), (3, .int (nI i))] [] (zs_W cI cZ x bc bp S ++ zm_W cI cZ y bc bp M) := by
  have hbp : 0 < bp := by have := hB0.2.2.1; omega
  have hN : bc * bp ≤ 20 := Nat.mul_le_mul hB0.2.1 hB0.2.2.2
  refine z_aload_n C0 d_law_132 rfl 1 rfl ?_
  refine z_lawS (As := []) (rest := []) (S' := (ss_init bc bp S)) C0 (c_S_init l D cI cZ x bc bp S hB0 ) mt_S_init ml_W_21 vt_S_init rfl ⟨Nat.le_of_ble_eq_true rfl, Nat.le_of_ble_eq_true rfl⟩ ⟨rfl, rfl⟩ ⟨Nat.le_of_ble_eq_true rfl, Nat.le_of_ble_eq_true rfl⟩ rfl rfl (Nat.le_of_ble_eq_true rfl) d_law_133 ?_
  refine z_st (stn := []) rfl ?_
  refine z_aload_n C0 d_law_136 rfl 2 rfl ?_
  refine z_lawM (As := []) (rest := []) (M' := (sm_begin M)) C0 (c_M_init l D cI cZ y bc bp M hB0 ) mt_M_init ml_W_24 vt_M_init rfl ⟨Nat.le_of_ble_eq_true rfl, Nat.le_of_ble_eq_true rfl⟩ ⟨rfl, rfl⟩ ⟨Nat.le_of_ble_eq_true rfl, Nat.le_of_ble_eq_true rfl⟩ rfl rfl (Nat.le_of_ble_eq_true rfl) d_law_137 ?_
  refine z_st (stn := []) rfl ?_
  refine z_gotoK (tgt := 458) C0 d_law_140 (by decide) ?_
  exact go _ _ (zR_init hN hR.1 hR.2.1.2.2.1)
set_option maxHeartbeats 4000000 in
set_option maxRecDepth 100000 in
theorem law_1 {p : Program} {e : Env} {s : State} {m : MethodId} {below : List Frame} {meth : Method} {c : Code} (l : Launch) {b L : Nat} {xs : Nat → Int32} {D : va_G} {cI cZ : ClassId} {x y : Nat → Nat} {bc bp : Nat} (C0 : zc_Cx p s m #[Value.ref b] meth c b_law 4 R_W D cI cZ (fun q : Nat => s.heap.size ≤ q)) (hX : va_X b L xs s s.heap) (hbl : b < s.heap.size) (hbA : ¬ (fun q : Nat => s.heap.size ≤ q) b) (hL : L < 2 ^ 31) (hB0 : zb_ok bc bp) {i : Nat} {S : zs_S} {M : zm_S} (hi : i + 3 ≤ L) (hR : zR bc bp S M) (go : ∀ S M, zR bc bp S M → zc_Pt p l e room_1 s m #[Value.ref b] below meth c 4 D (fun q : Nat => s.heap.size ≤ q) 22 1361 (lw_Z below #[Value.ref b] s) 458 [(0, .ref b), (1, .ref (x 0)), (2, .ref (y 0)), (3, .int (nI i))] [] (zs_W cI cZ x bc bp S ++ zm_W cI cZ y bc bp M)) : zc_Pt p l e room_1 s m #[Value.ref b] below meth c 4 D (fun q : Nat => s.heap.size ≤ q) 22 1361 (lw_Z below #[Value.ref b] s) 143 [(0, .ref b), (1, .ref (x 0)), (2, .ref (y 0)), (3, .int (nI i))] [] (zs_W cI cZ x bc bp S ++ zm_W cI cZ y bc bp M) := by
  have hbp : 0 < bp := by have := hB0.2.2.1; omega
  have hN : bc * bp ≤ 20 := Nat.mul_le_mul hB0.2.1 hB0.2.2.2
  refine z_aload_n C0 d_law_143 rfl 1 rfl ?_
  refine z_lawS (As := []) (rest := []) (S' := (ss_mount bc bp S).2) C0 (c_S_mount l D cI cZ x bc bp S hB0 hR.1.2) mt_S_mount ml_W_25 vt_S_mount rfl ⟨Nat.le_of_ble_eq_true rfl, Nat.le_of_ble_eq_true rfl⟩ ⟨rfl, rfl⟩ ⟨Nat.le_of_ble_eq_true rfl, Nat.le_of_ble_eq_true rfl⟩ rfl rfl (Nat.le_of_ble_eq_true rfl) d_law_144 ?_
  refine z_st (stn := [.int (ss_mount bc bp S).1]) rfl ?_
  refine z_aload_n C0 d_law_147 rfl 2 rfl ?_
  refine z_lawM (As := []) (rest := [.int (ss_mount bc bp S).1]) (M' := (sm_mount bc bp M).2) C0 (c_M_mount l D cI cZ y bc bp M hB0 (sm_moI hbp M)) mt_M_mount ml_W_29 vt_M_mount rfl ⟨Nat.le_of_ble_eq_true rfl, Nat.le_of_ble_eq_true rfl⟩ ⟨rfl, rfl⟩ ⟨Nat.le_of_ble_eq_true rfl, Nat.le_of_ble_eq_true rfl⟩ rfl rfl (Nat.le_of_ble_eq_true rfl) d_law_148 ?_
  refine z_st (stn := [.int (sm_mount bc bp M).1, .int (ss_mount bc bp S).1]) rfl ?_
  refine z_icmp_eq (tgt := 458) C0 d_law_151 (by decide) (fun _ => ?_) (fun h => absurd ((zR_mount hbp hR).1) h)
  exact go _ _ ((zR_mount hbp hR).2)
set_option maxHeartbeats 4000000 in
set_option maxRecDepth 100000 in
theorem law_2 {p : Program} {e : Env} {s : State} {m : MethodId} {below : List Frame} {meth : Method} {c : Code} (l : Launch) {b L : Nat} {xs : Nat → Int32} {D : va_G} {cI cZ : ClassId} {x y : Nat → Nat} {bc bp : Nat} (C0 : zc_Cx p s m #[Value.ref b] meth c b_law 4 R_W D cI cZ (fun q : Nat => s.heap.size ≤ q)) (hX : va_X b L xs s s.heap) (hbl : b < s.heap.size) (hbA : ¬ (fun q : Nat => s.heap.size ≤ q) b) (hL : L < 2 ^ 31) (hB0 : zb_ok bc bp) {i : Nat} {S : zs_S} {M : zm_S} (hi : i + 3 ≤ L) (hR : zR bc bp S M) (go : ∀ S M, zR bc bp S M → zc_Pt p l e room_1 s m #[Value.ref b] below meth c 4 D (fun q : Nat => s.heap.size ≤ q) 22 1361 (lw_Z below #[Value.ref b] s) 458 [(0, .ref b), (1, .ref (x 0)), (2, .ref (y 0)), (3, .int (nI i))] [] (zs_W cI cZ x bc bp S ++ zm_W cI cZ y bc bp M)) : zc_Pt p l e room_1 s m #[Value.ref b] below meth c 4 D (fun q : Nat => s.heap.size ≤ q) 22 1361 (lw_Z below #[Value.ref b] s) 156 [(0, .ref b), (1, .ref (x 0)), (2, .ref (y 0)), (3, .int (nI i))] [] (zs_W cI cZ x bc bp S ++ zm_W cI cZ y bc bp M) := by
  have hbp : 0 < bp := by have := hB0.2.2.1; omega
  have hN : bc * bp ≤ 20 := Nat.mul_le_mul hB0.2.1 hB0.2.2.2
  refine z_aload_n C0 d_law_156 rfl 1 rfl ?_
  refine z_aload_n C0 d_law_157 rfl 0 rfl ?_
  refine z_iload_n C0 d_law_158 rfl 3 rfl ?_
  refine z_iconst (v := nI 1) C0 d_law_159 (by decide) ?_
  refine z_iaddN C0 d_law_160 ?_
  refine z_sld C0 hX hbl hbA (by omega) hL d_law_161 ?_
  refine z_aload_n C0 d_law_162 rfl 0 rfl ?_
  refine z_iload_n C0 d_law_163 rfl 3 rfl ?_
  refine z_iconst (v := nI 2) C0 d_law_164 (by decide) ?_
  refine z_iaddN C0 d_law_165 ?_
  refine z_sld C0 hX hbl hbA (by omega) hL d_law_166 ?_
  refine z_lawS (As := [.int (xs (i + 1)), .int (xs (i + 2))]) (rest := []) (S' := (ss_put bc bp S (xs (i + 1)) (xs (i + 2))).2) C0 (c_S_put l D cI cZ x bc bp S hB0 (xs (i + 1)) (xs (i + 2)) hR.2.2.1 hR.1.2) mt_S_put ml_W_30 vt_S_put rfl ⟨Nat.le_of_ble_eq_true rfl, Nat.le_of_ble_eq_true rfl⟩ ⟨rfl, rfl⟩ ⟨Nat.le_of_ble_eq_true rfl, Nat.le_of_ble_eq_true rfl⟩ rfl rfl (Nat.le_of_ble_eq_true rfl) d_law_167 ?_
  refine z_st (stn := [.int (ss_put bc bp S (xs (i + 1)) (xs (i + 2))).1]) rfl ?_
  refine z_aload_n C0 d_law_170 rfl 2 rfl ?_
  refine z_aload_n C0 d_law_171 rfl 0 rfl ?_
  refine z_iload_n C0 d_law_172 rfl 3 rfl ?_
  refine z_iconst (v := nI 1) C0 d_law_173 (by decide) ?_
  refine z_iaddN C0 d_law_174 ?_
  refine z_sld C0 hX hbl hbA (by omega) hL d_law_175 ?_
  refine z_aload_n C0 d_law_176 rfl 0 rfl ?_
  refine z_iload_n C0 d_law_177 rfl 3 rfl ?_
  refine z_iconst (v := nI 2) C0 d_law_178 (by decide) ?_
  refine z_iaddN C0 d_law_179 ?_
  refine z_sld C0 hX hbl hbA (by omega) hL d_law_180 ?_
  refine z_lawM (As := [.int (xs (i + 1)), .int (xs (i + 2))]) (rest := [.int (ss_put bc bp S (xs (i + 1)) (xs (i + 2))).1]) (M' := (sm_put bc bp M (xs (i + 1)) (xs (i + 2))).2) C0 (c_M_put l D cI cZ y bc bp M hB0 (xs (i + 1)) (xs (i + 2)) hR.2.2.2.1 (sm_appI hbp hR.2.2.2.1)) mt_M_put ml_W_34 vt_M_put rfl ⟨Nat.le_of_ble_eq_true rfl, Nat.le_of_ble_eq_true rfl⟩ ⟨rfl, rfl⟩ ⟨Nat.le_of_ble_eq_true rfl, Nat.le_of_ble_eq_true rfl⟩ rfl rfl (Nat.le_of_ble_eq_true rfl) d_law_181 ?_
  refine z_st (stn := [.int (sm_put bc bp M (xs (i + 1)) (xs (i + 2))).1, .int (ss_put bc bp S (xs (i + 1)) (xs (i + 2))).1]) rfl ?_
  refine z_icmp_eq (tgt := 458) C0 d_law_184 (by decide) (fun _ => ?_) (fun h => absurd ((zR_put hbp (xs (i + 1)) (xs (i + 2)) hR).1) h)
  exact go _ _ ((zR_put hbp (xs (i + 1)) (xs (i + 2)) hR).2)
set_option maxHeartbeats 4000000 in
set_option maxRecDepth 100000 in
theorem law_3 {p : Program} {e : Env} {s : State} {m : MethodId} {below : List Frame} {meth : Method} {c : Code} (l : Launch) {b L : Nat} {xs : Nat → Int32} {D : va_G} {cI cZ : ClassId} {x y : Nat → Nat} {bc bp : Nat} (C0 : zc_Cx p s m #[Value.ref b] meth c b_law 4 R_W D cI cZ (fun q : Nat => s.heap.size ≤ q)) (hX : va_X b L xs s s.heap) (hbl : b < s.heap.size) (hbA : ¬ (fun q : Nat => s.heap.size ≤ q) b) (hL : L < 2 ^ 31) (hB0 : zb_ok bc bp) {i : Nat} {S : zs_S} {M : zm_S} (hi : i + 3 ≤ L) (hR : zR bc bp S M) (go : ∀ S M, zR bc bp S M → zc_Pt p l e room_1 s m #[Value.ref b] below meth c 4 D (fun q : Nat => s.heap.size ≤ q) 22 1361 (lw_Z below #[Value.ref b] s) 458 [(0, .ref b), (1, .ref (x 0)), (2, .ref (y 0)), (3, .int (nI i))] [] (zs_W cI cZ x bc bp S ++ zm_W cI cZ y bc bp M)) : zc_Pt p l e room_1 s m #[Value.ref b] below meth c 4 D (fun q : Nat => s.heap.size ≤ q) 22 1361 (lw_Z below #[Value.ref b] s) 189 [(0, .ref b), (1, .ref (x 0)), (2, .ref (y 0)), (3, .int (nI i))] [] (zs_W cI cZ x bc bp S ++ zm_W cI cZ y bc bp M) := by
  have hbp : 0 < bp := by have := hB0.2.2.1; omega
  have hN : bc * bp ≤ 20 := Nat.mul_le_mul hB0.2.1 hB0.2.2.2
  refine z_aload_n C0 d_law_189 rfl 1 rfl ?_
  refine z_aload_n C0 d_law_190 rfl 0 rfl ?_
  refine z_iload_n C0 d_law_191 rfl 3 rfl ?_
  refine z_iconst (v := nI 1) C0 d_law_192 (by decide) ?_
  refine z_iaddN C0 d_law_193 ?_
  refine z_sld C0 hX hbl hbA (by omega) hL d_law_194 ?_
  refine z_lawS (As := [.int (xs (i + 1))]) (rest := []) (S' := (ss_rem bc bp S (xs (i + 1))).2) C0 (c_S_remove l D cI cZ x bc bp S hB0 (xs (i + 1)) hR.2.2.1 hR.1.2) mt_S_remove ml_W_35 vt_S_remove rfl ⟨Nat.le_of_ble_eq_true rfl, Nat.le_of_ble_eq_true rfl⟩ ⟨rfl, rfl⟩ ⟨Nat.le_of_ble_eq_true rfl, Nat.le_of_ble_eq_true rfl⟩ rfl rfl (Nat.le_of_ble_eq_true rfl) d_law_195 ?_
  refine z_st (stn := [.int (ss_rem bc bp S (xs (i + 1))).1]) rfl ?_
  refine z_aload_n C0 d_law_198 rfl 2 rfl ?_
  refine z_aload_n C0 d_law_199 rfl 0 rfl ?_
  refine z_iload_n C0 d_law_200 rfl 3 rfl ?_
  refine z_iconst (v := nI 1) C0 d_law_201 (by decide) ?_
  refine z_iaddN C0 d_law_202 ?_
  refine z_sld C0 hX hbl hbA (by omega) hL d_law_203 ?_
  refine z_lawM (As := [.int (xs (i + 1))]) (rest := [.int (ss_rem bc bp S (xs (i + 1))).1]) (M' := (sm_rem bc bp M (xs (i + 1))).2) C0 (c_M_remove l D cI cZ y bc bp M hB0 (xs (i + 1)) hR.2.2.2.1 (sm_appI hbp hR.2.2.2.1)) mt_M_remove ml_W_39 vt_M_remove rfl ⟨Nat.le_of_ble_eq_true rfl, Nat.le_of_ble_eq_true rfl⟩ ⟨rfl, rfl⟩ ⟨Nat.le_of_ble_eq_true rfl, Nat.le_of_ble_eq_true rfl⟩ rfl rfl (Nat.le_of_ble_eq_true rfl) d_law_204 ?_
  refine z_st (stn := [.int (sm_rem bc bp M (xs (i + 1))).1, .int (ss_rem bc bp S (xs (i + 1))).1]) rfl ?_
  refine z_icmp_eq (tgt := 458) C0 d_law_207 (by decide) (fun _ => ?_) (fun h => absurd ((zR_rem hbp (xs (i + 1)) hR).1) h)
  exact go _ _ ((zR_rem hbp (xs (i + 1)) hR).2)
set_option maxHeartbeats 4000000 in
set_option maxRecDepth 100000 in
theorem law_4 {p : Program} {e : Env} {s : State} {m : MethodId} {below : List Frame} {meth : Method} {c : Code} (l : Launch) {b L : Nat} {xs : Nat → Int32} {D : va_G} {cI cZ : ClassId} {x y : Nat → Nat} {bc bp : Nat} (C0 : zc_Cx p s m #[Value.ref b] meth c b_law 4 R_W D cI cZ (fun q : Nat => s.heap.size ≤ q)) (hX : va_X b L xs s s.heap) (hbl : b < s.heap.size) (hbA : ¬ (fun q : Nat => s.heap.size ≤ q) b) (hL : L < 2 ^ 31) (hB0 : zb_ok bc bp) {i : Nat} {S : zs_S} {M : zm_S} (hi : i + 3 ≤ L) (hR : zR bc bp S M) (go : ∀ S M, zR bc bp S M → zc_Pt p l e room_1 s m #[Value.ref b] below meth c 4 D (fun q : Nat => s.heap.size ≤ q) 22 1361 (lw_Z below #[Value.ref b] s) 458 [(0, .ref b), (1, .ref (x 0)), (2, .ref (y 0)), (3, .int (nI i))] [] (zs_W cI cZ x bc bp S ++ zm_W cI cZ y bc bp M)) : zc_Pt p l e room_1 s m #[Value.ref b] below meth c 4 D (fun q : Nat => s.heap.size ≤ q) 22 1361 (lw_Z below #[Value.ref b] s) 212 [(0, .ref b), (1, .ref (x 0)), (2, .ref (y 0)), (3, .int (nI i))] [] (zs_W cI cZ x bc bp S ++ zm_W cI cZ y bc bp M) := by
  have hbp : 0 < bp := by have := hB0.2.2.1; omega
  have hN : bc * bp ≤ 20 := Nat.mul_le_mul hB0.2.1 hB0.2.2.2
  refine z_aload_n C0 d_law_212 rfl 1 rfl ?_
  refine z_aload_n C0 d_law_213 rfl 0 rfl ?_
  refine z_iload_n C0 d_law_214 rfl 3 rfl ?_
  refine z_iconst (v := nI 1) C0 d_law_215 (by decide) ?_
  refine z_iaddN C0 d_law_216 ?_
  refine z_sld C0 hX hbl hbA (by omega) hL d_law_217 ?_
  refine z_lawS (As := [.int (xs (i + 1))]) (rest := []) (S' := S) C0 (c_S_has l D cI cZ x bc bp S hB0 (xs (i + 1)) hR.2.2.1) mt_S_has ml_W_40 vt_S_has rfl ⟨Nat.le_of_ble_eq_true rfl, Nat.le_of_ble_eq_true rfl⟩ ⟨rfl, rfl⟩ ⟨Nat.le_of_ble_eq_true rfl, Nat.le_of_ble_eq_true rfl⟩ rfl rfl (Nat.le_of_ble_eq_true rfl) d_law_218 ?_
  refine z_st (stn := [.int (bI (ss_r S && sl_held bc bp (ss_L S) (xs (i + 1))))]) rfl ?_
  refine z_aload_n C0 d_law_221 rfl 2 rfl ?_
  refine z_aload_n C0 d_law_222 rfl 0 rfl ?_
  refine z_iload_n C0 d_law_223 rfl 3 rfl ?_
  refine z_iconst (v := nI 1) C0 d_law_224 (by decide) ?_
  refine z_iaddN C0 d_law_225 ?_
  refine z_sld C0 hX hbl hbA (by omega) hL d_law_226 ?_
  refine z_lawM (As := [.int (xs (i + 1))]) (rest := [.int (bI (ss_r S && sl_held bc bp (ss_L S) (xs (i + 1))))]) (M' := M) C0 (c_M_has l D cI cZ y bc bp M hB0 (xs (i + 1)) hR.2.2.2.1) mt_M_has ml_W_44 vt_M_has rfl ⟨Nat.le_of_ble_eq_true rfl, Nat.le_of_ble_eq_true rfl⟩ ⟨rfl, rfl⟩ ⟨Nat.le_of_ble_eq_true rfl, Nat.le_of_ble_eq_true rfl⟩ rfl rfl (Nat.le_of_ble_eq_true rfl) d_law_227 ?_
  refine z_st (stn := [.int (bI (mm_r M && (pkey (xs (i + 1)) && sm_held bc bp M (xs (i + 1))))), .int (bI (ss_r S && sl_held bc bp (ss_L S) (xs (i + 1))))]) rfl ?_
  refine z_icmp_eq (tgt := 458) C0 d_law_230 (by decide) (fun _ => ?_) (fun h => absurd (congrArg bI (zR_has hbp (xs (i + 1)) hR)) h)
  exact go _ _ (hR)
set_option maxHeartbeats 4000000 in
set_option maxRecDepth 100000 in
theorem law_5 {p : Program} {e : Env} {s : State} {m : MethodId} {below : List Frame} {meth : Method} {c : Code} (l : Launch) {b L : Nat} {xs : Nat → Int32} {D : va_G} {cI cZ : ClassId} {x y : Nat → Nat} {bc bp : Nat} (C0 : zc_Cx p s m #[Value.ref b] meth c b_law 4 R_W D cI cZ (fun q : Nat => s.heap.size ≤ q)) (hX : va_X b L xs s s.heap) (hbl : b < s.heap.size) (hbA : ¬ (fun q : Nat => s.heap.size ≤ q) b) (hL : L < 2 ^ 31) (hB0 : zb_ok bc bp) {i : Nat} {S : zs_S} {M : zm_S} (hi : i + 3 ≤ L) (hR : zR bc bp S M) (go : ∀ S M, zR bc bp S M → zc_Pt p l e room_1 s m #[Value.ref b] below meth c 4 D (fun q : Nat => s.heap.size ≤ q) 22 1361 (lw_Z below #[Value.ref b] s) 458 [(0, .ref b), (1, .ref (x 0)), (2, .ref (y 0)), (3, .int (nI i))] [] (zs_W cI cZ x bc bp S ++ zm_W cI cZ y bc bp M)) : zc_Pt p l e room_1 s m #[Value.ref b] below meth c 4 D (fun q : Nat => s.heap.size ≤ q) 22 1361 (lw_Z below #[Value.ref b] s) 235 [(0, .ref b), (1, .ref (x 0)), (2, .ref (y 0)), (3, .int (nI i))] [] (zs_W cI cZ x bc bp S ++ zm_W cI cZ y bc bp M) := by
  have hbp : 0 < bp := by have := hB0.2.2.1; omega
  have hN : bc * bp ≤ 20 := Nat.mul_le_mul hB0.2.1 hB0.2.2.2
  refine z_aload_n C0 d_law_235 rfl 1 rfl ?_
  refine z_aload_n C0 d_law_236 rfl 0 rfl ?_
  refine z_iload_n C0 d_law_237 rfl 3 rfl ?_
  refine z_iconst (v := nI 1) C0 d_law_238 (by decide) ?_
  refine z_iaddN C0 d_law_239 ?_
  refine z_sld C0 hX hbl hbA (by omega) hL d_law_240 ?_
  refine z_lawS (As := [.int (xs (i + 1))]) (rest := []) (S' := (ss_get bc bp S (xs (i + 1))).2) C0 (c_S_get l D cI cZ x bc bp S hB0 (xs (i + 1)) hR.2.2.1 hR.1.2) mt_S_get ml_W_45 vt_S_get rfl ⟨Nat.le_of_ble_eq_true rfl, Nat.le_of_ble_eq_true rfl⟩ ⟨rfl, rfl⟩ ⟨Nat.le_of_ble_eq_true rfl, Nat.le_of_ble_eq_true rfl⟩ rfl rfl (Nat.le_of_ble_eq_true rfl) d_law_241 ?_
  refine z_st (stn := [.int (ss_get bc bp S (xs (i + 1))).1]) rfl ?_
  refine z_aload_n C0 d_law_244 rfl 2 rfl ?_
  refine z_aload_n C0 d_law_245 rfl 0 rfl ?_
  refine z_iload_n C0 d_law_246 rfl 3 rfl ?_
  refine z_iconst (v := nI 1) C0 d_law_247 (by decide) ?_
  refine z_iaddN C0 d_law_248 ?_
  refine z_sld C0 hX hbl hbA (by omega) hL d_law_249 ?_
  refine z_lawM (As := [.int (xs (i + 1))]) (rest := [.int (ss_get bc bp S (xs (i + 1))).1]) (M' := (sm_get bc bp M (xs (i + 1))).2) C0 (c_M_get l D cI cZ y bc bp M hB0 (xs (i + 1)) hR.2.2.2.1) mt_M_get ml_W_48 vt_M_get rfl ⟨Nat.le_of_ble_eq_true rfl, Nat.le_of_ble_eq_true rfl⟩ ⟨rfl, rfl⟩ ⟨Nat.le_of_ble_eq_true rfl, Nat.le_of_ble_eq_true rfl⟩ rfl rfl (Nat.le_of_ble_eq_true rfl) d_law_250 ?_
  refine z_st (stn := [.int (sm_get bc bp M (xs (i + 1))).1, .int (ss_get bc bp S (xs (i + 1))).1]) rfl ?_
  refine z_icmp_eq (tgt := 458) C0 d_law_253 (by decide) (fun _ => ?_) (fun h => absurd ((zR_get hbp (xs (i + 1)) hR).1) h)
  exact go _ _ ((zR_get hbp (xs (i + 1)) hR).2)
set_option maxHeartbeats 4000000 in
set_option maxRecDepth 100000 in
theorem law_6 {p : Program} {e : Env} {s : State} {m : MethodId} {below : List Frame} {meth : Method} {c : Code} (l : Launch) {b L : Nat} {xs : Nat → Int32} {D : va_G} {cI cZ : ClassId} {x y : Nat → Nat} {bc bp : Nat} (C0 : zc_Cx p s m #[Value.ref b] meth c b_law 4 R_W D cI cZ (fun q : Nat => s.heap.size ≤ q)) (hX : va_X b L xs s s.heap) (hbl : b < s.heap.size) (hbA : ¬ (fun q : Nat => s.heap.size ≤ q) b) (hL : L < 2 ^ 31) (hB0 : zb_ok bc bp) {i : Nat} {S : zs_S} {M : zm_S} (hi : i + 3 ≤ L) (hR : zR bc bp S M) (go : ∀ S M, zR bc bp S M → zc_Pt p l e room_1 s m #[Value.ref b] below meth c 4 D (fun q : Nat => s.heap.size ≤ q) 22 1361 (lw_Z below #[Value.ref b] s) 458 [(0, .ref b), (1, .ref (x 0)), (2, .ref (y 0)), (3, .int (nI i))] [] (zs_W cI cZ x bc bp S ++ zm_W cI cZ y bc bp M)) : zc_Pt p l e room_1 s m #[Value.ref b] below meth c 4 D (fun q : Nat => s.heap.size ≤ q) 22 1361 (lw_Z below #[Value.ref b] s) 258 [(0, .ref b), (1, .ref (x 0)), (2, .ref (y 0)), (3, .int (nI i))] [] (zs_W cI cZ x bc bp S ++ zm_W cI cZ y bc bp M) := by
  have hbp : 0 < bp := by have := hB0.2.2.1; omega
  have hN : bc * bp ≤ 20 := Nat.mul_le_mul hB0.2.1 hB0.2.2.2
  refine z_aload_n C0 d_law_258 rfl 1 rfl ?_
  refine z_lawS (As := []) (rest := []) (S' := S) C0 (c_S_size l D cI cZ x bc bp S hB0 hR.2.2.1) mt_S_size ml_W_49 vt_S_size rfl ⟨Nat.le_of_ble_eq_true rfl, Nat.le_of_ble_eq_true rfl⟩ ⟨rfl, rfl⟩ ⟨Nat.le_of_ble_eq_true rfl, Nat.le_of_ble_eq_true rfl⟩ rfl rfl (Nat.le_of_ble_eq_true rfl) d_law_259 ?_
  refine z_st (stn := [.int (if ss_r S = true then nI (sl_hks bc bp (ss_L S) 16 0 0) else -2)]) rfl ?_
  refine z_aload_n C0 d_law_262 rfl 2 rfl ?_
  refine z_lawM (As := []) (rest := [.int (if ss_r S = true then nI (sl_hks bc bp (ss_L S) 16 0 0) else -2)]) (M' := M) C0 (c_M_size l D cI cZ y bc bp M hB0 hR.2.2.2.1) mt_M_size ml_W_52 vt_M_size rfl ⟨Nat.le_of_ble_eq_true rfl, Nat.le_of_ble_eq_true rfl⟩ ⟨rfl, rfl⟩ ⟨Nat.le_of_ble_eq_true rfl, Nat.le_of_ble_eq_true rfl⟩ rfl rfl (Nat.le_of_ble_eq_true rfl) d_law_263 ?_
  refine z_st (stn := [.int (if mm_r M = true then nI (sm_hks bc bp M 16 0 0) else -2), .int (if ss_r S = true then nI (sl_hks bc bp (ss_L S) 16 0 0) else -2)]) rfl ?_
  refine z_icmp_eq (tgt := 458) C0 d_law_266 (by decide) (fun _ => ?_) (fun h => absurd (zR_size hbp hR) h)
  exact go _ _ (hR)
set_option maxHeartbeats 4000000 in
set_option maxRecDepth 100000 in
theorem law_7 {p : Program} {e : Env} {s : State} {m : MethodId} {below : List Frame} {meth : Method} {c : Code} (l : Launch) {b L : Nat} {xs : Nat → Int32} {D : va_G} {cI cZ : ClassId} {x y : Nat → Nat} {bc bp : Nat} (C0 : zc_Cx p s m #[Value.ref b] meth c b_law 4 R_W D cI cZ (fun q : Nat => s.heap.size ≤ q)) (hX : va_X b L xs s s.heap) (hbl : b < s.heap.size) (hbA : ¬ (fun q : Nat => s.heap.size ≤ q) b) (hL : L < 2 ^ 31) (hB0 : zb_ok bc bp) {i : Nat} {S : zs_S} {M : zm_S} (hi : i + 3 ≤ L) (hR : zR bc bp S M) (go : ∀ S M, zR bc bp S M → zc_Pt p l e room_1 s m #[Value.ref b] below meth c 4 D (fun q : Nat => s.heap.size ≤ q) 22 1361 (lw_Z below #[Value.ref b] s) 458 [(0, .ref b), (1, .ref (x 0)), (2, .ref (y 0)), (3, .int (nI i))] [] (zs_W cI cZ x bc bp S ++ zm_W cI cZ y bc bp M)) : zc_Pt p l e room_1 s m #[Value.ref b] below meth c 4 D (fun q : Nat => s.heap.size ≤ q) 22 1361 (lw_Z below #[Value.ref b] s) 271 [(0, .ref b), (1, .ref (x 0)), (2, .ref (y 0)), (3, .int (nI i))] [] (zs_W cI cZ x bc bp S ++ zm_W cI cZ y bc bp M) := by
  have hbp : 0 < bp := by have := hB0.2.2.1; omega
  have hN : bc * bp ≤ 20 := Nat.mul_le_mul hB0.2.1 hB0.2.2.2
  refine z_aload_n C0 d_law_271 rfl 1 rfl ?_
  refine z_aload_n C0 d_law_272 rfl 0 rfl ?_
  refine z_iload_n C0 d_law_273 rfl 3 rfl ?_
  refine z_iconst (v := nI 1) C0 d_law_274 (by decide) ?_
  refine z_iaddN C0 d_law_275 ?_
  refine z_sld C0 hX hbl hbA (by omega) hL d_law_276 ?_
  refine z_aload_n C0 d_law_277 rfl 0 rfl ?_
  refine z_iload_n C0 d_law_278 rfl 3 rfl ?_
  refine z_iconst (v := nI 2) C0 d_law_279 (by decide) ?_
  refine z_iaddN C0 d_law_280 ?_
  refine z_sld C0 hX hbl hbA (by omega) hL d_law_281 ?_
  refine z_lawS (As := [.int (xs (i + 1)), .int (xs (i + 2))]) (rest := []) (S' := (ss_rot (bc * bp) S (xs (i + 1)) (xs (i + 2))).2) C0 (c_S_rot l D cI cZ x bc bp S hB0 (xs (i + 1)) (xs (i + 2))) mt_S_rot ml_W_53 vt_S_rot rfl ⟨Nat.le_of_ble_eq_true rfl, Nat.le_of_ble_eq_true rfl⟩ ⟨rfl, rfl⟩ ⟨Nat.le_of_ble_eq_true rfl, Nat.le_of_ble_eq_true rfl⟩ rfl rfl (Nat.le_of_ble_eq_true rfl) d_law_282 ?_
  refine z_st (stn := [.int (bI (ss_rot (bc * bp) S (xs (i + 1)) (xs (i + 2))).1)]) rfl ?_
  refine z_aload_n C0 d_law_285 rfl 2 rfl ?_
  refine z_aload_n C0 d_law_286 rfl 0 rfl ?_
  refine z_iload_n C0 d_law_287 rfl 3 rfl ?_
  refine z_iconst (v := nI 1) C0 d_law_288 (by decide) ?_
  refine z_iaddN C0 d_law_289 ?_
  refine z_sld C0 hX hbl hbA (by omega) hL d_law_290 ?_
  refine z_aload_n C0 d_law_291 rfl 0 rfl ?_
  refine z_iload_n C0 d_law_292 rfl 3 rfl ?_
  refine z_iconst (v := nI 2) C0 d_law_293 (by decide) ?_
  refine z_iaddN C0 d_law_294 ?_
  refine z_sld C0 hX hbl hbA (by omega) hL d_law_295 ?_
  refine z_lawM (As := [.int (xs (i + 1)), .int (xs (i + 2))]) (rest := [.int (bI (ss_rot (bc * bp) S (xs (i + 1)) (xs (i + 2))).1)]) (M' := (sm_rot (bc * bp) M (xs (i + 1)) (xs (i + 2))).2) C0 (c_M_rot l D cI cZ y bc bp M hB0 (xs (i + 1)) (xs (i + 2))) mt_M_rot ml_W_57 vt_M_rot rfl ⟨Nat.le_of_ble_eq_true rfl, Nat.le_of_ble_eq_true rfl⟩ ⟨rfl, rfl⟩ ⟨Nat.le_of_ble_eq_true rfl, Nat.le_of_ble_eq_true rfl⟩ rfl rfl (Nat.le_of_ble_eq_true rfl) d_law_296 ?_
  refine z_st (stn := [.int (bI (sm_rot (bc * bp) M (xs (i + 1)) (xs (i + 2))).1), .int (bI (ss_rot (bc * bp) S (xs (i + 1)) (xs (i + 2))).1)]) rfl ?_
  refine z_icmp_eq (tgt := 458) C0 d_law_299 (by decide) (fun _ => ?_) (fun h => absurd (congrArg bI (zR_rot hN (xs (i + 1)) (xs (i + 2)) hR).1) h)
  exact go _ _ ((zR_rot hN (xs (i + 1)) (xs (i + 2)) hR).2)
set_option maxHeartbeats 4000000 in
set_option maxRecDepth 100000 in
theorem law_8 {p : Program} {e : Env} {s : State} {m : MethodId} {below : List Frame} {meth : Method} {c : Code} (l : Launch) {b L : Nat} {xs : Nat → Int32} {D : va_G} {cI cZ : ClassId} {x y : Nat → Nat} {bc bp : Nat} (C0 : zc_Cx p s m #[Value.ref b] meth c b_law 4 R_W D cI cZ (fun q : Nat => s.heap.size ≤ q)) (hX : va_X b L xs s s.heap) (hbl : b < s.heap.size) (hbA : ¬ (fun q : Nat => s.heap.size ≤ q) b) (hL : L < 2 ^ 31) (hB0 : zb_ok bc bp) {i : Nat} {S : zs_S} {M : zm_S} (hi : i + 3 ≤ L) (hR : zR bc bp S M) (go : ∀ S M, zR bc bp S M → zc_Pt p l e room_1 s m #[Value.ref b] below meth c 4 D (fun q : Nat => s.heap.size ≤ q) 22 1361 (lw_Z below #[Value.ref b] s) 458 [(0, .ref b), (1, .ref (x 0)), (2, .ref (y 0)), (3, .int (nI i))] [] (zs_W cI cZ x bc bp S ++ zm_W cI cZ y bc bp M)) : zc_Pt p l e room_1 s m #[Value.ref b] below meth c 4 D (fun q : Nat => s.heap.size ≤ q) 22 1361 (lw_Z below #[Value.ref b] s) 304 [(0, .ref b), (1, .ref (x 0)), (2, .ref (y 0)), (3, .int (nI i))] [] (zs_W cI cZ x bc bp S ++ zm_W cI cZ y bc bp M) := by
  have hbp : 0 < bp := by have := hB0.2.2.1; omega
  have hN : bc * bp ≤ 20 := Nat.mul_le_mul hB0.2.1 hB0.2.2.2
  refine z_aload_n C0 d_law_304 rfl 1 rfl ?_
  refine z_lawS (As := []) (rest := []) (S' := (ss_scrub bc bp S).2) C0 (c_S_scrub l D cI cZ x bc bp S hB0 hR.1.2) mt_S_scrub ml_W_58 vt_S_scrub rfl ⟨Nat.le_of_ble_eq_true rfl, Nat.le_of_ble_eq_true rfl⟩ ⟨rfl, rfl⟩ ⟨Nat.le_of_ble_eq_true rfl, Nat.le_of_ble_eq_true rfl⟩ rfl rfl (Nat.le_of_ble_eq_true rfl) d_law_305 ?_
  refine z_st (stn := [.int (ss_scrub bc bp S).1]) rfl ?_
  refine z_aload_n C0 d_law_308 rfl 2 rfl ?_
  refine z_lawM (As := []) (rest := [.int (ss_scrub bc bp S).1]) (M' := (sm_scrub bc bp M).2) C0 (c_M_scrub l D cI cZ y bc bp M hB0 ) mt_M_scrub ml_W_61 vt_M_scrub rfl ⟨Nat.le_of_ble_eq_true rfl, Nat.le_of_ble_eq_true rfl⟩ ⟨rfl, rfl⟩ ⟨Nat.le_of_ble_eq_true rfl, Nat.le_of_ble_eq_true rfl⟩ rfl rfl (Nat.le_of_ble_eq_true rfl) d_law_309 ?_
  refine z_st (stn := [.int (sm_scrub bc bp M).1, .int (ss_scrub bc bp S).1]) rfl ?_
  refine z_icmp_eq (tgt := 458) C0 d_law_312 (by decide) (fun _ => ?_) (fun h => absurd ((zR_scrub hR).1) h)
  exact go _ _ ((zR_scrub hR).2)
set_option maxHeartbeats 4000000 in
set_option maxRecDepth 100000 in
theorem law_9 {p : Program} {e : Env} {s : State} {m : MethodId} {below : List Frame} {meth : Method} {c : Code} (l : Launch) {b L : Nat} {xs : Nat → Int32} {D : va_G} {cI cZ : ClassId} {x y : Nat → Nat} {bc bp : Nat} (C0 : zc_Cx p s m #[Value.ref b] meth c b_law 4 R_W D cI cZ (fun q : Nat => s.heap.size ≤ q)) (hX : va_X b L xs s s.heap) (hbl : b < s.heap.size) (hbA : ¬ (fun q : Nat => s.heap.size ≤ q) b) (hL : L < 2 ^ 31) (hB0 : zb_ok bc bp) {i : Nat} {S : zs_S} {M : zm_S} (hi : i + 3 ≤ L) (hR : zR bc bp S M) (go : ∀ S M, zR bc bp S M → zc_Pt p l e room_1 s m #[Value.ref b] below meth c 4 D (fun q : Nat => s.heap.size ≤ q) 22 1361 (lw_Z below #[Value.ref b] s) 458 [(0, .ref b), (1, .ref (x 0)), (2, .ref (y 0)), (3, .int (nI i))] [] (zs_W cI cZ x bc bp S ++ zm_W cI cZ y bc bp M)) : zc_Pt p l e room_1 s m #[Value.ref b] below meth c 4 D (fun q : Nat => s.heap.size ≤ q) 22 1361 (lw_Z below #[Value.ref b] s) 317 [(0, .ref b), (1, .ref (x 0)), (2, .ref (y 0)), (3, .int (nI i))] [] (zs_W cI cZ x bc bp S ++ zm_W cI cZ y bc bp M) := by
  have hbp : 0 < bp := by have := hB0.2.2.1; omega
  have hN : bc * bp ≤ 20 := Nat.mul_le_mul hB0.2.1 hB0.2.2.2
  refine z_aload_n C0 d_law_317 rfl 1 rfl ?_
  refine z_aload_n C0 d_law_318 rfl 0 rfl ?_
  refine z_iload_n C0 d_law_319 rfl 3 rfl ?_
  refine z_iconst (v := nI 1) C0 d_law_320 (by decide) ?_
  refine z_iaddN C0 d_law_321 ?_
  refine z_sld C0 hX hbl hbA (by omega) hL d_law_322 ?_
  refine z_lawS (As := [.int (xs (i + 1))]) (rest := []) (S' := (ss_arm S (xs (i + 1))).2) C0 (c_S_arm l D cI cZ x bc bp S hB0 (xs (i + 1))) mt_S_arm ml_W_62 vt_S_arm rfl ⟨Nat.le_of_ble_eq_true rfl, Nat.le_of_ble_eq_true rfl⟩ ⟨rfl, rfl⟩ ⟨Nat.le_of_ble_eq_true rfl, Nat.le_of_ble_eq_true rfl⟩ rfl rfl (Nat.le_of_ble_eq_true rfl) d_law_323 ?_
  refine z_st (stn := [.int (bI (ss_arm S (xs (i + 1))).1)]) rfl ?_
  refine z_aload_n C0 d_law_326 rfl 2 rfl ?_
  refine z_aload_n C0 d_law_327 rfl 0 rfl ?_
  refine z_iload_n C0 d_law_328 rfl 3 rfl ?_
  refine z_iconst (v := nI 1) C0 d_law_329 (by decide) ?_
  refine z_iaddN C0 d_law_330 ?_
  refine z_sld C0 hX hbl hbA (by omega) hL d_law_331 ?_
  refine z_lawM (As := [.int (xs (i + 1))]) (rest := [.int (bI (ss_arm S (xs (i + 1))).1)]) (M' := (sm_arm M (xs (i + 1))).2) C0 (c_M_arm l D cI cZ y bc bp M hB0 (xs (i + 1))) mt_M_arm ml_W_65 vt_M_arm rfl ⟨Nat.le_of_ble_eq_true rfl, Nat.le_of_ble_eq_true rfl⟩ ⟨rfl, rfl⟩ ⟨Nat.le_of_ble_eq_true rfl, Nat.le_of_ble_eq_true rfl⟩ rfl rfl (Nat.le_of_ble_eq_true rfl) d_law_332 ?_
  refine z_st (stn := [.int (bI (sm_arm M (xs (i + 1))).1), .int (bI (ss_arm S (xs (i + 1))).1)]) rfl ?_
  refine z_icmp_eq (tgt := 458) C0 d_law_335 (by decide) (fun _ => ?_) (fun h => absurd (congrArg bI (zR_arm (xs (i + 1)) hR).1) h)
  exact go _ _ ((zR_arm (xs (i + 1)) hR).2)
set_option maxHeartbeats 4000000 in
set_option maxRecDepth 100000 in
theorem law_10 {p : Program} {e : Env} {s : State} {m : MethodId} {below : List Frame} {meth : Method} {c : Code} (l : Launch) {b L : Nat} {xs : Nat → Int32} {D : va_G} {cI cZ : ClassId} {x y : Nat → Nat} {bc bp : Nat} (C0 : zc_Cx p s m #[Value.ref b] meth c b_law 4 R_W D cI cZ (fun q : Nat => s.heap.size ≤ q)) (hX : va_X b L xs s s.heap) (hbl : b < s.heap.size) (hbA : ¬ (fun q : Nat => s.heap.size ≤ q) b) (hL : L < 2 ^ 31) (hB0 : zb_ok bc bp) {i : Nat} {S : zs_S} {M : zm_S} (hi : i + 3 ≤ L) (hR : zR bc bp S M) (go : ∀ S M, zR bc bp S M → zc_Pt p l e room_1 s m #[Value.ref b] below meth c 4 D (fun q : Nat => s.heap.size ≤ q) 22 1361 (lw_Z below #[Value.ref b] s) 458 [(0, .ref b), (1, .ref (x 0)), (2, .ref (y 0)), (3, .int (nI i))] [] (zs_W cI cZ x bc bp S ++ zm_W cI cZ y bc bp M)) : zc_Pt p l e room_1 s m #[Value.ref b] below meth c 4 D (fun q : Nat => s.heap.size ≤ q) 22 1361 (lw_Z below #[Value.ref b] s) 340 [(0, .ref b), (1, .ref (x 0)), (2, .ref (y 0)), (3, .int (nI i))] [] (zs_W cI cZ x bc bp S ++ zm_W cI cZ y bc bp M) := by
  have hbp : 0 < bp := by have := hB0.2.2.1; omega
  have hN : bc * bp ≤ 20 := Nat.mul_le_mul hB0.2.1 hB0.2.2.2
  refine z_aload_n C0 d_law_340 rfl 1 rfl ?_
  refine z_lawS (As := []) (rest := []) (S' := S) C0 (c_S_crashed l D cI cZ x bc bp S hB0 ) mt_S_crashed ml_W_66 vt_S_crashed rfl ⟨Nat.le_of_ble_eq_true rfl, Nat.le_of_ble_eq_true rfl⟩ ⟨rfl, rfl⟩ ⟨Nat.le_of_ble_eq_true rfl, Nat.le_of_ble_eq_true rfl⟩ rfl rfl (Nat.le_of_ble_eq_true rfl) d_law_341 ?_
  refine z_st (stn := [.int (bI (ss_f S))]) rfl ?_
  refine z_aload_n C0 d_law_344 rfl 2 rfl ?_
  refine z_lawM (As := []) (rest := [.int (bI (ss_f S))]) (M' := M) C0 (c_M_crashed l D cI cZ y bc bp M hB0 ) mt_M_crashed ml_W_70 vt_M_crashed rfl ⟨Nat.le_of_ble_eq_true rfl, Nat.le_of_ble_eq_true rfl⟩ ⟨rfl, rfl⟩ ⟨Nat.le_of_ble_eq_true rfl, Nat.le_of_ble_eq_true rfl⟩ rfl rfl (Nat.le_of_ble_eq_true rfl) d_law_345 ?_
  refine z_st (stn := [.int (bI (mm_c M)), .int (bI (ss_f S))]) rfl ?_
  refine z_icmp_eq (tgt := 458) C0 d_law_348 (by decide) (fun _ => ?_) (fun h => absurd (congrArg bI (hR.2.1.2.1)) h)
  exact go _ _ (hR)
set_option maxHeartbeats 4000000 in
set_option maxRecDepth 100000 in
theorem law_11 {p : Program} {e : Env} {s : State} {m : MethodId} {below : List Frame} {meth : Method} {c : Code} (l : Launch) {b L : Nat} {xs : Nat → Int32} {D : va_G} {cI cZ : ClassId} {x y : Nat → Nat} {bc bp : Nat} (C0 : zc_Cx p s m #[Value.ref b] meth c b_law 4 R_W D cI cZ (fun q : Nat => s.heap.size ≤ q)) (hX : va_X b L xs s s.heap) (hbl : b < s.heap.size) (hbA : ¬ (fun q : Nat => s.heap.size ≤ q) b) (hL : L < 2 ^ 31) (hB0 : zb_ok bc bp) {i : Nat} {S : zs_S} {M : zm_S} (hi : i + 3 ≤ L) (hR : zR bc bp S M) (go : ∀ S M, zR bc bp S M → zc_Pt p l e room_1 s m #[Value.ref b] below meth c 4 D (fun q : Nat => s.heap.size ≤ q) 22 1361 (lw_Z below #[Value.ref b] s) 458 [(0, .ref b), (1, .ref (x 0)), (2, .ref (y 0)), (3, .int (nI i))] [] (zs_W cI cZ x bc bp S ++ zm_W cI cZ y bc bp M)) : zc_Pt p l e room_1 s m #[Value.ref b] below meth c 4 D (fun q : Nat => s.heap.size ≤ q) 22 1361 (lw_Z below #[Value.ref b] s) 353 [(0, .ref b), (1, .ref (x 0)), (2, .ref (y 0)), (3, .int (nI i))] [] (zs_W cI cZ x bc bp S ++ zm_W cI cZ y bc bp M) := by
  have hbp : 0 < bp := by have := hB0.2.2.1; omega
  have hN : bc * bp ≤ 20 := Nat.mul_le_mul hB0.2.1 hB0.2.2.2
  refine z_aload_n C0 d_law_353 rfl 1 rfl ?_
  refine z_aload_n C0 d_law_354 rfl 0 rfl ?_
  refine z_iload_n C0 d_law_355 rfl 3 rfl ?_
  refine z_iconst (v := nI 1) C0 d_law_356 (by decide) ?_
  refine z_iaddN C0 d_law_357 ?_
  refine z_sld C0 hX hbl hbA (by omega) hL d_law_358 ?_
  refine z_lawS (As := [.int (xs (i + 1))]) (rest := []) (S' := (ss_cond (bc * bp) S (xs (i + 1))).2) C0 (c_S_condition l D cI cZ x bc bp S hB0 (xs (i + 1)) hR.1.2) mt_S_condition ml_W_71 vt_S_condition rfl ⟨Nat.le_of_ble_eq_true rfl, Nat.le_of_ble_eq_true rfl⟩ ⟨rfl, rfl⟩ ⟨Nat.le_of_ble_eq_true rfl, Nat.le_of_ble_eq_true rfl⟩ rfl rfl (Nat.le_of_ble_eq_true rfl) d_law_359 ?_
  refine z_st (stn := [.int (ss_cond (bc * bp) S (xs (i + 1))).1]) rfl ?_
  refine z_aload_n C0 d_law_362 rfl 2 rfl ?_
  refine z_aload_n C0 d_law_363 rfl 0 rfl ?_
  refine z_iload_n C0 d_law_364 rfl 3 rfl ?_
  refine z_iconst (v := nI 1) C0 d_law_365 (by decide) ?_
  refine z_iaddN C0 d_law_366 ?_
  refine z_sld C0 hX hbl hbA (by omega) hL d_law_367 ?_
  refine z_lawM (As := [.int (xs (i + 1))]) (rest := [.int (ss_cond (bc * bp) S (xs (i + 1))).1]) (M' := (sm_cnd (bc * bp) M (xs (i + 1))).2) C0 (c_M_condition l D cI cZ y bc bp M hB0 (xs (i + 1))) mt_M_condition ml_W_74 vt_M_condition rfl ⟨Nat.le_of_ble_eq_true rfl, Nat.le_of_ble_eq_true rfl⟩ ⟨rfl, rfl⟩ ⟨Nat.le_of_ble_eq_true rfl, Nat.le_of_ble_eq_true rfl⟩ rfl rfl (Nat.le_of_ble_eq_true rfl) d_law_368 ?_
  refine z_st (stn := [.int (sm_cnd (bc * bp) M (xs (i + 1))).1, .int (ss_cond (bc * bp) S (xs (i + 1))).1]) rfl ?_
  refine z_icmp_eq (tgt := 458) C0 d_law_371 (by decide) (fun _ => ?_) (fun h => absurd ((zR_cond hN (xs (i + 1)) hR).1) h)
  exact go _ _ ((zR_cond hN (xs (i + 1)) hR).2)
set_option maxHeartbeats 4000000 in
set_option maxRecDepth 100000 in
theorem law_12 {p : Program} {e : Env} {s : State} {m : MethodId} {below : List Frame} {meth : Method} {c : Code} (l : Launch) {b L : Nat} {xs : Nat → Int32} {D : va_G} {cI cZ : ClassId} {x y : Nat → Nat} {bc bp : Nat} (C0 : zc_Cx p s m #[Value.ref b] meth c b_law 4 R_W D cI cZ (fun q : Nat => s.heap.size ≤ q)) (hX : va_X b L xs s s.heap) (hbl : b < s.heap.size) (hbA : ¬ (fun q : Nat => s.heap.size ≤ q) b) (hL : L < 2 ^ 31) (hB0 : zb_ok bc bp) {i : Nat} {S : zs_S} {M : zm_S} (hi : i + 3 ≤ L) (hR : zR bc bp S M) (go : ∀ S M, zR bc bp S M → zc_Pt p l e room_1 s m #[Value.ref b] below meth c 4 D (fun q : Nat => s.heap.size ≤ q) 22 1361 (lw_Z below #[Value.ref b] s) 458 [(0, .ref b), (1, .ref (x 0)), (2, .ref (y 0)), (3, .int (nI i))] [] (zs_W cI cZ x bc bp S ++ zm_W cI cZ y bc bp M)) : zc_Pt p l e room_1 s m #[Value.ref b] below meth c 4 D (fun q : Nat => s.heap.size ≤ q) 22 1361 (lw_Z below #[Value.ref b] s) 376 [(0, .ref b), (1, .ref (x 0)), (2, .ref (y 0)), (3, .int (nI i))] [] (zs_W cI cZ x bc bp S ++ zm_W cI cZ y bc bp M) := by
  have hbp : 0 < bp := by have := hB0.2.2.1; omega
  have hN : bc * bp ≤ 20 := Nat.mul_le_mul hB0.2.1 hB0.2.2.2
  refine z_aload_n C0 d_law_376 rfl 1 rfl ?_
  refine z_aload_n C0 d_law_377 rfl 0 rfl ?_
  refine z_iload_n C0 d_law_378 rfl 3 rfl ?_
  refine z_iconst (v := nI 1) C0 d_law_379 (by decide) ?_
  refine z_iaddN C0 d_law_380 ?_
  refine z_sld C0 hX hbl hbA (by omega) hL d_law_381 ?_
  refine z_aload_n C0 d_law_382 rfl 0 rfl ?_
  refine z_iload_n C0 d_law_383 rfl 3 rfl ?_
  refine z_iconst (v := nI 2) C0 d_law_384 (by decide) ?_
  refine z_iaddN C0 d_law_385 ?_
  refine z_sld C0 hX hbl hbA (by omega) hL d_law_386 ?_
  refine z_lawS (As := [.int (xs (i + 1)), .int (xs (i + 2))]) (rest := []) (S' := S) C0 (c_S_word l D cI cZ x bc bp S hB0 (xs (i + 1)) (xs (i + 2))) mt_S_word ml_W_75 vt_S_word rfl ⟨Nat.le_of_ble_eq_true rfl, Nat.le_of_ble_eq_true rfl⟩ ⟨rfl, rfl⟩ ⟨Nat.le_of_ble_eq_true rfl, Nat.le_of_ble_eq_true rfl⟩ rfl rfl (Nat.le_of_ble_eq_true rfl) d_law_387 ?_
  refine z_st (stn := [.int (ss_word (bc * bp) S (xs (i + 1)) (xs (i + 2)))]) rfl ?_
  refine z_aload_n C0 d_law_390 rfl 2 rfl ?_
  refine z_aload_n C0 d_law_391 rfl 0 rfl ?_
  refine z_iload_n C0 d_law_392 rfl 3 rfl ?_
  refine z_iconst (v := nI 1) C0 d_law_393 (by decide) ?_
  refine z_iaddN C0 d_law_394 ?_
  refine z_sld C0 hX hbl hbA (by omega) hL d_law_395 ?_
  refine z_aload_n C0 d_law_396 rfl 0 rfl ?_
  refine z_iload_n C0 d_law_397 rfl 3 rfl ?_
  refine z_iconst (v := nI 2) C0 d_law_398 (by decide) ?_
  refine z_iaddN C0 d_law_399 ?_
  refine z_sld C0 hX hbl hbA (by omega) hL d_law_400 ?_
  refine z_lawM (As := [.int (xs (i + 1)), .int (xs (i + 2))]) (rest := [.int (ss_word (bc * bp) S (xs (i + 1)) (xs (i + 2)))]) (M' := M) C0 (c_M_word l D cI cZ y bc bp M hB0 (xs (i + 1)) (xs (i + 2))) mt_M_word ml_W_78 vt_M_word rfl ⟨Nat.le_of_ble_eq_true rfl, Nat.le_of_ble_eq_true rfl⟩ ⟨rfl, rfl⟩ ⟨Nat.le_of_ble_eq_true rfl, Nat.le_of_ble_eq_true rfl⟩ rfl rfl (Nat.le_of_ble_eq_true rfl) d_law_401 ?_
  refine z_st (stn := [.int (sm_word (bc * bp) M (xs (i + 1)) (xs (i + 2))), .int (ss_word (bc * bp) S (xs (i + 1)) (xs (i + 2)))]) rfl ?_
  refine z_icmp_eq (tgt := 458) C0 d_law_404 (by decide) (fun _ => ?_) (fun h => absurd (zR_word hN (xs (i + 1)) (xs (i + 2)) hR) h)
  exact go _ _ (hR)
set_option maxHeartbeats 4000000 in
set_option maxRecDepth 100000 in
theorem law_13 {p : Program} {e : Env} {s : State} {m : MethodId} {below : List Frame} {meth : Method} {c : Code} (l : Launch) {b L : Nat} {xs : Nat → Int32} {D : va_G} {cI cZ : ClassId} {x y : Nat → Nat} {bc bp : Nat} (C0 : zc_Cx p s m #[Value.ref b] meth c b_law 4 R_W D cI cZ (fun q : Nat => s.heap.size ≤ q)) (hX : va_X b L xs s s.heap) (hbl : b < s.heap.size) (hbA : ¬ (fun q : Nat => s.heap.size ≤ q) b) (hL : L < 2 ^ 31) (hB0 : zb_ok bc bp) {i : Nat} {S : zs_S} {M : zm_S} (hi : i + 3 ≤ L) (hR : zR bc bp S M) (go : ∀ S M, zR bc bp S M → zc_Pt p l e room_1 s m #[Value.ref b] below meth c 4 D (fun q : Nat => s.heap.size ≤ q) 22 1361 (lw_Z below #[Value.ref b] s) 458 [(0, .ref b), (1, .ref (x 0)), (2, .ref (y 0)), (3, .int (nI i))] [] (zs_W cI cZ x bc bp S ++ zm_W cI cZ y bc bp M)) : zc_Pt p l e room_1 s m #[Value.ref b] below meth c 4 D (fun q : Nat => s.heap.size ≤ q) 22 1361 (lw_Z below #[Value.ref b] s) 409 [(0, .ref b), (1, .ref (x 0)), (2, .ref (y 0)), (3, .int (nI i))] [] (zs_W cI cZ x bc bp S ++ zm_W cI cZ y bc bp M) := by
  have hbp : 0 < bp := by have := hB0.2.2.1; omega
  have hN : bc * bp ≤ 20 := Nat.mul_le_mul hB0.2.1 hB0.2.2.2
  refine z_aload_n C0 d_law_409 rfl 1 rfl ?_
  refine z_aload_n C0 d_law_410 rfl 0 rfl ?_
  refine z_iload_n C0 d_law_411 rfl 3 rfl ?_
  refine z_iconst (v := nI 1) C0 d_law_412 (by decide) ?_
  refine z_iaddN C0 d_law_413 ?_
  refine z_sld C0 hX hbl hbA (by omega) hL d_law_414 ?_
  refine z_lawS (As := [.int (xs (i + 1))]) (rest := []) (S' := (ss_need bc bp S (xs (i + 1))).2) C0 (c_S_needed l D cI cZ x bc bp S hB0 (xs (i + 1)) hR.2.2.1) mt_S_needed ml_W_79 vt_S_needed rfl ⟨Nat.le_of_ble_eq_true rfl, Nat.le_of_ble_eq_true rfl⟩ ⟨rfl, rfl⟩ ⟨Nat.le_of_ble_eq_true rfl, Nat.le_of_ble_eq_true rfl⟩ rfl rfl (Nat.le_of_ble_eq_true rfl) d_law_415 ?_
  refine z_st (stn := [.int (ss_need bc bp S (xs (i + 1))).1]) rfl ?_
  refine z_aload_n C0 d_law_418 rfl 2 rfl ?_
  refine z_aload_n C0 d_law_419 rfl 0 rfl ?_
  refine z_iload_n C0 d_law_420 rfl 3 rfl ?_
  refine z_iconst (v := nI 1) C0 d_law_421 (by decide) ?_
  refine z_iaddN C0 d_law_422 ?_
  refine z_sld C0 hX hbl hbA (by omega) hL d_law_423 ?_
  refine z_lawM (As := [.int (xs (i + 1))]) (rest := [.int (ss_need bc bp S (xs (i + 1))).1]) (M' := M) C0 (c_M_needed l D cI cZ y bc bp M hB0 (xs (i + 1)) hR.2.2.2.1) mt_M_needed ml_W_82 vt_M_needed rfl ⟨Nat.le_of_ble_eq_true rfl, Nat.le_of_ble_eq_true rfl⟩ ⟨rfl, rfl⟩ ⟨Nat.le_of_ble_eq_true rfl, Nat.le_of_ble_eq_true rfl⟩ rfl rfl (Nat.le_of_ble_eq_true rfl) d_law_424 ?_
  refine z_st (stn := [.int (sm_needed bc bp M (xs (i + 1))), .int (ss_need bc bp S (xs (i + 1))).1]) rfl ?_
  refine z_icmp_eq (tgt := 458) C0 d_law_427 (by decide) (fun _ => ?_) (fun h => absurd ((zR_needed hbp (by have := hB0.2.1; omega) (xs (i + 1)) hR).1) h)
  exact go _ _ ((zR_needed hbp (by have := hB0.2.1; omega) (xs (i + 1)) hR).2)
set_option maxHeartbeats 4000000 in
set_option maxRecDepth 100000 in
theorem law_14 {p : Program} {e : Env} {s : State} {m : MethodId} {below : List Frame} {meth : Method} {c : Code} (l : Launch) {b L : Nat} {xs : Nat → Int32} {D : va_G} {cI cZ : ClassId} {x y : Nat → Nat} {bc bp : Nat} (C0 : zc_Cx p s m #[Value.ref b] meth c b_law 4 R_W D cI cZ (fun q : Nat => s.heap.size ≤ q)) (hX : va_X b L xs s s.heap) (hbl : b < s.heap.size) (hbA : ¬ (fun q : Nat => s.heap.size ≤ q) b) (hL : L < 2 ^ 31) (hB0 : zb_ok bc bp) {i : Nat} {S : zs_S} {M : zm_S} (hi : i + 3 ≤ L) (hR : zR bc bp S M) (go : ∀ S M, zR bc bp S M → zc_Pt p l e room_1 s m #[Value.ref b] below meth c 4 D (fun q : Nat => s.heap.size ≤ q) 22 1361 (lw_Z below #[Value.ref b] s) 458 [(0, .ref b), (1, .ref (x 0)), (2, .ref (y 0)), (3, .int (nI i))] [] (zs_W cI cZ x bc bp S ++ zm_W cI cZ y bc bp M)) : zc_Pt p l e room_1 s m #[Value.ref b] below meth c 4 D (fun q : Nat => s.heap.size ≤ q) 22 1361 (lw_Z below #[Value.ref b] s) 432 [(0, .ref b), (1, .ref (x 0)), (2, .ref (y 0)), (3, .int (nI i))] [] (zs_W cI cZ x bc bp S ++ zm_W cI cZ y bc bp M) := by
  have hbp : 0 < bp := by have := hB0.2.2.1; omega
  have hN : bc * bp ≤ 20 := Nat.mul_le_mul hB0.2.1 hB0.2.2.2
  refine z_aload_n C0 d_law_432 rfl 1 rfl ?_
  refine z_lawS (As := []) (rest := []) (S' := S) C0 (c_S_head l D cI cZ x bc bp S hB0 ) mt_S_head ml_W_83 vt_S_head rfl ⟨Nat.le_of_ble_eq_true rfl, Nat.le_of_ble_eq_true rfl⟩ ⟨rfl, rfl⟩ ⟨Nat.le_of_ble_eq_true rfl, Nat.le_of_ble_eq_true rfl⟩ rfl rfl (Nat.le_of_ble_eq_true rfl) d_law_433 ?_
  refine z_st (stn := [.int (if ss_r S = true then oN (zl_h (ss_L S)) else -2)]) rfl ?_
  refine z_aload_n C0 d_law_436 rfl 2 rfl ?_
  refine z_lawM (As := []) (rest := [.int (if ss_r S = true then oN (zl_h (ss_L S)) else -2)]) (M' := M) C0 (c_M_head l D cI cZ y bc bp M hB0 ) mt_M_head ml_W_86 vt_M_head rfl ⟨Nat.le_of_ble_eq_true rfl, Nat.le_of_ble_eq_true rfl⟩ ⟨rfl, rfl⟩ ⟨Nat.le_of_ble_eq_true rfl, Nat.le_of_ble_eq_true rfl⟩ rfl rfl (Nat.le_of_ble_eq_true rfl) d_law_437 ?_
  refine z_st (stn := [.int (if mm_r M = true then oN (mm_h M) else -2), .int (if ss_r S = true then oN (zl_h (ss_L S)) else -2)]) rfl ?_
  refine z_icmp_eq (tgt := 458) C0 d_law_440 (by decide) (fun _ => ?_) (fun h => absurd (zR_head hR) h)
  exact go _ _ (hR)
set_option maxHeartbeats 4000000 in
set_option maxRecDepth 100000 in
theorem law_15 {p : Program} {e : Env} {s : State} {m : MethodId} {below : List Frame} {meth : Method} {c : Code} (l : Launch) {b L : Nat} {xs : Nat → Int32} {D : va_G} {cI cZ : ClassId} {x y : Nat → Nat} {bc bp : Nat} (C0 : zc_Cx p s m #[Value.ref b] meth c b_law 4 R_W D cI cZ (fun q : Nat => s.heap.size ≤ q)) (hX : va_X b L xs s s.heap) (hbl : b < s.heap.size) (hbA : ¬ (fun q : Nat => s.heap.size ≤ q) b) (hL : L < 2 ^ 31) (hB0 : zb_ok bc bp) {i : Nat} {S : zs_S} {M : zm_S} (hi : i + 3 ≤ L) (hR : zR bc bp S M) (go : ∀ S M, zR bc bp S M → zc_Pt p l e room_1 s m #[Value.ref b] below meth c 4 D (fun q : Nat => s.heap.size ≤ q) 22 1361 (lw_Z below #[Value.ref b] s) 458 [(0, .ref b), (1, .ref (x 0)), (2, .ref (y 0)), (3, .int (nI i))] [] (zs_W cI cZ x bc bp S ++ zm_W cI cZ y bc bp M)) : zc_Pt p l e room_1 s m #[Value.ref b] below meth c 4 D (fun q : Nat => s.heap.size ≤ q) 22 1361 (lw_Z below #[Value.ref b] s) 445 [(0, .ref b), (1, .ref (x 0)), (2, .ref (y 0)), (3, .int (nI i))] [] (zs_W cI cZ x bc bp S ++ zm_W cI cZ y bc bp M) := by
  have hbp : 0 < bp := by have := hB0.2.2.1; omega
  have hN : bc * bp ≤ 20 := Nat.mul_le_mul hB0.2.1 hB0.2.2.2
  refine z_aload_n C0 d_law_445 rfl 1 rfl ?_
  refine z_lawS (As := []) (rest := []) (S' := S) C0 (c_S_acts l D cI cZ x bc bp S hB0 ) mt_S_acts ml_W_87 vt_S_acts rfl ⟨Nat.le_of_ble_eq_true rfl, Nat.le_of_ble_eq_true rfl⟩ ⟨rfl, rfl⟩ ⟨Nat.le_of_ble_eq_true rfl, Nat.le_of_ble_eq_true rfl⟩ rfl rfl (Nat.le_of_ble_eq_true rfl) d_law_446 ?_
  refine z_st (stn := [.int (ss_d S)]) rfl ?_
  refine z_aload_n C0 d_law_449 rfl 2 rfl ?_
  refine z_lawM (As := []) (rest := [.int (ss_d S)]) (M' := M) C0 (c_M_acts l D cI cZ y bc bp M hB0 ) mt_M_acts ml_W_90 vt_M_acts rfl ⟨Nat.le_of_ble_eq_true rfl, Nat.le_of_ble_eq_true rfl⟩ ⟨rfl, rfl⟩ ⟨Nat.le_of_ble_eq_true rfl, Nat.le_of_ble_eq_true rfl⟩ rfl rfl (Nat.le_of_ble_eq_true rfl) d_law_450 ?_
  refine z_st (stn := [.int (mm_n M), .int (ss_d S)]) rfl ?_
  refine z_icmp_eq (tgt := 458) C0 d_law_453 (by decide) (fun _ => ?_) (fun h => absurd (hR.2.1.2.2.1) h)
  exact go _ _ (hR)
