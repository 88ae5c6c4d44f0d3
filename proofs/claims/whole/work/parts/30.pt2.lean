section ZPU
variable {p : Program} {l : Launch} {e : Env} {R : Room} {s : State} {m : MethodId} {args : Array Value} {below : List Frame} {meth : Method} {c : Code} {cells slots : Nat} {Q : State → Prop} {cc : ByteArray} {nL : Nat} {own : String} {D : va_G} {cI cZ : ClassId} {A : Nat → Prop} {pc : Nat} {lv : List (Nat × Value)} {st : List Value} {ws : va_W}
theorem z_nilS (C : zc_Cx p s m args meth c cc nL own D cI cZ A) {y : MethodName} {bts : ByteArray} {maxL idx n : Nat} {ret : Option FieldType} {rm : Room} {As rest : List Value} {ov : Option Value} (hM : zc_Con l y bts maxL ret rm D cI cZ As [] (zo ov [])) (M : zf_M y bts maxL ret n) (hl : Cond.methodLink own idx y ∈ zn_tbl) (V : Cond.static y ∈ zn_tbl) (hR : rm.frames + 1 ≤ R.frames ∧ 8 + (maxL + 11) + rm.locals ≤ R.locals) (hz : rm.cells = 0 ∧ rm.slots = 0) (hf : cells ≤ R.cells ∧ slots ≤ R.slots) (hn : As.length = n) (hst : st = As.reverse ++ rest) (hsum : (rest.map fun v => v.category).sum ≤ 8) (hd : decode cc pc = .ok (.invokestatic idx, 3))
    (k : zc_Pt p l e R s m args below meth c nL D A cells slots Q (pc + 3) lv (ov.toList ++ rest) ws) : zc_Pt p l e R s m args below meth c nL D A cells slots Q pc lv st ws := by
  refine z_callS (wr := ws) C hM M hl V hR (by rw [hz.1, hz.2]; exact hf) hn [] (List.range ws.length) rfl rfl (zc_rng ws) (zc_rng_nd _) (fun _ _ h => by cases h) hst hsum hd ?_
  rintro ov' w' ⟨rfl, rfl⟩
  rw [hz.1, hz.2, List.append_nil]
  exact k
theorem z_nilSN (C : zc_Cx p s m args meth c cc nL own D cI cZ A) {y : MethodName} {bts : ByteArray} {maxL idx n : Nat} {ret : Option FieldType} {rm : Room} {As rest : List Value} {ov : Option Value} (hM : zc_Con l y bts maxL ret rm D cI cZ As [] (zo ov [])) (M : zf_M y bts maxL ret n) {host : String} (hl : Cond.methodLinkNest own idx y host ∈ zn_tbl) (V : Cond.static y ∈ zn_tbl) (hR : rm.frames + 1 ≤ R.frames ∧ 8 + (maxL + 11) + rm.locals ≤ R.locals) (hz : rm.cells = 0 ∧ rm.slots = 0) (hf : cells ≤ R.cells ∧ slots ≤ R.slots) (hn : As.length = n) (hst : st = As.reverse ++ rest) (hsum : (rest.map fun v => v.category).sum ≤ 8) (hd : decode cc pc = .ok (.invokestatic idx, 3))
    (k : zc_Pt p l e R s m args below meth c nL D A cells slots Q (pc + 3) lv (ov.toList ++ rest) ws) : zc_Pt p l e R s m args below meth c nL D A cells slots Q pc lv st ws := by
  refine z_callSN (wr := ws) C hM M hl V hR (by rw [hz.1, hz.2]; exact hf) hn [] (List.range ws.length) rfl rfl (zc_rng ws) (zc_rng_nd _) (fun _ _ h => by cases h) hst hsum hd ?_
  rintro ov' w' ⟨rfl, rfl⟩
  rw [hz.1, hz.2, List.append_nil]
  exact k
theorem z_copy (C : zc_Cx p s m args meth c cc nL own D cI cZ A) {idx : Nat} (hl : Cond.methodLink own idx arraycopyName ∈ zn_tbl) (hnat : Cond.native arraycopyName ∈ zn_tbl) (hstat : Cond.static arraycopyName ∈ zn_tbl) (hini : Cond.initialized "java/lang/System" ∈ zn_tbl) (q0 q1 : Nat) {a0 a n0 n1 sp dp n : Nat} {f g : Nat → Int32} (ha0 : ws[q0]? = some (a0, .inl (cI, n0, .inl f))) (ha1 : ws[q1]? = some (a, .inl (cI, n1, .inl g))) (h4 : sp + n ≤ n0) (h5 : dp + n ≤ n1) (hb0 : n0 < 2 ^ 31) (hb1 : n1 < 2 ^ 31) (hf : 1 ≤ R.frames) (hloc : (st.map fun v => v.category).sum + (nativeFrameWords "java/lang/System" "arraycopy" 5 + 11) ≤ R.locals) (hd : decode cc pc = .ok (.invokestatic idx, 3))
    (k : zc_Pt p l e R s m args below meth c nL D A cells slots Q (pc + 3) lv st (ws.set q1 (a, .inl (cI, n1, .inl (va_cpy f g sp dp n))))) : zc_Pt p l e R s m args below meth c nL D A cells slots Q pc lv (.int (nI n) :: .int (nI dp) :: .ref a :: .int (nI sp) :: .ref a0 :: st) ws := by
  intro H locs ls hP hD hS hlv
  have e1 : (nI sp).toNatClampNeg = sp := nI_clamp (by omega)
  have e2 : (nI dp).toNatClampNeg = dp := nI_clamp (by omega)
  have e3 : (nI n).toNatClampNeg = n := nI_clamp (by omega)
  refine va_copyi (ty := .int) C.1 C.2.1 (C.2.2.1.trans hlv.1.symm) C.2.2.2.1 (C.hts _ hl) (C.hts _ hnat) (C.hts _ hstat) (C.hts _ hini) C.2.2.2.2.2.1 hP hD hS q0 q1 0 0 ha0 ha1 rfl rfl rfl (nI_pos (by omega)) (nI_pos (by omega)) (nI_pos (by omega)) (by rw [e1, e3]; exact h4) (by rw [e2, e3]; exact h5) (fun _ _ => rfl) hf hloc hd (fun H1 locs1 hP1 hD1 hS1 => ?_)
  rw [e1, e2, e3] at hP1 hD1
  exact k H1 locs1 ls hP1 hD1 hS1 hlv
end ZPU
