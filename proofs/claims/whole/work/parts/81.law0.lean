/-! THE CLAIM OUT OF ONE WALK OF THE LAW'S BODY. Your part is whole_start (and what it stands on); all else here is the same for every law, but numbers. -/
def R_law : String := "BitRotStoreLaw"
def lw_P (b : Addr) (xs : List Int32) (args : Array Value) (s : State) : Prop := args = #[.ref b] ∧ s.IntsAt b xs ∧ xs.length ≤ 1538 ∧ (Jvm.Cond.and given_1 narrow_1).before args s = true
def lw_Q (_ : Array Value) (s : State) (o : Outcome) (t : State) : Prop := o = .returned (some (.int 1)) ∧ Framed s o t [] 600000 7302250
def lw_Z (below : List Frame) (a : Array Value) (s : State) : State → Prop := fun t => ∃ o, t.status = .running ∧ Ended t below o ∧ lw_Q a s o t
/-- the law's own end, with 1 on the stack, nothing written that was there before, its room as the claim has it -/
theorem lw_ret {p : Program} {l : Launch} {e : Env} {s : State} {m : MethodId} {below : List Frame} {meth : Method} {c : Code} {b : Nat} (hx : p.tables.exec = Jvm.exec) (hb : c.code = code) (hr : meth.sig.returnType = ret) (hlocks : meth.locks = false) {pc : Nat} {H : Heap} {ls : Array Slot} (hdg : decode code pc = .ok (.ireturn, 1)) : W p l e room_1 s m #[Value.ref b] below meth c H [] 600000 7302250 (lw_Z below #[Value.ref b] s) (F0 m pc ls [.int 1]) := by
  intro T hT X
  obtain ⟨fs, hret, hrun, hended, hW, hframe⟩ := X.leave (v := some (.int 1)) (hlocks := hlocks) (fun h => by rw [hr] at h; cases h)
  have hmeth' : T.vm.method? m = some meth := X.method'
  refine ⟨T.setFrames fs, ?_, .returned (some (.int 1)), hrun, hended, rfl, ⟨_, rfl⟩, hW, hframe⟩
  jvm_step X.here [X.here.top, hx, hb, hdg, hmeth', hr, ret, narrow_b1]
  (try refine ⟨rfl, ?_⟩); (try refine ⟨rfl, ?_⟩)
  first | (intro acts; rw [hret _ acts rfl rfl rfl]) | rw [hret _ _ rfl rfl rfl]
  exact Steps.refl _
/-- what holds at the law's entry: the machine, the code, the tables' words (any of lw_tbl by 'hts w (by decide +kernel)'), the script of L ints xs at the cell b, what the Statement gives of the start (any of its parts by flat_of_before) -/
def lw_At (p : Program) (s : State) (m : MethodId) (meth : Method) (c : Code) (b L : Nat) (xs : Nat → Int32) : Prop :=
  p.tables.exec = Jvm.exec ∧ c.code = code ∧ meth.sig.returnType = ret ∧ c.maxLocals = 4 ∧ s.vm.findClass R_law = some m.cls ∧ (∀ w ∈ lw_tbl, w.before #[Value.ref b] s = true) ∧ va_X b L xs s s.heap ∧ b < s.heap.size ∧ meth.locks = false ∧ (Jvm.Cond.and given_1 narrow_1).before #[Value.ref b] s = true
theorem d_W_cell_0 : decode b_W_cell 0 = .ok (.iload_n 1, 1) := by decide +kernel
theorem d_W_cell_1 : decode b_W_cell 1 = .ok (.aload_n 0, 1) := by decide +kernel
theorem d_W_cell_2 : decode b_W_cell 2 = .ok (.arraylength, 1) := by decide +kernel
theorem d_W_cell_3 : decode b_W_cell 3 = .ok (.if_icmp .ge 9, 3) := by decide +kernel
theorem d_W_cell_6 : decode b_W_cell 6 = .ok (.aload_n 0, 1) := by decide +kernel
theorem d_W_cell_7 : decode b_W_cell 7 = .ok (.iload_n 1, 1) := by decide +kernel
theorem d_W_cell_8 : decode b_W_cell 8 = .ok (.iaload, 1) := by decide +kernel
theorem d_W_cell_9 : decode b_W_cell 9 = .ok (.goto 4, 3) := by decide +kernel
theorem d_W_cell_12 : decode b_W_cell 12 = .ok (.iconst 0, 1) := by decide +kernel
theorem d_W_cell_13 : decode b_W_cell 13 = .ok (.ireturn, 1) := by decide +kernel
theorem d_law_0 : decode b_law 0 = .ok (.new 7, 3) := by decide +kernel
theorem d_law_3 : decode b_law 3 = .ok (.dup, 1) := by decide +kernel
theorem d_law_4 : decode b_law 4 = .ok (.aload_n 0, 1) := by decide +kernel
theorem d_law_5 : decode b_law 5 = .ok (.iconst 0, 1) := by decide +kernel
theorem d_law_6 : decode b_law 6 = .ok (.invokestatic 9, 3) := by decide +kernel
theorem d_law_9 : decode b_law 9 = .ok (.aload_n 0, 1) := by decide +kernel
theorem d_law_10 : decode b_law 10 = .ok (.iconst 1, 1) := by decide +kernel
theorem d_law_11 : decode b_law 11 = .ok (.invokestatic 9, 3) := by decide +kernel
theorem d_law_14 : decode b_law 14 = .ok (.invokespecial 15, 3) := by decide +kernel
theorem d_law_17 : decode b_law 17 = .ok (.astore_n 1, 1) := by decide +kernel
theorem d_law_18 : decode b_law 18 = .ok (.new 18, 3) := by decide +kernel
theorem d_law_21 : decode b_law 21 = .ok (.dup, 1) := by decide +kernel
theorem d_law_22 : decode b_law 22 = .ok (.aload_n 0, 1) := by decide +kernel
theorem d_law_23 : decode b_law 23 = .ok (.iconst 0, 1) := by decide +kernel
theorem d_law_24 : decode b_law 24 = .ok (.invokestatic 9, 3) := by decide +kernel
theorem d_law_27 : decode b_law 27 = .ok (.aload_n 0, 1) := by decide +kernel
theorem d_law_28 : decode b_law 28 = .ok (.iconst 1, 1) := by decide +kernel
theorem d_law_29 : decode b_law 29 = .ok (.invokestatic 9, 3) := by decide +kernel
theorem d_law_32 : decode b_law 32 = .ok (.invokespecial 20, 3) := by decide +kernel
theorem d_law_35 : decode b_law 35 = .ok (.astore_n 2, 1) := by decide +kernel
theorem d_law_36 : decode b_law 36 = .ok (.iconst 2, 1) := by decide +kernel
theorem d_law_37 : decode b_law 37 = .ok (.istore_n 3, 1) := by decide +kernel
theorem d_law_38 : decode b_law 38 = .ok (.iload_n 3, 1) := by decide +kernel
theorem d_law_39 : decode b_law 39 = .ok (.aload_n 0, 1) := by decide +kernel
theorem d_law_40 : decode b_law 40 = .ok (.arraylength, 1) := by decide +kernel
theorem d_law_41 : decode b_law 41 = .ok (.iconst 3, 1) := by decide +kernel
theorem d_law_42 : decode b_law 42 = .ok (.isub, 1) := by decide +kernel
theorem d_law_43 : decode b_law 43 = .ok (.if_icmp .gt 421, 3) := by decide +kernel
theorem d_law_46 : decode b_law 46 = .ok (.aload_n 0, 1) := by decide +kernel
theorem d_law_47 : decode b_law 47 = .ok (.iload_n 3, 1) := by decide +kernel
theorem d_law_48 : decode b_law 48 = .ok (.iaload, 1) := by decide +kernel
theorem d_law_49 : decode b_law 49 = .ok (.bipush 15, 2) := by decide +kernel
theorem d_law_51 : decode b_law 51 = .ok (.iand, 1) := by decide +kernel
theorem d_law_52 : decode b_law 52 = .ok (.tableswitch 406 0 15 #[80, 91, 104, 137, 160, 183, 206, 219, 252, 265, 288, 301, 324, 357, 380, 393], 80) := by decide +kernel
theorem d_law_132 : decode b_law 132 = .ok (.aload_n 1, 1) := by decide +kernel
theorem d_law_133 : decode b_law 133 = .ok (.invokevirtual 21, 3) := by decide +kernel
theorem d_law_136 : decode b_law 136 = .ok (.aload_n 2, 1) := by decide +kernel
theorem d_law_137 : decode b_law 137 = .ok (.invokevirtual 24, 3) := by decide +kernel
theorem d_law_140 : decode b_law 140 = .ok (.goto 318, 3) := by decide +kernel
theorem d_law_143 : decode b_law 143 = .ok (.aload_n 1, 1) := by decide +kernel
theorem d_law_144 : decode b_law 144 = .ok (.invokevirtual 25, 3) := by decide +kernel
theorem d_law_147 : decode b_law 147 = .ok (.aload_n 2, 1) := by decide +kernel
theorem d_law_148 : decode b_law 148 = .ok (.invokevirtual 29, 3) := by decide +kernel
theorem d_law_151 : decode b_law 151 = .ok (.if_icmp .eq 307, 3) := by decide +kernel
theorem d_law_154 : decode b_law 154 = .ok (.iconst 0, 1) := by decide +kernel
theorem d_law_155 : decode b_law 155 = .ok (.ireturn, 1) := by decide +kernel
theorem d_law_156 : decode b_law 156 = .ok (.aload_n 1, 1) := by decide +kernel
theorem d_law_157 : decode b_law 157 = .ok (.aload_n 0, 1) := by decide +kernel
theorem d_law_158 : decode b_law 158 = .ok (.iload_n 3, 1) := by decide +kernel
theorem d_law_159 : decode b_law 159 = .ok (.iconst 1, 1) := by decide +kernel
theorem d_law_160 : decode b_law 160 = .ok (.iadd, 1) := by decide +kernel
theorem d_law_161 : decode b_law 161 = .ok (.iaload, 1) := by decide +kernel
theorem d_law_162 : decode b_law 162 = .ok (.aload_n 0, 1) := by decide +kernel
theorem d_law_163 : decode b_law 163 = .ok (.iload_n 3, 1) := by decide +kernel
theorem d_law_164 : decode b_law 164 = .ok (.iconst 2, 1) := by decide +kernel
theorem d_law_165 : decode b_law 165 = .ok (.iadd, 1) := by decide +kernel
theorem d_law_166 : decode b_law 166 = .ok (.iaload, 1) := by decide +kernel
theorem d_law_167 : decode b_law 167 = .ok (.invokevirtual 30, 3) := by decide +kernel
theorem d_law_170 : decode b_law 170 = .ok (.aload_n 2, 1) := by decide +kernel
theorem d_law_171 : decode b_law 171 = .ok (.aload_n 0, 1) := by decide +kernel
theorem d_law_172 : decode b_law 172 = .ok (.iload_n 3, 1) := by decide +kernel
theorem d_law_173 : decode b_law 173 = .ok (.iconst 1, 1) := by decide +kernel
theorem d_law_174 : decode b_law 174 = .ok (.iadd, 1) := by decide +kernel
theorem d_law_175 : decode b_law 175 = .ok (.iaload, 1) := by decide +kernel
theorem d_law_176 : decode b_law 176 = .ok (.aload_n 0, 1) := by decide +kernel
theorem d_law_177 : decode b_law 177 = .ok (.iload_n 3, 1) := by decide +kernel
theorem d_law_178 : decode b_law 178 = .ok (.iconst 2, 1) := by decide +kernel
theorem d_law_179 : decode b_law 179 = .ok (.iadd, 1) := by decide +kernel
theorem d_law_180 : decode b_law 180 = .ok (.iaload, 1) := by decide +kernel
theorem d_law_181 : decode b_law 181 = .ok (.invokevirtual 34, 3) := by decide +kernel
theorem d_law_184 : decode b_law 184 = .ok (.if_icmp .eq 274, 3) := by decide +kernel
theorem d_law_187 : decode b_law 187 = .ok (.iconst 0, 1) := by decide +kernel
theorem d_law_188 : decode b_law 188 = .ok (.ireturn, 1) := by decide +kernel
theorem d_law_189 : decode b_law 189 = .ok (.aload_n 1, 1) := by decide +kernel
theorem d_law_190 : decode b_law 190 = .ok (.aload_n 0, 1) := by decide +kernel
theorem d_law_191 : decode b_law 191 = .ok (.iload_n 3, 1) := by decide +kernel
theorem d_law_192 : decode b_law 192 = .ok (.iconst 1, 1) := by decide +kernel
theorem d_law_193 : decode b_law 193 = .ok (.iadd, 1) := by decide +kernel
theorem d_law_194 : decode b_law 194 = .ok (.iaload, 1) := by decide +kernel
theorem d_law_195 : decode b_law 195 = .ok (.invokevirtual 35, 3) := by decide +kernel
theorem d_law_198 : decode b_law 198 = .ok (.aload_n 2, 1) := by decide +kernel
theorem d_law_199 : decode b_law 199 = .ok (.aload_n 0, 1) := by decide +kernel
theorem d_law_200 : decode b_law 200 = .ok (.iload_n 3, 1) := by decide +kernel
theorem d_law_201 : decode b_law 201 = .ok (.iconst 1, 1) := by decide +kernel
theorem d_law_202 : decode b_law 202 = .ok (.iadd, 1) := by decide +kernel
theorem d_law_203 : decode b_law 203 = .ok (.iaload, 1) := by decide +kernel
theorem d_law_204 : decode b_law 204 = .ok (.invokevirtual 39, 3) := by decide +kernel
theorem d_law_207 : decode b_law 207 = .ok (.if_icmp .eq 251, 3) := by decide +kernel
theorem d_law_210 : decode b_law 210 = .ok (.iconst 0, 1) := by decide +kernel
theorem d_law_211 : decode b_law 211 = .ok (.ireturn, 1) := by decide +kernel
theorem d_law_212 : decode b_law 212 = .ok (.aload_n 1, 1) := by decide +kernel
theorem d_law_213 : decode b_law 213 = .ok (.aload_n 0, 1) := by decide +kernel
theorem d_law_214 : decode b_law 214 = .ok (.iload_n 3, 1) := by decide +kernel
theorem d_law_215 : decode b_law 215 = .ok (.iconst 1, 1) := by decide +kernel
theorem d_law_216 : decode b_law 216 = .ok (.iadd, 1) := by decide +kernel
theorem d_law_217 : decode b_law 217 = .ok (.iaload, 1) := by decide +kernel
theorem d_law_218 : decode b_law 218 = .ok (.invokevirtual 40, 3) := by decide +kernel
theorem d_law_221 : decode b_law 221 = .ok (.aload_n 2, 1) := by decide +kernel
theorem d_law_222 : decode b_law 222 = .ok (.aload_n 0, 1) := by decide +kernel
theorem d_law_223 : decode b_law 223 = .ok (.iload_n 3, 1) := by decide +kernel
theorem d_law_224 : decode b_law 224 = .ok (.iconst 1, 1) := by decide +kernel
theorem d_law_225 : decode b_law 225 = .ok (.iadd, 1) := by decide +kernel
theorem d_law_226 : decode b_law 226 = .ok (.iaload, 1) := by decide +kernel
theorem d_law_227 : decode b_law 227 = .ok (.invokevirtual 44, 3) := by decide +kernel
theorem d_law_230 : decode b_law 230 = .ok (.if_icmp .eq 228, 3) := by decide +kernel
theorem d_law_233 : decode b_law 233 = .ok (.iconst 0, 1) := by decide +kernel
theorem d_law_234 : decode b_law 234 = .ok (.ireturn, 1) := by decide +kernel
theorem d_law_235 : decode b_law 235 = .ok (.aload_n 1, 1) := by decide +kernel
theorem d_law_236 : decode b_law 236 = .ok (.aload_n 0, 1) := by decide +kernel
theorem d_law_237 : decode b_law 237 = .ok (.iload_n 3, 1) := by decide +kernel
theorem d_law_238 : decode b_law 238 = .ok (.iconst 1, 1) := by decide +kernel
theorem d_law_239 : decode b_law 239 = .ok (.iadd, 1) := by decide +kernel
theorem d_law_240 : decode b_law 240 = .ok (.iaload, 1) := by decide +kernel
theorem d_law_241 : decode b_law 241 = .ok (.invokevirtual 45, 3) := by decide +kernel
theorem d_law_244 : decode b_law 244 = .ok (.aload_n 2, 1) := by decide +kernel
theorem d_law_245 : decode b_law 245 = .ok (.aload_n 0, 1) := by decide +kernel
theorem d_law_246 : decode b_law 246 = .ok (.iload_n 3, 1) := by decide +kernel
theorem d_law_247 : decode b_law 247 = .ok (.iconst 1, 1) := by decide +kernel
theorem d_law_248 : decode b_law 248 = .ok (.iadd, 1) := by decide +kernel
theorem d_law_249 : decode b_law 249 = .ok (.iaload, 1) := by decide +kernel
theorem d_law_250 : decode b_law 250 = .ok (.invokevirtual 48, 3) := by decide +kernel
theorem d_law_253 : decode b_law 253 = .ok (.if_icmp .eq 205, 3) := by decide +kernel
theorem d_law_256 : decode b_law 256 = .ok (.iconst 0, 1) := by decide +kernel
theorem d_law_257 : decode b_law 257 = .ok (.ireturn, 1) := by decide +kernel
theorem d_law_258 : decode b_law 258 = .ok (.aload_n 1, 1) := by decide +kernel
theorem d_law_259 : decode b_law 259 = .ok (.invokevirtual 49, 3) := by decide +kernel
theorem d_law_262 : decode b_law 262 = .ok (.aload_n 2, 1) := by decide +kernel
theorem d_law_263 : decode b_law 263 = .ok (.invokevirtual 52, 3) := by decide +kernel
theorem d_law_266 : decode b_law 266 = .ok (.if_icmp .eq 192, 3) := by decide +kernel
theorem d_law_269 : decode b_law 269 = .ok (.iconst 0, 1) := by decide +kernel
theorem d_law_270 : decode b_law 270 = .ok (.ireturn, 1) := by decide +kernel
theorem d_law_271 : decode b_law 271 = .ok (.aload_n 1, 1) := by decide +kernel
theorem d_law_272 : decode b_law 272 = .ok (.aload_n 0, 1) := by decide +kernel
theorem d_law_273 : decode b_law 273 = .ok (.iload_n 3, 1) := by decide +kernel
theorem d_law_274 : decode b_law 274 = .ok (.iconst 1, 1) := by decide +kernel
theorem d_law_275 : decode b_law 275 = .ok (.iadd, 1) := by decide +kernel
theorem d_law_276 : decode b_law 276 = .ok (.iaload, 1) := by decide +kernel
theorem d_law_277 : decode b_law 277 = .ok (.aload_n 0, 1) := by decide +kernel
theorem d_law_278 : decode b_law 278 = .ok (.iload_n 3, 1) := by decide +kernel
theorem d_law_279 : decode b_law 279 = .ok (.iconst 2, 1) := by decide +kernel
theorem d_law_280 : decode b_law 280 = .ok (.iadd, 1) := by decide +kernel
theorem d_law_281 : decode b_law 281 = .ok (.iaload, 1) := by decide +kernel
theorem d_law_282 : decode b_law 282 = .ok (.invokevirtual 53, 3) := by decide +kernel
theorem d_law_285 : decode b_law 285 = .ok (.aload_n 2, 1) := by decide +kernel
theorem d_law_286 : decode b_law 286 = .ok (.aload_n 0, 1) := by decide +kernel
theorem d_law_287 : decode b_law 287 = .ok (.iload_n 3, 1) := by decide +kernel
theorem d_law_288 : decode b_law 288 = .ok (.iconst 1, 1) := by decide +kernel
theorem d_law_289 : decode b_law 289 = .ok (.iadd, 1) := by decide +kernel
theorem d_law_290 : decode b_law 290 = .ok (.iaload, 1) := by decide +kernel
theorem d_law_291 : decode b_law 291 = .ok (.aload_n 0, 1) := by decide +kernel
theorem d_law_292 : decode b_law 292 = .ok (.iload_n 3, 1) := by decide +kernel
theorem d_law_293 : decode b_law 293 = .ok (.iconst 2, 1) := by decide +kernel
theorem d_law_294 : decode b_law 294 = .ok (.iadd, 1) := by decide +kernel
theorem d_law_295 : decode b_law 295 = .ok (.iaload, 1) := by decide +kernel
theorem d_law_296 : decode b_law 296 = .ok (.invokevirtual 57, 3) := by decide +kernel
theorem d_law_299 : decode b_law 299 = .ok (.if_icmp .eq 159, 3) := by decide +kernel
theorem d_law_302 : decode b_law 302 = .ok (.iconst 0, 1) := by decide +kernel
theorem d_law_303 : decode b_law 303 = .ok (.ireturn, 1) := by decide +kernel
theorem d_law_304 : decode b_law 304 = .ok (.aload_n 1, 1) := by decide +kernel
theorem d_law_305 : decode b_law 305 = .ok (.invokevirtual 58, 3) := by decide +kernel
theorem d_law_308 : decode b_law 308 = .ok (.aload_n 2, 1) := by decide +kernel
theorem d_law_309 : decode b_law 309 = .ok (.invokevirtual 61, 3) := by decide +kernel
theorem d_law_312 : decode b_law 312 = .ok (.if_icmp .eq 146, 3) := by decide +kernel
theorem d_law_315 : decode b_law 315 = .ok (.iconst 0, 1) := by decide +kernel
theorem d_law_316 : decode b_law 316 = .ok (.ireturn, 1) := by decide +kernel
theorem d_law_317 : decode b_law 317 = .ok (.aload_n 1, 1) := by decide +kernel
theorem d_law_318 : decode b_law 318 = .ok (.aload_n 0, 1) := by decide +kernel
theorem d_law_319 : decode b_law 319 = .ok (.iload_n 3, 1) := by decide +kernel
theorem d_law_320 : decode b_law 320 = .ok (.iconst 1, 1) := by decide +kernel
theorem d_law_321 : decode b_law 321 = .ok (.iadd, 1) := by decide +kernel
theorem d_law_322 : decode b_law 322 = .ok (.iaload, 1) := by decide +kernel
theorem d_law_323 : decode b_law 323 = .ok (.invokevirtual 62, 3) := by decide +kernel
theorem d_law_326 : decode b_law 326 = .ok (.aload_n 2, 1) := by decide +kernel
theorem d_law_327 : decode b_law 327 = .ok (.aload_n 0, 1) := by decide +kernel
theorem d_law_328 : decode b_law 328 = .ok (.iload_n 3, 1) := by decide +kernel
theorem d_law_329 : decode b_law 329 = .ok (.iconst 1, 1) := by decide +kernel
theorem d_law_330 : decode b_law 330 = .ok (.iadd, 1) := by decide +kernel
theorem d_law_331 : decode b_law 331 = .ok (.iaload, 1) := by decide +kernel
theorem d_law_332 : decode b_law 332 = .ok (.invokevirtual 65, 3) := by decide +kernel
theorem d_law_335 : decode b_law 335 = .ok (.if_icmp .eq 123, 3) := by decide +kernel
theorem d_law_338 : decode b_law 338 = .ok (.iconst 0, 1) := by decide +kernel
theorem d_law_339 : decode b_law 339 = .ok (.ireturn, 1) := by decide +kernel
theorem d_law_340 : decode b_law 340 = .ok (.aload_n 1, 1) := by decide +kernel
theorem d_law_341 : decode b_law 341 = .ok (.invokevirtual 66, 3) := by decide +kernel
theorem d_law_344 : decode b_law 344 = .ok (.aload_n 2, 1) := by decide +kernel
theorem d_law_345 : decode b_law 345 = .ok (.invokevirtual 70, 3) := by decide +kernel
theorem d_law_348 : decode b_law 348 = .ok (.if_icmp .eq 110, 3) := by decide +kernel
theorem d_law_351 : decode b_law 351 = .ok (.iconst 0, 1) := by decide +kernel
theorem d_law_352 : decode b_law 352 = .ok (.ireturn, 1) := by decide +kernel
theorem d_law_353 : decode b_law 353 = .ok (.aload_n 1, 1) := by decide +kernel
theorem d_law_354 : decode b_law 354 = .ok (.aload_n 0, 1) := by decide +kernel
theorem d_law_355 : decode b_law 355 = .ok (.iload_n 3, 1) := by decide +kernel
theorem d_law_356 : decode b_law 356 = .ok (.iconst 1, 1) := by decide +kernel
theorem d_law_357 : decode b_law 357 = .ok (.iadd, 1) := by decide +kernel
theorem d_law_358 : decode b_law 358 = .ok (.iaload, 1) := by decide +kernel
theorem d_law_359 : decode b_law 359 = .ok (.invokevirtual 71, 3) := by decide +kernel
theorem d_law_362 : decode b_law 362 = .ok (.aload_n 2, 1) := by decide +kernel
theorem d_law_363 : decode b_law 363 = .ok (.aload_n 0, 1) := by decide +kernel
theorem d_law_364 : decode b_law 364 = .ok (.iload_n 3, 1) := by decide +kernel
theorem d_law_365 : decode b_law 365 = .ok (.iconst 1, 1) := by decide +kernel
theorem d_law_366 : decode b_law 366 = .ok (.iadd, 1) := by decide +kernel
theorem d_law_367 : decode b_law 367 = .ok (.iaload, 1) := by decide +kernel
theorem d_law_368 : decode b_law 368 = .ok (.invokevirtual 74, 3) := by decide +kernel
theorem d_law_371 : decode b_law 371 = .ok (.if_icmp .eq 87, 3) := by decide +kernel
theorem d_law_374 : decode b_law 374 = .ok (.iconst 0, 1) := by decide +kernel
theorem d_law_375 : decode b_law 375 = .ok (.ireturn, 1) := by decide +kernel
theorem d_law_376 : decode b_law 376 = .ok (.aload_n 1, 1) := by decide +kernel
theorem d_law_377 : decode b_law 377 = .ok (.aload_n 0, 1) := by decide +kernel
theorem d_law_378 : decode b_law 378 = .ok (.iload_n 3, 1) := by decide +kernel
theorem d_law_379 : decode b_law 379 = .ok (.iconst 1, 1) := by decide +kernel
theorem d_law_380 : decode b_law 380 = .ok (.iadd, 1) := by decide +kernel
theorem d_law_381 : decode b_law 381 = .ok (.iaload, 1) := by decide +kernel
theorem d_law_382 : decode b_law 382 = .ok (.aload_n 0, 1) := by decide +kernel
theorem d_law_383 : decode b_law 383 = .ok (.iload_n 3, 1) := by decide +kernel
theorem d_law_384 : decode b_law 384 = .ok (.iconst 2, 1) := by decide +kernel
theorem d_law_385 : decode b_law 385 = .ok (.iadd, 1) := by decide +kernel
theorem d_law_386 : decode b_law 386 = .ok (.iaload, 1) := by decide +kernel
theorem d_law_387 : decode b_law 387 = .ok (.invokevirtual 75, 3) := by decide +kernel
theorem d_law_390 : decode b_law 390 = .ok (.aload_n 2, 1) := by decide +kernel
theorem d_law_391 : decode b_law 391 = .ok (.aload_n 0, 1) := by decide +kernel
theorem d_law_392 : decode b_law 392 = .ok (.iload_n 3, 1) := by decide +kernel
theorem d_law_393 : decode b_law 393 = .ok (.iconst 1, 1) := by decide +kernel
theorem d_law_394 : decode b_law 394 = .ok (.iadd, 1) := by decide +kernel
theorem d_law_395 : decode b_law 395 = .ok (.iaload, 1) := by decide +kernel
theorem d_law_396 : decode b_law 396 = .ok (.aload_n 0, 1) := by decide +kernel
theorem d_law_397 : decode b_law 397 = .ok (.iload_n 3, 1) := by decide +kernel
theorem d_law_398 : decode b_law 398 = .ok (.iconst 2, 1) := by decide +kernel
theorem d_law_399 : decode b_law 399 = .ok (.iadd, 1) := by decide +kernel
theorem d_law_400 : decode b_law 400 = .ok (.iaload, 1) := by decide +kernel
theorem d_law_401 : decode b_law 401 = .ok (.invokevirtual 78, 3) := by decide +kernel
theorem d_law_404 : decode b_law 404 = .ok (.if_icmp .eq 54, 3) := by decide +kernel
theorem d_law_407 : decode b_law 407 = .ok (.iconst 0, 1) := by decide +kernel
theorem d_law_408 : decode b_law 408 = .ok (.ireturn, 1) := by decide +kernel
theorem d_law_409 : decode b_law 409 = .ok (.aload_n 1, 1) := by decide +kernel
theorem d_law_410 : decode b_law 410 = .ok (.aload_n 0, 1) := by decide +kernel
theorem d_law_411 : decode b_law 411 = .ok (.iload_n 3, 1) := by decide +kernel
theorem d_law_412 : decode b_law 412 = .ok (.iconst 1, 1) := by decide +kernel
theorem d_law_413 : decode b_law 413 = .ok (.iadd, 1) := by decide +kernel
theorem d_law_414 : decode b_law 414 = .ok (.iaload, 1) := by decide +kernel
theorem d_law_415 : decode b_law 415 = .ok (.invokevirtual 79, 3) := by decide +kernel
theorem d_law_418 : decode b_law 418 = .ok (.aload_n 2, 1) := by decide +kernel
theorem d_law_419 : decode b_law 419 = .ok (.aload_n 0, 1) := by decide +kernel
theorem d_law_420 : decode b_law 420 = .ok (.iload_n 3, 1) := by decide +kernel
theorem d_law_421 : decode b_law 421 = .ok (.iconst 1, 1) := by decide +kernel
theorem d_law_422 : decode b_law 422 = .ok (.iadd, 1) := by decide +kernel
theorem d_law_423 : decode b_law 423 = .ok (.iaload, 1) := by decide +kernel
theorem d_law_424 : decode b_law 424 = .ok (.invokevirtual 82, 3) := by decide +kernel
theorem d_law_427 : decode b_law 427 = .ok (.if_icmp .eq 31, 3) := by decide +kernel
theorem d_law_430 : decode b_law 430 = .ok (.iconst 0, 1) := by decide +kernel
theorem d_law_431 : decode b_law 431 = .ok (.ireturn, 1) := by decide +kernel
theorem d_law_432 : decode b_law 432 = .ok (.aload_n 1, 1) := by decide +kernel
theorem d_law_433 : decode b_law 433 = .ok (.invokevirtual 83, 3) := by decide +kernel
theorem d_law_436 : decode b_law 436 = .ok (.aload_n 2, 1) := by decide +kernel
theorem d_law_437 : decode b_law 437 = .ok (.invokevirtual 86, 3) := by decide +kernel
theorem d_law_440 : decode b_law 440 = .ok (.if_icmp .eq 18, 3) := by decide +kernel
theorem d_law_443 : decode b_law 443 = .ok (.iconst 0, 1) := by decide +kernel
theorem d_law_444 : decode b_law 444 = .ok (.ireturn, 1) := by decide +kernel
theorem d_law_445 : decode b_law 445 = .ok (.aload_n 1, 1) := by decide +kernel
theorem d_law_446 : decode b_law 446 = .ok (.invokevirtual 87, 3) := by decide +kernel
theorem d_law_449 : decode b_law 449 = .ok (.aload_n 2, 1) := by decide +kernel
theorem d_law_450 : decode b_law 450 = .ok (.invokevirtual 90, 3) := by decide +kernel
theorem d_law_453 : decode b_law 453 = .ok (.if_icmp .eq 5, 3) := by decide +kernel
theorem d_law_456 : decode b_law 456 = .ok (.iconst 0, 1) := by decide +kernel
theorem d_law_457 : decode b_law 457 = .ok (.ireturn, 1) := by decide +kernel
theorem d_law_458 : decode b_law 458 = .ok (.iinc 3 3, 3) := by decide +kernel
theorem d_law_461 : decode b_law 461 = .ok (.goto (-423), 3) := by decide +kernel
theorem d_law_464 : decode b_law 464 = .ok (.iconst 1, 1) := by decide +kernel
theorem d_law_465 : decode b_law 465 = .ok (.ireturn, 1) := by decide +kernel
section ZLW
variable {p : Program} {l : Launch} {e : Env} {R : Room} {s : State} {m : MethodId} {args : Array Value} {below : List Frame} {meth : Method} {c : Code} {cells slots : Nat} {Q : State → Prop} {cc : ByteArray} {nL : Nat} {own : String} {D : va_G} {cI cZ : ClassId} {A : Nat → Prop} {pc : Nat} {lv : List (Nat × Value)} {st : List Value} {ws : va_W}
theorem z_slen (C : zc_Cx p s m args meth c cc nL own D cI cZ A) {b L : Nat} {xs : Nat → Int32} (hX : va_X b L xs s s.heap) (hbl : b < s.heap.size) (hbA : ¬ A b) (hd : decode cc pc = .ok (.arraylength, 1)) (k : zc_Pt p l e R s m args below meth c nL D A cells slots Q (pc + 1) lv (.int (nI L) :: st) ws) : zc_Pt p l e R s m args below meth c nL D A cells slots Q pc lv (.ref b :: st) ws := fun H locs ls hP hD hS hlv => va_slen C.1 C.2.1 hX hbl hbA hS hd (k H locs ls hP hD hS hlv)
theorem z_sld (C : zc_Cx p s m args meth c cc nL own D cI cZ A) {b L i : Nat} {xs : Nat → Int32} (hX : va_X b L xs s s.heap) (hbl : b < s.heap.size) (hbA : ¬ A b) (hi : i < L) (hL : L < 2 ^ 31) (hd : decode cc pc = .ok (.iaload, 1)) (k : zc_Pt p l e R s m args below meth c nL D A cells slots Q (pc + 1) lv (.int (xs i) :: st) ws) : zc_Pt p l e R s m args below meth c nL D A cells slots Q pc lv (.int (nI i) :: .ref b :: st) ws := fun H locs ls hP hD hS hlv => va_sld C.1 C.2.1 hX hbl hbA hS (vp_in_nI hi hL) hd (by rw [nI_clamp (Nat.lt_trans hi hL)]; exact k H locs ls hP hD hS hlv)
def zx_B (D : va_G) (cI cZ : ClassId) (b L : Nat) (xs : Nat → Int32) (sz : Nat) : State → Prop := fun U => U.heap.size = sz ∧ zn_T U ∧ va_K D classes (zc_tys cI cZ) U ∧ va_X b L xs U U.heap ∧ b < U.heap.size
def zx_Con (l : Launch) (y : MethodName) (bts : ByteArray) (maxL : Nat) (ret : Option FieldType) (rm : Room) (D : va_G) (cI cZ : ClassId) (b L : Nat) (xs : Nat → Int32) (av : List Value) (ov : Option Value) : Prop :=
  ∀ sz : Nat, Met l y [.code y bts maxL ret] rm (va_Pc av (zx_B D cI cZ b L xs sz)) (zc_Q D (zo ov []) [] sz) rm.cells rm.slots (va_A [] sz)
theorem zx_blind {D : va_G} {cI cZ : ClassId} {b L : Nat} {xs : Nat → Int32} {sz : Nat} {av : List Value} : FrameBlind (va_Pc av (zx_B D cI cZ b L xs sz)) := fun a U g mk q => by
  obtain ⟨q0, q1, qT, qK, qX, qb⟩ := q
  exact ⟨q0, q1, zn_T.warm (s := U) (U := U.calling g mk a) (State.WarmedH.refl U) qT, va_K.moved (u := U) (U := U.calling g mk a) (Vm.Alike.refl U.vm) qK, va_X.moved (u := U) (U := U.calling g mk a) (Vm.Alike.refl U.vm) qX, qb⟩
theorem zx_nilP {D : va_G} {H : Heap} : va_P D classes [] H := fun k q h => by simp at h
theorem zx_nilD {A : Nat → Prop} : va_D A [] := ⟨fun i j p q h => by simp at h, fun k q h => by simp at h⟩
theorem zx_start {bts : ByteArray} {y : MethodName} {ret : Option FieldType} {rm : Room} {av : List Value} {b L : Nat} {xs : Nat → Int32} {ov : Option Value} (hy : plainName y.cls = true) (hav : (lg_sl av).length ≤ nL)
    (body : ∀ (p : Program) (e : Env) (s : State) (m : MethodId) (args : Array Value) (below : List Frame) (meth : Method) (c : Code) (A : Nat → Prop) (Q : State → Prop), A = va_A [] s.heap.size → Q = MQ below (zc_Q D (zo ov []) [] s.heap.size) args s rm.cells rm.slots A → zc_Cx p s m args meth c bts nL y.cls D cI cZ A → meth.sig.returnType = ret → va_X b L xs s s.heap → b < s.heap.size → ¬ A b → zc_Pt p l e rm s m args below meth c nL D A 0 0 Q 0 (lv_args 0 av) [] []) : zx_Con l y bts nL ret rm D cI cZ b L xs av ov := by
  intro sz
  refine Met.ofW (cc := bts) (maxL := nL) (ret := ret) hy rfl ?_
  intro p e s m args below meth c s₁ B hml hv
  obtain ⟨rfl, hsz, hT, hK, hX, hbl⟩ := hv
  subst hsz
  have hown : s.vm.findClass y.cls = some m.cls := findClass_of_methodNamed B.named
  have hl := lv_entry av (n := nL) hav
  rw [lg_entry_eq]
  exact body p e s m _ below meth c _ _ rfl rfl ⟨B.exec, B.bytes, hml, hown, hT, hK, fun q h => Or.inr h, B.notSynchronized⟩ B.returns hX hbl (fun z => by rcases z with ⟨k, e, h⟩ | h; (simp at h); exact absurd hbl (Nat.not_lt.mpr h)) s.heap [] _ zx_nilP zx_nilD va_S.rf hl
theorem z_xcall (C : zc_Cx p s m args meth c cc nL own D cI cZ A) {b L : Nat} {xs : Nat → Int32} (hX : va_X b L xs s s.heap) (hbl : b < s.heap.size) (hbA : ¬ A b) {y : MethodName} {bts : ByteArray} {maxL idx n : Nat} {ret : Option FieldType} {rm : Room} {As rest : List Value} {ov : Option Value} (hM : zx_Con l y bts maxL ret rm D cI cZ b L xs As ov) (M : zf_M y bts maxL ret n) (hl : Cond.methodLink own idx y ∈ zn_tbl) (V : Cond.static y ∈ zn_tbl) (hR : rm.frames + 1 ≤ R.frames ∧ 8 + (maxL + 11) + rm.locals ≤ R.locals) (hz : rm.cells = 0 ∧ rm.slots = 0) (hf : cells ≤ R.cells ∧ slots ≤ R.slots) (hn : As.length = n) (hst : st = As.reverse ++ rest) (hsum : (rest.map fun v => v.category).sum ≤ 8) (hd : decode cc pc = .ok (.invokestatic idx, 3))
    (k : zc_Pt p l e R s m args below meth c nL D A cells slots Q (pc + 3) lv (ov.toList ++ rest) ws) : zc_Pt p l e R s m args below meth c nL D A cells slots Q pc lv st ws := by
  intro H locs ls hP hD hS hlv
  have hFc := va_free (wc := []) hD hS C.2.2.2.2.2.2.1 [] rfl
  have hH : H[b]? = s.heap[b]? := hS.2.1 b hbl hbA
  have hPre : PreS s H (va_Pc As (zx_B D cI cZ b L xs H.size)) As := ⟨zx_blind, fun U hU hW => ⟨rfl, by rw [hU], C.2.2.2.2.1.warm hW, va_K.moved hW.alike C.2.2.2.2.2.1, by rw [hU]; exact (hX.kept hH).moved hW.alike, by rw [hU]; exact Nat.lt_of_lt_of_le hbl hS.1⟩⟩
  refine zc_after (st0 := st) (OUT := zo ov []) (win := []) (va_runS (As := As) (rest := rest) (Ts := zn_tbl) (own := own) ⟨C.1, C.2.1, C.2.2.1, C.2.2.2.1, C.hts⟩ (hM H.size) ⟨zc_CB C M hl hR, C.hts _ V⟩ hPre rfl hn hlv.1 hst (lv_room hsum) hd (by rw [hz.1, hz.2]; exact hf)) hS hFc (fun ov' w' H1 locs1 ho hP1 hD1 hk1 hS1 => ?_)
  obtain ⟨a1, b1⟩ := va_join (wr := ws) hP hD [] (List.range ws.length) rfl (zc_rng ws) (zc_rng_nd _) (fun _ _ h => by cases h) hk1 hFc hP1 hD1
  obtain ⟨rfl, rfl⟩ := ho
  rw [List.append_nil] at a1 b1
  rw [hz.1, hz.2]
  exact k H1 locs1 ls a1 b1 hS1 hlv
theorem z_lawS (C : zc_Cx p s m args meth c cc nL own D cI cZ A) {x y : Nat → Nat} {bc bp : Nat} {S S' : zs_S} {M : zm_S} {yy : MethodName} {bts : ByteArray} {maxL idx n : Nat} {ret : Option FieldType} {rm : Room} {As rest : List Value} {ov : Option Value} (hM : zc_Con l yy bts maxL ret rm D cI cZ (.ref (x 0) :: As) (zs_W cI cZ x bc bp S) (zo ov (zs_W cI cZ x bc bp S'))) (Mt : zf_M yy bts maxL ret n) (hl : Cond.methodLink own idx yy ∈ zn_tbl) (V : zf_V yy) (hc : classes[0]? = some (yy.cls, F_S, 7)) (hR : rm.frames + 1 ≤ R.frames ∧ 8 + (maxL + 11) + rm.locals ≤ R.locals) (hz : rm.cells = 0 ∧ rm.slots = 0) (hf : cells ≤ R.cells ∧ slots ≤ R.slots) (hn : As.length = n) (hst : st = As.reverse ++ .ref (x 0) :: rest) (hsum : (rest.map fun v => v.category).sum ≤ 8) (hd : decode cc pc = .ok (.invokevirtual idx, 3))
    (k : zc_Pt p l e R s m args below meth c nL D A cells slots Q (pc + 3) lv (ov.toList ++ rest) (zs_W cI cZ x bc bp S' ++ zm_W cI cZ y bc bp M)) : zc_Pt p l e R s m args below meth c nL D A cells slots Q pc lv st (zs_W cI cZ x bc bp S ++ zm_W cI cZ y bc bp M) :=
  z_detV C hM Mt hl V hc rfl hR hz hf hn [0, 1, 2, 3, 4, 5, 6, 7, 8, 9, 10, 11, 12] [13, 14, 15, 16, 17, 18, 19, 20, 21] [9, 10, 11, 12, 13, 14, 15, 16, 17, 18, 19, 20, 21, 0, 1, 2, 3, 4, 5, 6, 7, 8] rfl (by decide) (wr := zm_W cI cZ y bc bp M) rfl (by decide) (by decide) rfl (by decide) hst hsum hd k
theorem z_lawM (C : zc_Cx p s m args meth c cc nL own D cI cZ A) {x y : Nat → Nat} {bc bp : Nat} {S : zs_S} {M M' : zm_S} {yy : MethodName} {bts : ByteArray} {maxL idx n : Nat} {ret : Option FieldType} {rm : Room} {As rest : List Value} {ov : Option Value} (hM : zc_Con l yy bts maxL ret rm D cI cZ (.ref (y 0) :: As) (zm_W cI cZ y bc bp M) (zo ov (zm_W cI cZ y bc bp M'))) (Mt : zf_M yy bts maxL ret n) (hl : Cond.methodLink own idx yy ∈ zn_tbl) (V : zf_V yy) (hc : classes[4]? = some (yy.cls, F_M, 18)) (hR : rm.frames + 1 ≤ R.frames ∧ 8 + (maxL + 11) + rm.locals ≤ R.locals) (hz : rm.cells = 0 ∧ rm.slots = 0) (hf : cells ≤ R.cells ∧ slots ≤ R.slots) (hn : As.length = n) (hst : st = As.reverse ++ .ref (y 0) :: rest) (hsum : (rest.map fun v => v.category).sum ≤ 8) (hd : decode cc pc = .ok (.invokevirtual idx, 3))
    (k : zc_Pt p l e R s m args below meth c nL D A cells slots Q (pc + 3) lv (ov.toList ++ rest) (zs_W cI cZ x bc bp S ++ zm_W cI cZ y bc bp M')) : zc_Pt p l e R s m args below meth c nL D A cells slots Q pc lv st (zs_W cI cZ x bc bp S ++ zm_W cI cZ y bc bp M) :=
  z_detV C hM Mt hl V hc rfl hR hz hf hn [13, 14, 15, 16, 17, 18, 19, 20, 21] [0, 1, 2, 3, 4, 5, 6, 7, 8, 9, 10, 11, 12] [0, 1, 2, 3, 4, 5, 6, 7, 8, 9, 10, 11, 12, 13, 14, 15, 16, 17, 18, 19, 20, 21] rfl (by decide) (wr := zs_W cI cZ x bc bp S) rfl (by decide) (by decide) rfl (by decide) hst hsum hd k
theorem lw_le {L i : Nat} (hL : L < 2 ^ 31) (hi : i < 2 ^ 31) (h : ¬ nI L - nI 3 < nI i) : i + 3 ≤ L := by
  rw [Int32.lt_iff_toInt_lt, Int32.toInt_sub, nI_toInt hL, nI_toInt hi, nI_toInt (by decide), Int.bmod_eq_of_le (by omega) (by omega)] at h
  omega
theorem lw_15 (v : Int32) : ∃ k, k < 16 ∧ v &&& nI 15 = nI k := by
  refine ⟨v.toBitVec.toNat % 16, Nat.mod_lt _ (by decide), ?_⟩
  apply Int32.toBitVec_inj.mp
  apply BitVec.eq_of_toNat_eq
  rw [Int32.toBitVec_and, BitVec.toNat_and]
  show v.toBitVec.toNat &&& (nI 15).toBitVec.toNat = (v.toBitVec.toNat % 16) % 2 ^ 32
  rw [show (nI 15).toBitVec.toNat = 2 ^ 4 - 1 by decide, Nat.and_two_pow_sub_one_eq_mod]
  have : v.toBitVec.toNat % 16 < 16 := Nat.mod_lt _ (by decide)
  rw [Nat.mod_eq_of_lt (a := v.toBitVec.toNat % 16) (by omega)]
theorem nI_3 (i : Nat) : nI i + Int32.ofInt 3 = nI (i + 3) := by
  rw [nI_succ, nI_succ, nI_succ, Int32.add_assoc, Int32.add_assoc]
  rfl
theorem zR_start {bc bp : Nat} (hn : bc * bp ≤ 20) : zR bc bp (ss_init bc bp zs_0) (sm_begin zm_0) := zR_init hn ⟨fun _ _ => rfl, fun _ _ => by show (0 : Int32).toBitVec.toNat < 2 ^ 18; decide⟩ rfl
end ZLW
set_option maxHeartbeats 4000000 in
theorem c_W_cell (l : Launch) (D : va_G) (cI cZ : ClassId) (b L : Nat) (xs : Nat → Int32) (k : Nat) (hk : k < 2 ^ 31) (hL : L < 2 ^ 31) : zx_Con l y_W_cell b_W_cell 2 (some .int) { frames := 0, cells := 0, slots := 0, locals := 0 } D cI cZ b L xs [.ref b, .int (nI k)] (some (.int (if k < L then xs k else 0))) := by
  refine zx_start (by decide) (Nat.le_of_ble_eq_true rfl) ?_
  intro p e s m args below meth c A Q hA hQ C0 hr hX hbl hbA
  have C0 : zc_Cx p s m args meth c b_W_cell 2 R_W D cI cZ A := C0
  refine z_lvs (lvn := [(0, .ref b), (1, .int (nI k))]) rfl ?_
  refine z_iload_n C0 d_W_cell_0 rfl 1 rfl ?_
  refine z_aload_n C0 d_W_cell_1 rfl 0 rfl ?_
  refine z_slen C0 hX hbl hbA d_W_cell_2 ?_
  refine z_icmpN_ge (tgt := 12) C0 d_W_cell_3 (by decide) hk hL (fun h => ?_) (fun h => ?_)
  · refine z_iconst (v := 0) C0 d_W_cell_12 (by decide) ?_
    exact z_iret C0 hA hQ hr d_W_cell_13 ⟨by rw [if_neg (Nat.not_lt.mpr h)], rfl⟩
  · refine z_aload_n C0 d_W_cell_6 rfl 0 rfl ?_
    refine z_iload_n C0 d_W_cell_7 rfl 1 rfl ?_
    refine z_sld C0 hX hbl hbA h hL d_W_cell_8 ?_
    refine z_gotoK (tgt := 13) C0 d_W_cell_9 (by decide) ?_
    exact z_iret C0 hA hQ hr d_W_cell_13 ⟨by rw [if_pos h], rfl⟩
