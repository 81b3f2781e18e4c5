/-! the law: its rows, its world at the entry, its end -/
/-! THE CLAIM OUT OF ONE WALK OF THE LAW'S BODY. Your part is whole_start (and what it stands on); all else here is the same for every law, but numbers. -/
def R_law : String := "ThimbleLaw"
def lw_P (b : Addr) (xs : List Int32) (args : Array Value) (s : State) : Prop := args = #[.ref b] ∧ s.IntsAt b xs ∧ xs.length ≤ 260 ∧ (Jvm.Cond.and given_1 narrow_1).before args s = true
/-- what a walk over the start with the record d0 says of its end, said of the start itself -/
theorem lw_closed {s t : State} {o : Outcome} {d0 : Drawn} {L : List Loc} {k n : Nat} (hd0 : s.drawn.sameBut d0 lw_cs) (hv : ∃ v, o = .returned v) (hW : (s.setDrawn d0).WarmedH t.vm) (hs : (s.setDrawn d0).sameButNew ({ t with vm := s.vm } : State) L k n) : State.butDraws s t lw_cs (fun t1 => Framed s o t1 L k n) := by
  have h2 : t.drawn = d0 := congrArg State.drawn hs.1
  refine ⟨⟨hv, hW, State.sameButNew.setDrawn hs s.drawn⟩, ?_, by decide⟩
  rw [h2]
  exact hd0
def lw_Q (_ : Array Value) (s : State) (o : Outcome) (t : State) : Prop := o = .returned (some (.int 1)) ∧ State.butDraws s t lw_cs (fun t1 => Framed s o t1 [] 748117 6857346)
def lw_Z (below : List Frame) (a : Array Value) (s : State) : State → Prop := fun t => ∃ o, t.status = .running ∧ Ended t below o ∧ lw_Q a s o t
/-- the law's own end, with 1 on the stack, nothing written that was there before, its room as the claim has it; d0: the record of draws at this point (at the entry s.drawn: begin with 'refine W.base ?_' and 'have hd0 := Drawn.sameBut.refl s.drawn lw_cs') -/
theorem lw_ret {p : Program} {l : Launch} {e : Env} {s : State} {m : MethodId} {below : List Frame} {meth : Method} {c : Code} {b : Nat} {d0 : Drawn} (hd0 : s.drawn.sameBut d0 lw_cs) (hx : p.tables.exec = Jvm.exec) (hb : c.code = code) (hr : meth.sig.returnType = ret) (hlocks : meth.locks = false) {pc : Nat} {H : Heap} {ls : Array Slot} (hdg : decode code pc = .ok (.ireturn, 1)) : W p l e room_1 (s.setDrawn d0) m #[Value.ref b] below meth c H [] 748117 6857346 (lw_Z below #[Value.ref b] s) (F0 m pc ls [.int 1]) := by
  intro T hT X
  obtain ⟨fs, hret, hrun, hended, hW, hframe⟩ := X.leave (v := some (.int 1)) (hlocks := hlocks) (fun h => by rw [hr] at h; cases h)
  have hmeth' : T.vm.method? m = some meth := X.method'
  refine ⟨T.setFrames fs, ?_, .returned (some (.int 1)), hrun, hended, rfl, lw_closed hd0 ⟨_, rfl⟩ hW hframe⟩
  jvm_step X.here [X.here.top, hx, hb, hdg, hmeth', hr, ret, narrow_b1]
  (try refine ⟨rfl, ?_⟩); (try refine ⟨rfl, ?_⟩)
  first | (intro acts; rw [hret _ acts rfl rfl rfl]) | rw [hret _ _ rfl rfl rfl]
  exact Steps.refl _
/-- what holds at the law's entry: the machine, the code, the tables' words (any of lw_tbl by 'hts w (by decide +kernel)'), the script of L ints xs at the cell b, what the Statement gives of the start (any of its parts by flat_of_before) -/
def lw_At (p : Program) (s : State) (m : MethodId) (meth : Method) (c : Code) (b L : Nat) (xs : Nat → Int32) : Prop :=
  p.tables.exec = Jvm.exec ∧ c.code = code ∧ meth.sig.returnType = ret ∧ c.maxLocals = 16 ∧ s.vm.findClass R_law = some m.cls ∧ (∀ w ∈ lw_tbl, w.before #[Value.ref b] s = true) ∧ va_X b L xs s s.heap ∧ b < s.heap.size ∧ meth.locks = false ∧ (Jvm.Cond.and given_1 narrow_1).before #[Value.ref b] s = true
theorem dL_law_0 : decode code 0 = .ok (.new 48, 3) := by decide +kernel
theorem dL_law_3 : decode code 3 = .ok (.dup, 1) := by decide +kernel
theorem dL_law_4 : decode code 4 = .ok (.invokespecial 50, 3) := by decide +kernel
theorem dL_law_7 : decode code 7 = .ok (.astore_n 1, 1) := by decide +kernel
theorem dL_law_8 : decode code 8 = .ok (.aload_n 1, 1) := by decide +kernel
theorem dL_law_9 : decode code 9 = .ok (.aload_n 0, 1) := by decide +kernel
theorem dL_law_10 : decode code 10 = .ok (.aload_n 0, 1) := by decide +kernel
theorem dL_law_11 : decode code 11 = .ok (.iconst 1, 1) := by decide +kernel
theorem dL_law_12 : decode code 12 = .ok (.invokestatic 18, 3) := by decide +kernel
theorem dL_law_15 : decode code 15 = .ok (.bipush 18, 2) := by decide +kernel
theorem dL_law_17 : decode code 17 = .ok (.invokestatic 9, 3) := by decide +kernel
theorem dL_law_20 : decode code 20 = .ok (.invokestatic 51, 3) := by decide +kernel
theorem dL_law_23 : decode code 23 = .ok (.astore_n 2, 1) := by decide +kernel
theorem dL_law_24 : decode code 24 = .ok (.aload_n 2, 1) := by decide +kernel
theorem dL_law_25 : decode code 25 = .ok (.ifnull 15, 3) := by decide +kernel
theorem dL_law_28 : decode code 28 = .ok (.aload_n 1, 1) := by decide +kernel
theorem dL_law_29 : decode code 29 = .ok (.aload_n 2, 1) := by decide +kernel
theorem dL_law_30 : decode code 30 = .ok (.aload_n 0, 1) := by decide +kernel
theorem dL_law_31 : decode code 31 = .ok (.bipush 12, 2) := by decide +kernel
theorem dL_law_33 : decode code 33 = .ok (.iconst 3, 1) := by decide +kernel
theorem dL_law_34 : decode code 34 = .ok (.invokestatic 55, 3) := by decide +kernel
theorem dL_law_37 : decode code 37 = .ok (.ifCond .ne 5, 3) := by decide +kernel
theorem dL_law_40 : decode code 40 = .ok (.iconst 0, 1) := by decide +kernel
theorem dL_law_41 : decode code 41 = .ok (.ireturn, 1) := by decide +kernel
theorem dL_law_42 : decode code 42 = .ok (.iconst 0, 1) := by decide +kernel
theorem dL_law_43 : decode code 43 = .ok (.istore_n 3, 1) := by decide +kernel
theorem dL_law_44 : decode code 44 = .ok (.iload_n 3, 1) := by decide +kernel
theorem dL_law_45 : decode code 45 = .ok (.iconst 3, 1) := by decide +kernel
theorem dL_law_46 : decode code 46 = .ok (.if_icmp .ge 122, 3) := by decide +kernel
theorem dL_law_49 : decode code 49 = .ok (.aload_n 0, 1) := by decide +kernel
theorem dL_law_50 : decode code 50 = .ok (.bipush 9, 2) := by decide +kernel
theorem dL_law_52 : decode code 52 = .ok (.iload_n 3, 1) := by decide +kernel
theorem dL_law_53 : decode code 53 = .ok (.iadd, 1) := by decide +kernel
theorem dL_law_54 : decode code 54 = .ok (.invokestatic 18, 3) := by decide +kernel
theorem dL_law_57 : decode code 57 = .ok (.istore 4, 2) := by decide +kernel
theorem dL_law_59 : decode code 59 = .ok (.aload_n 1, 1) := by decide +kernel
theorem dL_law_60 : decode code 60 = .ok (.iload 4, 2) := by decide +kernel
theorem dL_law_62 : decode code 62 = .ok (.iconst 3, 1) := by decide +kernel
theorem dL_law_63 : decode code 63 = .ok (.invokestatic 9, 3) := by decide +kernel
theorem dL_law_66 : decode code 66 = .ok (.iload 4, 2) := by decide +kernel
theorem dL_law_68 : decode code 68 = .ok (.iconst 1, 1) := by decide +kernel
theorem dL_law_69 : decode code 69 = .ok (.ishr, 1) := by decide +kernel
theorem dL_law_70 : decode code 70 = .ok (.iconst 3, 1) := by decide +kernel
theorem dL_law_71 : decode code 71 = .ok (.invokestatic 34, 3) := by decide +kernel
theorem dL_law_74 : decode code 74 = .ok (.iload 4, 2) := by decide +kernel
theorem dL_law_76 : decode code 76 = .ok (.iconst 3, 1) := by decide +kernel
theorem dL_law_77 : decode code 77 = .ok (.ishr, 1) := by decide +kernel
theorem dL_law_78 : decode code 78 = .ok (.iconst 3, 1) := by decide +kernel
theorem dL_law_79 : decode code 79 = .ok (.invokestatic 34, 3) := by decide +kernel
theorem dL_law_82 : decode code 82 = .ok (.iconst 0, 1) := by decide +kernel
theorem dL_law_83 : decode code 83 = .ok (.invokevirtual 59, 3) := by decide +kernel
theorem dL_law_86 : decode code 86 = .ok (.pop, 1) := by decide +kernel
theorem dL_law_87 : decode code 87 = .ok (.iconst 0, 1) := by decide +kernel
theorem dL_law_88 : decode code 88 = .ok (.istore 5, 2) := by decide +kernel
theorem dL_law_90 : decode code 90 = .ok (.iload 5, 2) := by decide +kernel
theorem dL_law_92 : decode code 92 = .ok (.iconst 1, 1) := by decide +kernel
theorem dL_law_93 : decode code 93 = .ok (.iload 4, 2) := by decide +kernel
theorem dL_law_95 : decode code 95 = .ok (.iconst 2, 1) := by decide +kernel
theorem dL_law_96 : decode code 96 = .ok (.ishr, 1) := by decide +kernel
theorem dL_law_97 : decode code 97 = .ok (.iconst 3, 1) := by decide +kernel
theorem dL_law_98 : decode code 98 = .ok (.invokestatic 9, 3) := by decide +kernel
theorem dL_law_101 : decode code 101 = .ok (.iadd, 1) := by decide +kernel
theorem dL_law_102 : decode code 102 = .ok (.if_icmp .ge 60, 3) := by decide +kernel
theorem dL_law_105 : decode code 105 = .ok (.aload_n 0, 1) := by decide +kernel
theorem dL_law_106 : decode code 106 = .ok (.bipush 12, 2) := by decide +kernel
theorem dL_law_108 : decode code 108 = .ok (.iload 5, 2) := by decide +kernel
theorem dL_law_110 : decode code 110 = .ok (.iadd, 1) := by decide +kernel
theorem dL_law_111 : decode code 111 = .ok (.invokestatic 18, 3) := by decide +kernel
theorem dL_law_114 : decode code 114 = .ok (.iconst 5, 1) := by decide +kernel
theorem dL_law_115 : decode code 115 = .ok (.iload_n 3, 1) := by decide +kernel
theorem dL_law_116 : decode code 116 = .ok (.imul, 1) := by decide +kernel
theorem dL_law_117 : decode code 117 = .ok (.iadd, 1) := by decide +kernel
theorem dL_law_118 : decode code 118 = .ok (.istore 6, 2) := by decide +kernel
theorem dL_law_120 : decode code 120 = .ok (.aload_n 1, 1) := by decide +kernel
theorem dL_law_121 : decode code 121 = .ok (.iload_n 3, 1) := by decide +kernel
theorem dL_law_122 : decode code 122 = .ok (.iload 6, 2) := by decide +kernel
theorem dL_law_124 : decode code 124 = .ok (.iconst 3, 1) := by decide +kernel
theorem dL_law_125 : decode code 125 = .ok (.invokestatic 9, 3) := by decide +kernel
theorem dL_law_128 : decode code 128 = .ok (.iload 6, 2) := by decide +kernel
theorem dL_law_130 : decode code 130 = .ok (.iconst 1, 1) := by decide +kernel
theorem dL_law_131 : decode code 131 = .ok (.ishr, 1) := by decide +kernel
theorem dL_law_132 : decode code 132 = .ok (.iconst 3, 1) := by decide +kernel
theorem dL_law_133 : decode code 133 = .ok (.invokestatic 34, 3) := by decide +kernel
theorem dL_law_136 : decode code 136 = .ok (.iload 6, 2) := by decide +kernel
theorem dL_law_138 : decode code 138 = .ok (.iconst 2, 1) := by decide +kernel
theorem dL_law_139 : decode code 139 = .ok (.ishr, 1) := by decide +kernel
theorem dL_law_140 : decode code 140 = .ok (.iconst 3, 1) := by decide +kernel
theorem dL_law_141 : decode code 141 = .ok (.invokestatic 34, 3) := by decide +kernel
theorem dL_law_144 : decode code 144 = .ok (.iload 6, 2) := by decide +kernel
theorem dL_law_146 : decode code 146 = .ok (.iconst 4, 1) := by decide +kernel
theorem dL_law_147 : decode code 147 = .ok (.ishr, 1) := by decide +kernel
theorem dL_law_148 : decode code 148 = .ok (.iconst 3, 1) := by decide +kernel
theorem dL_law_149 : decode code 149 = .ok (.invokestatic 34, 3) := by decide +kernel
theorem dL_law_152 : decode code 152 = .ok (.invokevirtual 63, 3) := by decide +kernel
theorem dL_law_155 : decode code 155 = .ok (.pop, 1) := by decide +kernel
theorem dL_law_156 : decode code 156 = .ok (.iinc 5 1, 3) := by decide +kernel
theorem dL_law_159 : decode code 159 = .ok (.goto (-69), 3) := by decide +kernel
theorem dL_law_162 : decode code 162 = .ok (.iinc 3 1, 3) := by decide +kernel
theorem dL_law_165 : decode code 165 = .ok (.goto (-121), 3) := by decide +kernel
theorem dL_law_168 : decode code 168 = .ok (.aload_n 1, 1) := by decide +kernel
theorem dL_law_169 : decode code 169 = .ok (.invokevirtual 66, 3) := by decide +kernel
theorem dL_law_172 : decode code 172 = .ok (.lstore_n 3, 1) := by decide +kernel
theorem dL_law_173 : decode code 173 = .ok (.iconst 0, 1) := by decide +kernel
theorem dL_law_174 : decode code 174 = .ok (.istore 5, 2) := by decide +kernel
theorem dL_law_176 : decode code 176 = .ok (.iload 5, 2) := by decide +kernel
theorem dL_law_178 : decode code 178 = .ok (.iconst 3, 1) := by decide +kernel
theorem dL_law_179 : decode code 179 = .ok (.if_icmp .ge 59, 3) := by decide +kernel
theorem dL_law_182 : decode code 182 = .ok (.iconst 1, 1) := by decide +kernel
theorem dL_law_183 : decode code 183 = .ok (.istore 6, 2) := by decide +kernel
theorem dL_law_185 : decode code 185 = .ok (.iload 6, 2) := by decide +kernel
theorem dL_law_187 : decode code 187 = .ok (.aload_n 1, 1) := by decide +kernel
theorem dL_law_188 : decode code 188 = .ok (.iload 5, 2) := by decide +kernel
theorem dL_law_190 : decode code 190 = .ok (.invokevirtual 70, 3) := by decide +kernel
theorem dL_law_193 : decode code 193 = .ok (.if_icmp .ge 39, 3) := by decide +kernel
theorem dL_law_196 : decode code 196 = .ok (.aload_n 2, 1) := by decide +kernel
theorem dL_law_197 : decode code 197 = .ok (.getfield 30, 3) := by decide +kernel
theorem dL_law_200 : decode code 200 = .ok (.iload 5, 2) := by decide +kernel
theorem dL_law_202 : decode code 202 = .ok (.aaload, 1) := by decide +kernel
theorem dL_law_203 : decode code 203 = .ok (.iload 6, 2) := by decide +kernel
theorem dL_law_205 : decode code 205 = .ok (.iconst 1, 1) := by decide +kernel
theorem dL_law_206 : decode code 206 = .ok (.isub, 1) := by decide +kernel
theorem dL_law_207 : decode code 207 = .ok (.aaload, 1) := by decide +kernel
theorem dL_law_208 : decode code 208 = .ok (.aload_n 2, 1) := by decide +kernel
theorem dL_law_209 : decode code 209 = .ok (.getfield 30, 3) := by decide +kernel
theorem dL_law_212 : decode code 212 = .ok (.iload 5, 2) := by decide +kernel
theorem dL_law_214 : decode code 214 = .ok (.aaload, 1) := by decide +kernel
theorem dL_law_215 : decode code 215 = .ok (.iload 6, 2) := by decide +kernel
theorem dL_law_217 : decode code 217 = .ok (.aaload, 1) := by decide +kernel
theorem dL_law_218 : decode code 218 = .ok (.invokestatic 72, 3) := by decide +kernel
theorem dL_law_221 : decode code 221 = .ok (.ifCond .lt 5, 3) := by decide +kernel
theorem dL_law_224 : decode code 224 = .ok (.iconst 0, 1) := by decide +kernel
theorem dL_law_225 : decode code 225 = .ok (.ireturn, 1) := by decide +kernel
theorem dL_law_226 : decode code 226 = .ok (.iinc 6 1, 3) := by decide +kernel
theorem dL_law_229 : decode code 229 = .ok (.goto (-44), 3) := by decide +kernel
theorem dL_law_232 : decode code 232 = .ok (.iinc 5 1, 3) := by decide +kernel
theorem dL_law_235 : decode code 235 = .ok (.goto (-59), 3) := by decide +kernel
theorem dL_law_238 : decode code 238 = .ok (.iconst 0, 1) := by decide +kernel
theorem dL_law_239 : decode code 239 = .ok (.istore 5, 2) := by decide +kernel
theorem dL_law_241 : decode code 241 = .ok (.iload 5, 2) := by decide +kernel
theorem dL_law_243 : decode code 243 = .ok (.bipush 12, 2) := by decide +kernel
theorem dL_law_245 : decode code 245 = .ok (.if_icmp .ge 283, 3) := by decide +kernel
theorem dL_law_248 : decode code 248 = .ok (.aload_n 1, 1) := by decide +kernel
theorem dL_law_249 : decode code 249 = .ok (.iload 5, 2) := by decide +kernel
theorem dL_law_251 : decode code 251 = .ok (.iconst 1, 1) := by decide +kernel
theorem dL_law_252 : decode code 252 = .ok (.invokevirtual 76, 3) := by decide +kernel
theorem dL_law_255 : decode code 255 = .ok (.istore 6, 2) := by decide +kernel
theorem dL_law_257 : decode code 257 = .ok (.iload 6, 2) := by decide +kernel
theorem dL_law_259 : decode code 259 = .ok (.invokestatic 79, 3) := by decide +kernel
theorem dL_law_262 : decode code 262 = .ok (.istore 7, 2) := by decide +kernel
theorem dL_law_264 : decode code 264 = .ok (.aload_n 1, 1) := by decide +kernel
theorem dL_law_265 : decode code 265 = .ok (.iload 5, 2) := by decide +kernel
theorem dL_law_267 : decode code 267 = .ok (.iconst 5, 1) := by decide +kernel
theorem dL_law_268 : decode code 268 = .ok (.invokevirtual 76, 3) := by decide +kernel
theorem dL_law_271 : decode code 271 = .ok (.istore 8, 2) := by decide +kernel
theorem dL_law_273 : decode code 273 = .ok (.aload_n 1, 1) := by decide +kernel
theorem dL_law_274 : decode code 274 = .ok (.iload 5, 2) := by decide +kernel
theorem dL_law_276 : decode code 276 = .ok (.invokevirtual 84, 3) := by decide +kernel
theorem dL_law_279 : decode code 279 = .ok (.istore 9, 2) := by decide +kernel
theorem dL_law_281 : decode code 281 = .ok (.iload 7, 2) := by decide +kernel
theorem dL_law_283 : decode code 283 = .ok (.newarray .int, 2) := by decide +kernel
theorem dL_law_285 : decode code 285 = .ok (.astore 10, 2) := by decide +kernel
theorem dL_law_287 : decode code 287 = .ok (.iconst 0, 1) := by decide +kernel
theorem dL_law_288 : decode code 288 = .ok (.istore 11, 2) := by decide +kernel
theorem dL_law_290 : decode code 290 = .ok (.iload 11, 2) := by decide +kernel
theorem dL_law_292 : decode code 292 = .ok (.iload 9, 2) := by decide +kernel
theorem dL_law_294 : decode code 294 = .ok (.if_icmp .ge 130, 3) := by decide +kernel
theorem dL_law_297 : decode code 297 = .ok (.iload 7, 2) := by decide +kernel
theorem dL_law_299 : decode code 299 = .ok (.newarray .int, 2) := by decide +kernel
theorem dL_law_301 : decode code 301 = .ok (.astore 12, 2) := by decide +kernel
theorem dL_law_303 : decode code 303 = .ok (.bipush 6, 2) := by decide +kernel
theorem dL_law_305 : decode code 305 = .ok (.newarray .int, 2) := by decide +kernel
theorem dL_law_307 : decode code 307 = .ok (.astore 13, 2) := by decide +kernel
theorem dL_law_309 : decode code 309 = .ok (.iconst 0, 1) := by decide +kernel
theorem dL_law_310 : decode code 310 = .ok (.istore 14, 2) := by decide +kernel
theorem dL_law_312 : decode code 312 = .ok (.iconst 0, 1) := by decide +kernel
theorem dL_law_313 : decode code 313 = .ok (.istore 15, 2) := by decide +kernel
theorem dL_law_315 : decode code 315 = .ok (.iload 15, 2) := by decide +kernel
theorem dL_law_317 : decode code 317 = .ok (.bipush 6, 2) := by decide +kernel
theorem dL_law_319 : decode code 319 = .ok (.if_icmp .ge 65, 3) := by decide +kernel
theorem dL_law_322 : decode code 322 = .ok (.iload 6, 2) := by decide +kernel
theorem dL_law_324 : decode code 324 = .ok (.iload 15, 2) := by decide +kernel
theorem dL_law_326 : decode code 326 = .ok (.ishr, 1) := by decide +kernel
theorem dL_law_327 : decode code 327 = .ok (.iconst 1, 1) := by decide +kernel
theorem dL_law_328 : decode code 328 = .ok (.iand, 1) := by decide +kernel
theorem dL_law_329 : decode code 329 = .ok (.ifCond .ne 6, 3) := by decide +kernel
theorem dL_law_332 : decode code 332 = .ok (.goto 46, 3) := by decide +kernel
theorem dL_law_335 : decode code 335 = .ok (.aload 12, 2) := by decide +kernel
theorem dL_law_337 : decode code 337 = .ok (.iload 14, 2) := by decide +kernel
theorem dL_law_339 : decode code 339 = .ok (.aload_n 1, 1) := by decide +kernel
theorem dL_law_340 : decode code 340 = .ok (.iload 5, 2) := by decide +kernel
theorem dL_law_342 : decode code 342 = .ok (.iload 11, 2) := by decide +kernel
theorem dL_law_344 : decode code 344 = .ok (.iload 14, 2) := by decide +kernel
theorem dL_law_346 : decode code 346 = .ok (.invokevirtual 87, 3) := by decide +kernel
theorem dL_law_349 : decode code 349 = .ok (.iastore, 1) := by decide +kernel
theorem dL_law_350 : decode code 350 = .ok (.aload 13, 2) := by decide +kernel
theorem dL_law_352 : decode code 352 = .ok (.iload 15, 2) := by decide +kernel
theorem dL_law_354 : decode code 354 = .ok (.aload 12, 2) := by decide +kernel
theorem dL_law_356 : decode code 356 = .ok (.iload 14, 2) := by decide +kernel
theorem dL_law_358 : decode code 358 = .ok (.iaload, 1) := by decide +kernel
theorem dL_law_359 : decode code 359 = .ok (.iastore, 1) := by decide +kernel
theorem dL_law_360 : decode code 360 = .ok (.iload 8, 2) := by decide +kernel
theorem dL_law_362 : decode code 362 = .ok (.aload 12, 2) := by decide +kernel
theorem dL_law_364 : decode code 364 = .ok (.iload 14, 2) := by decide +kernel
theorem dL_law_366 : decode code 366 = .ok (.iaload, 1) := by decide +kernel
theorem dL_law_367 : decode code 367 = .ok (.ishr, 1) := by decide +kernel
theorem dL_law_368 : decode code 368 = .ok (.iconst 1, 1) := by decide +kernel
theorem dL_law_369 : decode code 369 = .ok (.iand, 1) := by decide +kernel
theorem dL_law_370 : decode code 370 = .ok (.ifCond .ne 5, 3) := by decide +kernel
theorem dL_law_373 : decode code 373 = .ok (.iconst 0, 1) := by decide +kernel
theorem dL_law_374 : decode code 374 = .ok (.ireturn, 1) := by decide +kernel
theorem dL_law_375 : decode code 375 = .ok (.iinc 14 1, 3) := by decide +kernel
theorem dL_law_378 : decode code 378 = .ok (.iinc 15 1, 3) := by decide +kernel
theorem dL_law_381 : decode code 381 = .ok (.goto (-66), 3) := by decide +kernel
theorem dL_law_384 : decode code 384 = .ok (.iload 11, 2) := by decide +kernel
theorem dL_law_386 : decode code 386 = .ok (.ifCond .le 13, 3) := by decide +kernel
theorem dL_law_389 : decode code 389 = .ok (.aload 10, 2) := by decide +kernel
theorem dL_law_391 : decode code 391 = .ok (.aload 12, 2) := by decide +kernel
theorem dL_law_393 : decode code 393 = .ok (.invokestatic 72, 3) := by decide +kernel
theorem dL_law_396 : decode code 396 = .ok (.ifCond .ge 16, 3) := by decide +kernel
theorem dL_law_399 : decode code 399 = .ok (.aload_n 2, 1) := by decide +kernel
theorem dL_law_400 : decode code 400 = .ok (.iload 5, 2) := by decide +kernel
theorem dL_law_402 : decode code 402 = .ok (.aload 13, 2) := by decide +kernel
theorem dL_law_404 : decode code 404 = .ok (.iload 8, 2) := by decide +kernel
theorem dL_law_406 : decode code 406 = .ok (.invokevirtual 91, 3) := by decide +kernel
theorem dL_law_409 : decode code 409 = .ok (.ifCond .ne 5, 3) := by decide +kernel
theorem dL_law_412 : decode code 412 = .ok (.iconst 0, 1) := by decide +kernel
theorem dL_law_413 : decode code 413 = .ok (.ireturn, 1) := by decide +kernel
theorem dL_law_414 : decode code 414 = .ok (.aload 12, 2) := by decide +kernel
theorem dL_law_416 : decode code 416 = .ok (.astore 10, 2) := by decide +kernel
theorem dL_law_418 : decode code 418 = .ok (.iinc 11 1, 3) := by decide +kernel
theorem dL_law_421 : decode code 421 = .ok (.goto (-131), 3) := by decide +kernel
theorem dL_law_424 : decode code 424 = .ok (.aload_n 1, 1) := by decide +kernel
theorem dL_law_425 : decode code 425 = .ok (.iload 5, 2) := by decide +kernel
theorem dL_law_427 : decode code 427 = .ok (.iconst 3, 1) := by decide +kernel
theorem dL_law_428 : decode code 428 = .ok (.invokevirtual 76, 3) := by decide +kernel
theorem dL_law_431 : decode code 431 = .ok (.iload 6, 2) := by decide +kernel
theorem dL_law_433 : decode code 433 = .ok (.iconst (-1), 1) := by decide +kernel
theorem dL_law_434 : decode code 434 = .ok (.ixor, 1) := by decide +kernel
theorem dL_law_435 : decode code 435 = .ok (.iand, 1) := by decide +kernel
theorem dL_law_436 : decode code 436 = .ok (.ifCond .ne 84, 3) := by decide +kernel
theorem dL_law_439 : decode code 439 = .ok (.aload_n 1, 1) := by decide +kernel
theorem dL_law_440 : decode code 440 = .ok (.iload 5, 2) := by decide +kernel
theorem dL_law_442 : decode code 442 = .ok (.iconst 4, 1) := by decide +kernel
theorem dL_law_443 : decode code 443 = .ok (.invokevirtual 76, 3) := by decide +kernel
theorem dL_law_446 : decode code 446 = .ok (.iload 6, 2) := by decide +kernel
theorem dL_law_448 : decode code 448 = .ok (.iconst (-1), 1) := by decide +kernel
theorem dL_law_449 : decode code 449 = .ok (.ixor, 1) := by decide +kernel
theorem dL_law_450 : decode code 450 = .ok (.iand, 1) := by decide +kernel
theorem dL_law_451 : decode code 451 = .ok (.ifCond .ne 69, 3) := by decide +kernel
theorem dL_law_454 : decode code 454 = .ok (.aload_n 1, 1) := by decide +kernel
theorem dL_law_455 : decode code 455 = .ok (.iload 5, 2) := by decide +kernel
theorem dL_law_457 : decode code 457 = .ok (.invokevirtual 95, 3) := by decide +kernel
theorem dL_law_460 : decode code 460 = .ok (.ifCond .eq 27, 3) := by decide +kernel
theorem dL_law_463 : decode code 463 = .ok (.aload_n 1, 1) := by decide +kernel
theorem dL_law_464 : decode code 464 = .ok (.iload 5, 2) := by decide +kernel
theorem dL_law_466 : decode code 466 = .ok (.invokevirtual 99, 3) := by decide +kernel
theorem dL_law_469 : decode code 469 = .ok (.ifCond .ge 51, 3) := by decide +kernel
theorem dL_law_472 : decode code 472 = .ok (.iload 6, 2) := by decide +kernel
theorem dL_law_474 : decode code 474 = .ok (.aload_n 1, 1) := by decide +kernel
theorem dL_law_475 : decode code 475 = .ok (.iload 5, 2) := by decide +kernel
theorem dL_law_477 : decode code 477 = .ok (.iconst 3, 1) := by decide +kernel
theorem dL_law_478 : decode code 478 = .ok (.invokevirtual 76, 3) := by decide +kernel
theorem dL_law_481 : decode code 481 = .ok (.iconst (-1), 1) := by decide +kernel
theorem dL_law_482 : decode code 482 = .ok (.ixor, 1) := by decide +kernel
theorem dL_law_483 : decode code 483 = .ok (.iand, 1) := by decide +kernel
theorem dL_law_484 : decode code 484 = .ok (.ifCond .ne 36, 3) := by decide +kernel
theorem dL_law_487 : decode code 487 = .ok (.aload_n 1, 1) := by decide +kernel
theorem dL_law_488 : decode code 488 = .ok (.iload 5, 2) := by decide +kernel
theorem dL_law_490 : decode code 490 = .ok (.invokevirtual 99, 3) := by decide +kernel
theorem dL_law_493 : decode code 493 = .ok (.iload 5, 2) := by decide +kernel
theorem dL_law_495 : decode code 495 = .ok (.if_icmp .gt 25, 3) := by decide +kernel
theorem dL_law_498 : decode code 498 = .ok (.aload_n 1, 1) := by decide +kernel
theorem dL_law_499 : decode code 499 = .ok (.iload 5, 2) := by decide +kernel
theorem dL_law_501 : decode code 501 = .ok (.invokevirtual 102, 3) := by decide +kernel
theorem dL_law_504 : decode code 504 = .ok (.dconst 0, 1) := by decide +kernel
theorem dL_law_505 : decode code 505 = .ok (.dcmp .g, 1) := by decide +kernel
theorem dL_law_506 : decode code 506 = .ok (.ifCond .lt 14, 3) := by decide +kernel
theorem dL_law_509 : decode code 509 = .ok (.aload_n 1, 1) := by decide +kernel
theorem dL_law_510 : decode code 510 = .ok (.iload 5, 2) := by decide +kernel
theorem dL_law_512 : decode code 512 = .ok (.invokevirtual 102, 3) := by decide +kernel
theorem dL_law_515 : decode code 515 = .ok (.dconst 1, 1) := by decide +kernel
theorem dL_law_516 : decode code 516 = .ok (.dcmp .l, 1) := by decide +kernel
theorem dL_law_517 : decode code 517 = .ok (.ifCond .le 5, 3) := by decide +kernel
theorem dL_law_520 : decode code 520 = .ok (.iconst 0, 1) := by decide +kernel
theorem dL_law_521 : decode code 521 = .ok (.ireturn, 1) := by decide +kernel
theorem dL_law_522 : decode code 522 = .ok (.iinc 5 1, 3) := by decide +kernel
theorem dL_law_525 : decode code 525 = .ok (.goto (-284), 3) := by decide +kernel
theorem dL_law_528 : decode code 528 = .ok (.iconst 0, 1) := by decide +kernel
theorem dL_law_529 : decode code 529 = .ok (.istore 5, 2) := by decide +kernel
theorem dL_law_531 : decode code 531 = .ok (.iload 5, 2) := by decide +kernel
theorem dL_law_533 : decode code 533 = .ok (.iconst 3, 1) := by decide +kernel
theorem dL_law_534 : decode code 534 = .ok (.if_icmp .ge 299, 3) := by decide +kernel
theorem dL_law_537 : decode code 537 = .ok (.aload_n 1, 1) := by decide +kernel
theorem dL_law_538 : decode code 538 = .ok (.iload 5, 2) := by decide +kernel
theorem dL_law_540 : decode code 540 = .ok (.iconst 0, 1) := by decide +kernel
theorem dL_law_541 : decode code 541 = .ok (.invokevirtual 106, 3) := by decide +kernel
theorem dL_law_544 : decode code 544 = .ok (.istore 6, 2) := by decide +kernel
theorem dL_law_546 : decode code 546 = .ok (.iconst 5, 1) := by decide +kernel
theorem dL_law_547 : decode code 547 = .ok (.newarray .boolean, 2) := by decide +kernel
theorem dL_law_549 : decode code 549 = .ok (.astore 7, 2) := by decide +kernel
theorem dL_law_551 : decode code 551 = .ok (.iconst 0, 1) := by decide +kernel
theorem dL_law_552 : decode code 552 = .ok (.istore 8, 2) := by decide +kernel
theorem dL_law_554 : decode code 554 = .ok (.iload 8, 2) := by decide +kernel
theorem dL_law_556 : decode code 556 = .ok (.iload 6, 2) := by decide +kernel
theorem dL_law_558 : decode code 558 = .ok (.if_icmp .ge 79, 3) := by decide +kernel
theorem dL_law_561 : decode code 561 = .ok (.aload_n 1, 1) := by decide +kernel
theorem dL_law_562 : decode code 562 = .ok (.iload 5, 2) := by decide +kernel
theorem dL_law_564 : decode code 564 = .ok (.iload 8, 2) := by decide +kernel
theorem dL_law_566 : decode code 566 = .ok (.iconst 0, 1) := by decide +kernel
theorem dL_law_567 : decode code 567 = .ok (.invokevirtual 109, 3) := by decide +kernel
theorem dL_law_570 : decode code 570 = .ok (.istore 9, 2) := by decide +kernel
theorem dL_law_572 : decode code 572 = .ok (.iload 9, 2) := by decide +kernel
theorem dL_law_574 : decode code 574 = .ok (.ifCond .lt 49, 3) := by decide +kernel
theorem dL_law_577 : decode code 577 = .ok (.iload 9, 2) := by decide +kernel
theorem dL_law_579 : decode code 579 = .ok (.iload 6, 2) := by decide +kernel
theorem dL_law_581 : decode code 581 = .ok (.if_icmp .ge 42, 3) := by decide +kernel
theorem dL_law_584 : decode code 584 = .ok (.aload 7, 2) := by decide +kernel
theorem dL_law_586 : decode code 586 = .ok (.iload 9, 2) := by decide +kernel
theorem dL_law_588 : decode code 588 = .ok (.baload, 1) := by decide +kernel
theorem dL_law_589 : decode code 589 = .ok (.ifCond .ne 34, 3) := by decide +kernel
theorem dL_law_592 : decode code 592 = .ok (.iload 8, 2) := by decide +kernel
theorem dL_law_594 : decode code 594 = .ok (.ifCond .le 31, 3) := by decide +kernel
theorem dL_law_597 : decode code 597 = .ok (.aload_n 1, 1) := by decide +kernel
theorem dL_law_598 : decode code 598 = .ok (.iload 5, 2) := by decide +kernel
theorem dL_law_600 : decode code 600 = .ok (.iload 8, 2) := by decide +kernel
theorem dL_law_602 : decode code 602 = .ok (.iconst 1, 1) := by decide +kernel
theorem dL_law_603 : decode code 603 = .ok (.isub, 1) := by decide +kernel
theorem dL_law_604 : decode code 604 = .ok (.iconst 1, 1) := by decide +kernel
theorem dL_law_605 : decode code 605 = .ok (.invokevirtual 109, 3) := by decide +kernel
theorem dL_law_608 : decode code 608 = .ok (.ifCond .ne 17, 3) := by decide +kernel
theorem dL_law_611 : decode code 611 = .ok (.aload_n 1, 1) := by decide +kernel
theorem dL_law_612 : decode code 612 = .ok (.iload 5, 2) := by decide +kernel
theorem dL_law_614 : decode code 614 = .ok (.iload 8, 2) := by decide +kernel
theorem dL_law_616 : decode code 616 = .ok (.iconst 1, 1) := by decide +kernel
theorem dL_law_617 : decode code 617 = .ok (.invokevirtual 109, 3) := by decide +kernel
theorem dL_law_620 : decode code 620 = .ok (.ifCond .le 5, 3) := by decide +kernel
theorem dL_law_623 : decode code 623 = .ok (.iconst 0, 1) := by decide +kernel
theorem dL_law_624 : decode code 624 = .ok (.ireturn, 1) := by decide +kernel
theorem dL_law_625 : decode code 625 = .ok (.aload 7, 2) := by decide +kernel
theorem dL_law_627 : decode code 627 = .ok (.iload 9, 2) := by decide +kernel
theorem dL_law_629 : decode code 629 = .ok (.iconst 1, 1) := by decide +kernel
theorem dL_law_630 : decode code 630 = .ok (.bastore, 1) := by decide +kernel
theorem dL_law_631 : decode code 631 = .ok (.iinc 8 1, 3) := by decide +kernel
theorem dL_law_634 : decode code 634 = .ok (.goto (-80), 3) := by decide +kernel
theorem dL_law_637 : decode code 637 = .ok (.aload_n 1, 1) := by decide +kernel
theorem dL_law_638 : decode code 638 = .ok (.iload 5, 2) := by decide +kernel
theorem dL_law_640 : decode code 640 = .ok (.iconst 1, 1) := by decide +kernel
theorem dL_law_641 : decode code 641 = .ok (.invokevirtual 106, 3) := by decide +kernel
theorem dL_law_644 : decode code 644 = .ok (.iconst 1, 1) := by decide +kernel
theorem dL_law_645 : decode code 645 = .ok (.if_icmp .ne 12, 3) := by decide +kernel
theorem dL_law_648 : decode code 648 = .ok (.aload_n 1, 1) := by decide +kernel
theorem dL_law_649 : decode code 649 = .ok (.iload 5, 2) := by decide +kernel
theorem dL_law_651 : decode code 651 = .ok (.invokevirtual 111, 3) := by decide +kernel
theorem dL_law_654 : decode code 654 = .ok (.goto 4, 3) := by decide +kernel
theorem dL_law_657 : decode code 657 = .ok (.iconst 0, 1) := by decide +kernel
theorem dL_law_658 : decode code 658 = .ok (.istore 8, 2) := by decide +kernel
theorem dL_law_660 : decode code 660 = .ok (.aload_n 1, 1) := by decide +kernel
theorem dL_law_661 : decode code 661 = .ok (.iload 5, 2) := by decide +kernel
theorem dL_law_663 : decode code 663 = .ok (.iconst 1, 1) := by decide +kernel
theorem dL_law_664 : decode code 664 = .ok (.invokevirtual 106, 3) := by decide +kernel
theorem dL_law_667 : decode code 667 = .ok (.iconst 1, 1) := by decide +kernel
theorem dL_law_668 : decode code 668 = .ok (.if_icmp .ne 19, 3) := by decide +kernel
theorem dL_law_671 : decode code 671 = .ok (.aload_n 1, 1) := by decide +kernel
theorem dL_law_672 : decode code 672 = .ok (.iload 5, 2) := by decide +kernel
theorem dL_law_674 : decode code 674 = .ok (.iload 6, 2) := by decide +kernel
theorem dL_law_676 : decode code 676 = .ok (.iconst 1, 1) := by decide +kernel
theorem dL_law_677 : decode code 677 = .ok (.isub, 1) := by decide +kernel
theorem dL_law_678 : decode code 678 = .ok (.iconst 1, 1) := by decide +kernel
theorem dL_law_679 : decode code 679 = .ok (.invokevirtual 109, 3) := by decide +kernel
theorem dL_law_682 : decode code 682 = .ok (.iload 8, 2) := by decide +kernel
theorem dL_law_684 : decode code 684 = .ok (.if_icmp .lt 80, 3) := by decide +kernel
theorem dL_law_687 : decode code 687 = .ok (.aload_n 1, 1) := by decide +kernel
theorem dL_law_688 : decode code 688 = .ok (.iload 5, 2) := by decide +kernel
theorem dL_law_690 : decode code 690 = .ok (.iload 5, 2) := by decide +kernel
theorem dL_law_692 : decode code 692 = .ok (.invokevirtual 114, 3) := by decide +kernel
theorem dL_law_695 : decode code 695 = .ok (.ifCond .eq 69, 3) := by decide +kernel
theorem dL_law_698 : decode code 698 = .ok (.aload_n 1, 1) := by decide +kernel
theorem dL_law_699 : decode code 699 = .ok (.iload 5, 2) := by decide +kernel
theorem dL_law_701 : decode code 701 = .ok (.iconst 2, 1) := by decide +kernel
theorem dL_law_702 : decode code 702 = .ok (.invokevirtual 106, 3) := by decide +kernel
theorem dL_law_705 : decode code 705 = .ok (.iload 6, 2) := by decide +kernel
theorem dL_law_707 : decode code 707 = .ok (.if_icmp .gt 57, 3) := by decide +kernel
theorem dL_law_710 : decode code 710 = .ok (.aload_n 1, 1) := by decide +kernel
theorem dL_law_711 : decode code 711 = .ok (.iload 5, 2) := by decide +kernel
theorem dL_law_713 : decode code 713 = .ok (.iconst 2, 1) := by decide +kernel
theorem dL_law_714 : decode code 714 = .ok (.invokevirtual 106, 3) := by decide +kernel
theorem dL_law_717 : decode code 717 = .ok (.iconst 1, 1) := by decide +kernel
theorem dL_law_718 : decode code 718 = .ok (.if_icmp .lt 46, 3) := by decide +kernel
theorem dL_law_721 : decode code 721 = .ok (.aload_n 1, 1) := by decide +kernel
theorem dL_law_722 : decode code 722 = .ok (.iload 5, 2) := by decide +kernel
theorem dL_law_724 : decode code 724 = .ok (.iconst 1, 1) := by decide +kernel
theorem dL_law_725 : decode code 725 = .ok (.invokevirtual 106, 3) := by decide +kernel
theorem dL_law_728 : decode code 728 = .ok (.iconst 1, 1) := by decide +kernel
theorem dL_law_729 : decode code 729 = .ok (.if_icmp .ne 37, 3) := by decide +kernel
theorem dL_law_732 : decode code 732 = .ok (.aload_n 1, 1) := by decide +kernel
theorem dL_law_733 : decode code 733 = .ok (.iload 5, 2) := by decide +kernel
theorem dL_law_735 : decode code 735 = .ok (.iload 6, 2) := by decide +kernel
theorem dL_law_737 : decode code 737 = .ok (.iconst 1, 1) := by decide +kernel
theorem dL_law_738 : decode code 738 = .ok (.isub, 1) := by decide +kernel
theorem dL_law_739 : decode code 739 = .ok (.iconst 1, 1) := by decide +kernel
theorem dL_law_740 : decode code 740 = .ok (.invokevirtual 109, 3) := by decide +kernel
theorem dL_law_743 : decode code 743 = .ok (.ifCond .le 7, 3) := by decide +kernel
theorem dL_law_746 : decode code 746 = .ok (.iconst 1, 1) := by decide +kernel
theorem dL_law_747 : decode code 747 = .ok (.goto 4, 3) := by decide +kernel
theorem dL_law_750 : decode code 750 = .ok (.iconst 0, 1) := by decide +kernel
theorem dL_law_751 : decode code 751 = .ok (.iload 8, 2) := by decide +kernel
theorem dL_law_753 : decode code 753 = .ok (.ifCond .le 7, 3) := by decide +kernel
theorem dL_law_756 : decode code 756 = .ok (.iconst 1, 1) := by decide +kernel
theorem dL_law_757 : decode code 757 = .ok (.goto 4, 3) := by decide +kernel
theorem dL_law_760 : decode code 760 = .ok (.iconst 0, 1) := by decide +kernel
theorem dL_law_761 : decode code 761 = .ok (.if_icmp .eq 5, 3) := by decide +kernel
theorem dL_law_764 : decode code 764 = .ok (.iconst 0, 1) := by decide +kernel
theorem dL_law_765 : decode code 765 = .ok (.ireturn, 1) := by decide +kernel
theorem dL_law_766 : decode code 766 = .ok (.iconst 0, 1) := by decide +kernel
theorem dL_law_767 : decode code 767 = .ok (.istore 9, 2) := by decide +kernel
theorem dL_law_769 : decode code 769 = .ok (.iload 9, 2) := by decide +kernel
theorem dL_law_771 : decode code 771 = .ok (.iconst 3, 1) := by decide +kernel
theorem dL_law_772 : decode code 772 = .ok (.if_icmp .ge 55, 3) := by decide +kernel
theorem dL_law_775 : decode code 775 = .ok (.aload_n 1, 1) := by decide +kernel
theorem dL_law_776 : decode code 776 = .ok (.iload 5, 2) := by decide +kernel
theorem dL_law_778 : decode code 778 = .ok (.iload 9, 2) := by decide +kernel
theorem dL_law_780 : decode code 780 = .ok (.invokevirtual 114, 3) := by decide +kernel
theorem dL_law_783 : decode code 783 = .ok (.ifCond .eq 38, 3) := by decide +kernel
theorem dL_law_786 : decode code 786 = .ok (.aload_n 1, 1) := by decide +kernel
theorem dL_law_787 : decode code 787 = .ok (.iload 5, 2) := by decide +kernel
theorem dL_law_789 : decode code 789 = .ok (.iconst 1, 1) := by decide +kernel
theorem dL_law_790 : decode code 790 = .ok (.invokevirtual 106, 3) := by decide +kernel
theorem dL_law_793 : decode code 793 = .ok (.iconst 1, 1) := by decide +kernel
theorem dL_law_794 : decode code 794 = .ok (.if_icmp .ne 27, 3) := by decide +kernel
theorem dL_law_797 : decode code 797 = .ok (.aload_n 1, 1) := by decide +kernel
theorem dL_law_798 : decode code 798 = .ok (.iload 9, 2) := by decide +kernel
theorem dL_law_800 : decode code 800 = .ok (.iconst 1, 1) := by decide +kernel
theorem dL_law_801 : decode code 801 = .ok (.invokevirtual 106, 3) := by decide +kernel
theorem dL_law_804 : decode code 804 = .ok (.iconst 1, 1) := by decide +kernel
theorem dL_law_805 : decode code 805 = .ok (.if_icmp .ne 16, 3) := by decide +kernel
theorem dL_law_808 : decode code 808 = .ok (.iload 8, 2) := by decide +kernel
theorem dL_law_810 : decode code 810 = .ok (.aload_n 1, 1) := by decide +kernel
theorem dL_law_811 : decode code 811 = .ok (.iload 9, 2) := by decide +kernel
theorem dL_law_813 : decode code 813 = .ok (.invokevirtual 111, 3) := by decide +kernel
theorem dL_law_816 : decode code 816 = .ok (.if_icmp .le 5, 3) := by decide +kernel
theorem dL_law_819 : decode code 819 = .ok (.iconst 0, 1) := by decide +kernel
theorem dL_law_820 : decode code 820 = .ok (.ireturn, 1) := by decide +kernel
theorem dL_law_821 : decode code 821 = .ok (.iinc 9 1, 3) := by decide +kernel
theorem dL_law_824 : decode code 824 = .ok (.goto (-55), 3) := by decide +kernel
theorem dL_law_827 : decode code 827 = .ok (.iinc 5 1, 3) := by decide +kernel
theorem dL_law_830 : decode code 830 = .ok (.goto (-299), 3) := by decide +kernel
theorem dL_law_833 : decode code 833 = .ok (.aload_n 1, 1) := by decide +kernel
theorem dL_law_834 : decode code 834 = .ok (.invokevirtual 66, 3) := by decide +kernel
theorem dL_law_837 : decode code 837 = .ok (.lload_n 3, 1) := by decide +kernel
theorem dL_law_838 : decode code 838 = .ok (.lcmp, 1) := by decide +kernel
theorem dL_law_839 : decode code 839 = .ok (.ifCond .eq 5, 3) := by decide +kernel
theorem dL_law_842 : decode code 842 = .ok (.iconst 0, 1) := by decide +kernel
theorem dL_law_843 : decode code 843 = .ok (.ireturn, 1) := by decide +kernel
theorem dL_law_844 : decode code 844 = .ok (.aload_n 0, 1) := by decide +kernel
theorem dL_law_845 : decode code 845 = .ok (.bipush 15, 2) := by decide +kernel
theorem dL_law_847 : decode code 847 = .ok (.invokestatic 18, 3) := by decide +kernel
theorem dL_law_850 : decode code 850 = .ok (.iconst 3, 1) := by decide +kernel
theorem dL_law_851 : decode code 851 = .ok (.invokestatic 9, 3) := by decide +kernel
theorem dL_law_854 : decode code 854 = .ok (.istore 5, 2) := by decide +kernel
theorem dL_law_856 : decode code 856 = .ok (.aload_n 1, 1) := by decide +kernel
theorem dL_law_857 : decode code 857 = .ok (.iload 5, 2) := by decide +kernel
theorem dL_law_859 : decode code 859 = .ok (.iconst 1, 1) := by decide +kernel
theorem dL_law_860 : decode code 860 = .ok (.invokevirtual 106, 3) := by decide +kernel
theorem dL_law_863 : decode code 863 = .ok (.iconst 1, 1) := by decide +kernel
theorem dL_law_864 : decode code 864 = .ok (.if_icmp .ne 12, 3) := by decide +kernel
theorem dL_law_867 : decode code 867 = .ok (.aload_n 1, 1) := by decide +kernel
theorem dL_law_868 : decode code 868 = .ok (.iload 5, 2) := by decide +kernel
theorem dL_law_870 : decode code 870 = .ok (.invokevirtual 111, 3) := by decide +kernel
theorem dL_law_873 : decode code 873 = .ok (.goto 4, 3) := by decide +kernel
theorem dL_law_876 : decode code 876 = .ok (.iconst (-1), 1) := by decide +kernel
theorem dL_law_877 : decode code 877 = .ok (.istore 6, 2) := by decide +kernel
theorem dL_law_879 : decode code 879 = .ok (.aload_n 1, 1) := by decide +kernel
theorem dL_law_880 : decode code 880 = .ok (.iload 5, 2) := by decide +kernel
theorem dL_law_882 : decode code 882 = .ok (.iconst 2, 1) := by decide +kernel
theorem dL_law_883 : decode code 883 = .ok (.invokevirtual 106, 3) := by decide +kernel
theorem dL_law_886 : decode code 886 = .ok (.istore 7, 2) := by decide +kernel
theorem dL_law_888 : decode code 888 = .ok (.aload_n 1, 1) := by decide +kernel
theorem dL_law_889 : decode code 889 = .ok (.iload 5, 2) := by decide +kernel
theorem dL_law_891 : decode code 891 = .ok (.invokevirtual 118, 3) := by decide +kernel
theorem dL_law_894 : decode code 894 = .ok (.ifCond .lt 44, 3) := by decide +kernel
theorem dL_law_897 : decode code 897 = .ok (.aload_n 1, 1) := by decide +kernel
theorem dL_law_898 : decode code 898 = .ok (.iload 5, 2) := by decide +kernel
theorem dL_law_900 : decode code 900 = .ok (.iconst 0, 1) := by decide +kernel
theorem dL_law_901 : decode code 901 = .ok (.invokevirtual 106, 3) := by decide +kernel
theorem dL_law_904 : decode code 904 = .ok (.iload 7, 2) := by decide +kernel
theorem dL_law_906 : decode code 906 = .ok (.if_icmp .ne 32, 3) := by decide +kernel
theorem dL_law_909 : decode code 909 = .ok (.iload 6, 2) := by decide +kernel
theorem dL_law_911 : decode code 911 = .ok (.ifCond .lt 14, 3) := by decide +kernel
theorem dL_law_914 : decode code 914 = .ok (.aload_n 1, 1) := by decide +kernel
theorem dL_law_915 : decode code 915 = .ok (.iload 5, 2) := by decide +kernel
theorem dL_law_917 : decode code 917 = .ok (.invokevirtual 111, 3) := by decide +kernel
theorem dL_law_920 : decode code 920 = .ok (.iload 6, 2) := by decide +kernel
theorem dL_law_922 : decode code 922 = .ok (.if_icmp .ne 16, 3) := by decide +kernel
theorem dL_law_925 : decode code 925 = .ok (.aload_n 1, 1) := by decide +kernel
theorem dL_law_926 : decode code 926 = .ok (.iload 5, 2) := by decide +kernel
theorem dL_law_928 : decode code 928 = .ok (.invokevirtual 118, 3) := by decide +kernel
theorem dL_law_931 : decode code 931 = .ok (.ifCond .ne 7, 3) := by decide +kernel
theorem dL_law_934 : decode code 934 = .ok (.iconst 1, 1) := by decide +kernel
theorem dL_law_935 : decode code 935 = .ok (.goto 4, 3) := by decide +kernel
theorem dL_law_938 : decode code 938 = .ok (.iconst 0, 1) := by decide +kernel
theorem dL_law_939 : decode code 939 = .ok (.ireturn, 1) := by decide +kernel
theorem arr_of {s : State} {ty : FieldType} {cA comp : ClassId} {kA : Class} (h2 : s.vm.classes[cA]? = some kA) (h3 : kA.kind = .array comp ty) : ArrOfT s cA ty := fun n z => ⟨fun k h => (by cases h), kA, h2, comp, h3⟩
theorem cy_prim {s : State} {args : Array Value} {ty : FieldType} (h : (Cond.arrayClass ty).before args s = true) : ∃ cA, ArrOfT s cA ty ∧ s.vm.findClass ("[" ++ ty.toString) = some cA := by
  obtain ⟨cA, kA, comp, h1, h2, h3⟩ := Cond.arrayClass_spec h
  exact ⟨cA, arr_of h2 h3, h1⟩
theorem cy_obj {s : State} {C : String} (h : va_AO C s) : ∃ cA, ArrOfT s cA (.object C) ∧ va_RA s cA (.object C) := by
  obtain ⟨comp, cA, kA, h1, -, h3, h4, h5⟩ := Cond.arrayOver_spec h
  exact ⟨cA, arr_of h3 h4, kA, comp, h3, h4, h1, h5⟩
theorem cy_arr {s : State} {t : FieldType} (h : va_AT t s) : ∃ cA, ArrOfT s cA (.array t) ∧ s.vm.findClass ("[" ++ (FieldType.array t).toString) = some cA := by
  obtain ⟨comp, cA, kA, h1, -, h3, h4, h5⟩ := arrayOverA_spec h
  exact ⟨cA, arr_of h3 h4, h5⟩
theorem nwM_in : (nwM.all fun q => decide (Cond.methodLinkNest q.1 q.2.1 q.2.2.1 q.2.2.2 ∈ lw_tbl)) = true := by decide +kernel
theorem nwA_in : (nwA.all fun C => decide (Cond.arrayOver (.object C) ∈ lw_tbl)) = true := by decide +kernel
theorem nwT_in : (nwT.all fun t => decide (Cond.arrayOver (.array t) ∈ lw_tbl)) = true := by decide +kernel
theorem nw_start {s : State} {args : Array Value} (hts : ∀ w ∈ lw_tbl, w.before args s = true) : nw s :=
  ⟨fun q hq => va_tabs (A := args) rfl rfl (hts _ (of_decide_eq_true (List.all_eq_true.mp nwM_in q hq))), fun C hC => va_AO.of (hts _ (of_decide_eq_true (List.all_eq_true.mp nwA_in C hC))), fun t ht => (hts _ (of_decide_eq_true (List.all_eq_true.mp nwT_in t ht)) : (Cond.arrayOver (.array t)).before args s = true)⟩
theorem cy_start {s : State} {args : Array Value} (hts : ∀ w ∈ lw_tbl, w.before args s = true) : ∃ cy : Nat → ClassId, ∀ (k : Nat) (q : ClassId × FieldType), (tysG cy)[k]? = some q → ArrOfT s q.1 q.2 ∧ va_RA s q.1 q.2 := by
  have hn := nw_start hts
  obtain ⟨c0, a0, b0⟩ := cy_prim (hts _ (WALL_tbl _ ac_int))
  obtain ⟨c1, a1, b1⟩ := cy_prim (hts _ (WALL_tbl _ ac_boolean))
  obtain ⟨c2, a2, b2⟩ := cy_obj (hn.2.1 RX4 (List.mem_of_getElem? (i := 0) rfl))
  obtain ⟨c3, a3, b3⟩ := cy_obj (hn.2.1 RX1 (List.mem_of_getElem? (i := 1) rfl))
  obtain ⟨c4, a4, b4⟩ := cy_obj (hn.2.1 RX6 (List.mem_of_getElem? (i := 2) rfl))
  obtain ⟨c5, a5, b5⟩ := cy_obj (hn.2.1 RX0 (List.mem_of_getElem? (i := 3) rfl))
  obtain ⟨c6, a6, b6⟩ := cy_arr (hn.2.2 .int (List.mem_of_getElem? (i := 0) rfl))
  obtain ⟨c7, a7, b7⟩ := cy_arr (hn.2.2 (.array .int) (List.mem_of_getElem? (i := 1) rfl))
  refine ⟨fun k => if k = 0 then c0 else if k = 1 then c1 else if k = 2 then c2 else if k = 3 then c3 else if k = 4 then c4 else if k = 5 then c5 else if k = 6 then c6 else c7, fun k q hq => ?_⟩
  match k, hq with
  | 0, hq => cases hq; exact ⟨a0, b0⟩
  | 1, hq => cases hq; exact ⟨a1, b1⟩
  | 2, hq => cases hq; exact ⟨a2, b2⟩
  | 3, hq => cases hq; exact ⟨a3, b3⟩
  | 4, hq => cases hq; exact ⟨a4, b4⟩
  | 5, hq => cases hq; exact ⟨a5, b5⟩
  | 6, hq => cases hq; exact ⟨a6, b6⟩
  | 7, hq => cases hq; exact ⟨a7, b7⟩
  | k + 8, hq => simp [tysG] at hq
theorem cl_start {s : State} {args : Array Value} (hts : ∀ w ∈ lw_tbl, w.before args s = true) : ∃ D : va_G, ∀ (c : Nat) (q : vw_C), vwCl[c]? = some q → u_Kn s q.1 q.2.1 q.2.2 (D.1 c) (D.2 c) := by
  have hw : ∀ w ∈ WALL, w.before args s = true := fun w h => hts w (WALL_tbl w h)
  have h : ∀ k : Nat, ∃ (cC : ClassId) (iS : Nat → Nat), ∀ q : vw_C, vwCl[k]? = some q → u_Kn s q.1 q.2.1 q.2.2 cC iS := by
    intro k
    match k with
    | 0 => obtain ⟨cC, iS, hk⟩ := u_known hw inX0 (hw _ it_X0); exact ⟨cC, iS, fun q hq => by cases hq; exact hk⟩
    | 1 => obtain ⟨cC, iS, hk⟩ := u_known hw inX1 (hw _ it_X1); exact ⟨cC, iS, fun q hq => by cases hq; exact hk⟩
    | 2 => obtain ⟨cC, iS, hk⟩ := u_known hw inX2 (hw _ it_X2); exact ⟨cC, iS, fun q hq => by cases hq; exact hk⟩
    | 3 => obtain ⟨cC, iS, hk⟩ := u_known hw inX3 (hw _ it_X3); exact ⟨cC, iS, fun q hq => by cases hq; exact hk⟩
    | 4 => obtain ⟨cC, iS, hk⟩ := u_known hw inX4 (hw _ it_X4); exact ⟨cC, iS, fun q hq => by cases hq; exact hk⟩
    | 5 => obtain ⟨cC, iS, hk⟩ := u_known hw inX5 (hw _ it_X5); exact ⟨cC, iS, fun q hq => by cases hq; exact hk⟩
    | 6 => obtain ⟨cC, iS, hk⟩ := u_known hw inX6 (hw _ it_X6); exact ⟨cC, iS, fun q hq => by cases hq; exact hk⟩
    | 7 => obtain ⟨cC, iS, hk⟩ := u_known hw inX7 (hw _ it_X7); exact ⟨cC, iS, fun q hq => by cases hq; exact hk⟩
    | 8 => obtain ⟨cC, iS, hk⟩ := u_known hw inX8 (hw _ it_X8); exact ⟨cC, iS, fun q hq => by cases hq; exact hk⟩
    | 9 => obtain ⟨cC, iS, hk⟩ := u_known hw inX9 (hw _ it_X9); exact ⟨cC, iS, fun q hq => by cases hq; exact hk⟩
    | 10 => obtain ⟨cC, iS, hk⟩ := u_known hw inX10 (hw _ it_X10); exact ⟨cC, iS, fun q hq => by cases hq; exact hk⟩
    | k + 11 => exact ⟨0, fun _ => 0, fun q hq => by simp [vwCl] at hq⟩
  exact ⟨(fun k => Classical.choose (h k), fun k => Classical.choose (Classical.choose_spec (h k))), fun c q hq => Classical.choose_spec (Classical.choose_spec (h c)) q hq⟩
/-- the law's end with 1 -/
theorem z_lawEnd {D : va_G} {cy : Nat → ClassId} {O : Nat × va_E → Prop} {p : Program} {l : Launch} {e : Env} {s : State} {m : MethodId} {below : List Frame} {meth : Method} {c : Code} {b : Nat} {ws : va_W} {lv : List (Nat × Value)} {k n : Nat} (X : Cx D cy O (fun q : Nat => s.heap.size ≤ q) code 16 RL p s m #[.ref b] meth c) (hr : meth.sig.returnType = ret) (hk : k ≤ room_1.cells) (hn : n ≤ room_1.slots) : Zz D (fun q : Nat => s.heap.size ≤ q) 16 p l e room_1 s m #[.ref b] below meth c (lw_Z below #[.ref b] s) ws lv k n 939 [.int 1] := by
  intro H locs ls hP hD hS hl
  refine W.widen hk hn ?_
  refine va_forget (fun q hq => hS.2.2 q hq) ?_
  exact W.base (lw_ret (d0 := s.drawn) (Drawn.sameBut.refl s.drawn lw_cs) X.1 X.2.1 hr X.locks dL_law_939)
/-- the law's entry -/
theorem z_lawStart {p : Program} {e : Env} {s : State} {m : MethodId} {below : List Frame} {meth : Method} {c : Code} (l : Launch) {b L : Nat} {xs : Nat → Int32} (C0 : lw_At p s m meth c b L xs)
    (kk : ∀ (D : va_G) (cy : Nat → ClassId), Cx D cy (fun _ => False) (fun q : Nat => s.heap.size ≤ q) code 16 RL p s m #[.ref b] meth c → va_X b L xs s s.heap → b < s.heap.size → ¬ (fun q : Nat => s.heap.size ≤ q) b → meth.sig.returnType = ret → Zz D (fun q : Nat => s.heap.size ≤ q) 16 p l e room_1 s m #[.ref b] below meth c (lw_Z below #[.ref b] s) [] [(0, .ref b)] 0 0 0 []) : W p l e room_1 s m #[Value.ref b] below meth c s.heap [] 0 0 (lw_Z below #[Value.ref b] s) (entryFrame m ([Value.ref b] : List Value).toArray 16) := by
  obtain ⟨hx, hb, hr, hml, hown, hts, hX, hbl, hlocks, -⟩ := C0
  obtain ⟨cy, hcy⟩ := cy_start hts
  obtain ⟨D, hD⟩ := cl_start hts
  have X : Cx D cy (fun _ => False) (fun q : Nat => s.heap.size ≤ q) code 16 RL p s m #[.ref b] meth c := ⟨hx, hb, hml, hown, fun w h => hts w (WALL_tbl w h), ⟨hD, hcy⟩, fun _ h => h, fun q h => h.elim, nw_start hts, hlocks⟩
  have hl := lv_entry ([.ref b]) (n := 16) (Nat.le_of_ble_eq_true rfl)
  rw [lg_entry_eq]
  exact kk D cy X hX hbl (Nat.not_le.mpr hbl) hr s.heap [] _ (fun k q h => by simp at h) ⟨fun i j p q h => by simp at h, fun k q h => by simp at h⟩ va_S.rf hl
section CALC6
variable {D : va_G} {cy : Nat → ClassId} {O : Nat × va_E → Prop} {A : Nat → Prop} {cc : ByteArray} {nL : Nat} {own : String} {p : Program} {l : Launch} {e : Env} {R : Room} {s : State} {m : MethodId} {args : Array Value} {below : List Frame} {meth : Method} {c : Code} {Q : State → Prop} {ws wT : va_W} {lv : List (Nat × Value)} {k n pc : Nat} {st : List Value}
/-- an element of an array over arrays that is among the cells -/
theorem z_aaldM (X : Cx D cy O A cc nL own p s m args meth c) {t : FieldType} {k6 N a b : Nat} {f : Nat → Option Nat} (he : (a, .inl (cy k6, N, .inr (.inr (.inr (.inr f))))) ∈ ws) (h6 : (tysG cy)[k6]? = some (cy k6, .array t)) {i : Int32} (hi : vp_in i N) (hv : f i.toNatClampNeg = some b) (hd : decode cc pc = .ok (.aaload, 1)) (kk : Zz D A nL p l e R s m args below meth c Q ws lv k n (pc + 1) (.ref b :: st)) : Zz D A nL p l e R s m args below meth c Q ws lv k n pc (.int i :: .ref a :: st) := by
  obtain ⟨q0, hq⟩ := List.getElem?_of_mem he
  exact z_aaldAW X q0 hq h6 hi hv hd kk
/-- a field of a cell that is among the cells -/
theorem z_lset {ws' : va_W} (h : ∀ q, q ∈ ws' → q ∈ ws) (hn : ws' = ws) (kk : Zz D A nL p l e R s m args below meth c Q ws' lv k n pc st) : Zz D A nL p l e R s m args below meth c Q ws lv k n pc st := hn ▸ kk
end CALC6
