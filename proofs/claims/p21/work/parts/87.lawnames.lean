/-! THE CLAIM OUT OF ONE WALK OF THE LAW'S BODY. Your part is whole_start (and what it stands on); all else here is the same for every law, but numbers. -/
def R_law : String := "FieldRelayLaw"
def lw_P (b : Addr) (xs : List Int32) (args : Array Value) (s : State) : Prop := args = #[.ref b] ∧ s.IntsAt b xs ∧ xs.length ≤ 2560 ∧ (Jvm.Cond.and given_1 narrow_1).before args s = true
def lw_Q (_ : Array Value) (s : State) (o : Outcome) (t : State) : Prop := o = .returned (some (.int 1)) ∧ Framed s o t [] 628245 7217514
def lw_Z (below : List Frame) (a : Array Value) (s : State) : State → Prop := fun t => ∃ o, t.status = .running ∧ Ended t below o ∧ lw_Q a s o t
/-- the law's own end, with 1 on the stack, nothing written that was there before, its room as the claim has it -/
theorem lw_ret {p : Program} {l : Launch} {e : Env} {s : State} {m : MethodId} {below : List Frame} {meth : Method} {c : Code} {b : Nat} (hx : p.tables.exec = Jvm.exec) (hb : c.code = code) (hr : meth.sig.returnType = ret) (hlocks : meth.locks = false) {pc : Nat} {H : Heap} {ls : Array Slot} (hdg : decode code pc = .ok (.ireturn, 1)) : W p l e room_1 s m #[Value.ref b] below meth c H [] 628245 7217514 (lw_Z below #[Value.ref b] s) (F0 m pc ls [.int 1]) := by
  intro T hT X
  obtain ⟨fs, hret, hrun, hended, hW, hframe⟩ := X.leave (v := some (.int 1)) (hlocks := hlocks) (fun h => by rw [hr] at h; cases h)
  have hmeth' : T.vm.method? m = some meth := X.method'
  refine ⟨T.setFrames fs, ?_, .returned (some (.int 1)), hrun, hended, rfl, ⟨_, rfl⟩, hW, hframe⟩
  jvm_step X.here [X.here.top, hx, hb, hdg, hmeth', hr, ret, narrow_b1]
  (try refine ⟨rfl, ?_⟩); (try refine ⟨rfl, ?_⟩)
  first | (intro acts; rw [hret _ acts rfl rfl rfl]) | rw [hret _ _ rfl rfl rfl]
  exact Steps.refl _
/-- what holds at the law's entry: the machine, the code, the tables' words (any of lw_tbl by 'hts w (by decide +kernel)'), the script of L ints xs at the cell b, what the Statement gives of the start (any of its parts by flat_of_before) -/
def lw_At (p : Program) (s : State) (m : MethodId) (meth : Method) (c : Code) (b L : Nat) (xs : Nat → Int32) : Prop :=
  p.tables.exec = Jvm.exec ∧ c.code = code ∧ meth.sig.returnType = ret ∧ c.maxLocals = 4 ∧ s.vm.findClass R_law = some m.cls ∧ (∀ w ∈ lw_tbl, w.before #[Value.ref b] s = true) ∧ va_X b L xs s s.heap ∧ b < s.heap.size ∧ meth.locks = false ∧ (Jvm.Cond.and given_1 narrow_1).before #[Value.ref b] s = true

theorem LI_FR : Cond.instantiable R_FR 9 ∈ vTB := vTB_in 15 (by decide +kernel) rfl
theorem LI_Mo : Cond.instantiable R_Mo 57 ∈ vTB := vTB_in 758 (by decide +kernel) rfl
theorem LO_Fm : Cond.arrayOver (.object R_Fm) ∈ lw_tbl := List.mem_append_right _ (List.mem_of_getElem? (i := 50) (by decide +kernel))
theorem LO_Re : Cond.arrayOver (.object R_Re) ∈ lw_tbl := List.mem_append_right _ (List.mem_of_getElem? (i := 116) (by decide +kernel))
theorem LO_De : Cond.arrayOver (.object R_De) ∈ lw_tbl := List.mem_append_right _ (List.mem_of_getElem? (i := 118) (by decide +kernel))
theorem vNL_ix : vNL = ([52, 103, 126, 209, 212, 383, 386, 486, 511, 542, 550, 555, 577, 590, 662, 716, 748] : List Nat).filterMap (fun i => tables_1[i]?) := by decide +kernel
theorem vNL_in : ∀ w ∈ vNL, w ∈ lw_tbl := fun w hw => by
  rw [vNL_ix] at hw
  obtain ⟨i, -, hi⟩ := List.mem_filterMap.mp hw
  exact List.mem_append_right _ (List.mem_of_getElem? hi)
theorem lw_nest {b : Nat} {s : State} (h : ∀ w ∈ lw_tbl, w.before #[Value.ref b] s = true) : fw_N vNL s := ⟨by decide, fun w hw => by
  have h1 : fw_isN w = true := (show ∀ w ∈ vNL, fw_isN w = true by decide) w hw
  have h2 := h w (vNL_in w hw)
  cases w <;> first | exact h2 | (simp [fw_isN] at h1; done)⟩
theorem mw_Mo_init {R : Room} {s : State} {args : Array Value} {own : String} {index : Nat} (hts : ∀ w ∈ vTB, w.before args s = true) (hl : Cond.methodLink own index my_Mo_init ∈ vTB) (hR : mrm_Mo_init.frames + 1 ≤ R.frames ∧ 8 + (2 + 11) + mrm_Mo_init.locals ≤ R.locals) : CallB R s args own index my_Mo_init mb_Mo_init 2 none (Cond.code my_Mo_init mb_Mo_init 2 none :: vTB) mrm_Mo_init 48 368 0 ∧ my_Mo_init.name = "<init>" ∧ (Cond.instanceMethod my_Mo_init).before args s = true := cwI 0 hts (fw_gI vTB_good mK_Mo_init) rfl rfl rfl (hts _ N_Mo) (hts _ hl) (hts _ mI_Mo_init) rfl (by decide +kernel) hR
theorem d_law_0 : decode code 0 = .ok (.new 7, 3) := by decide +kernel
theorem d_law_3 : decode code 3 = .ok (.dup, 1) := by decide +kernel
theorem d_law_4 : decode code 4 = .ok (.invokespecial 9, 3) := by decide +kernel
theorem d_law_7 : decode code 7 = .ok (.astore_n 1, 1) := by decide +kernel
theorem d_law_8 : decode code 8 = .ok (.new 10, 3) := by decide +kernel
theorem d_law_11 : decode code 11 = .ok (.dup, 1) := by decide +kernel
theorem d_law_12 : decode code 12 = .ok (.invokespecial 12, 3) := by decide +kernel
theorem d_law_15 : decode code 15 = .ok (.astore_n 2, 1) := by decide +kernel
theorem d_law_16 : decode code 16 = .ok (.iconst 0, 1) := by decide +kernel
theorem d_law_17 : decode code 17 = .ok (.istore_n 3, 1) := by decide +kernel
theorem d_law_18 : decode code 18 = .ok (.iload_n 3, 1) := by decide +kernel
theorem d_law_19 : decode code 19 = .ok (.aload_n 0, 1) := by decide +kernel
theorem d_law_20 : decode code 20 = .ok (.arraylength, 1) := by decide +kernel
theorem d_law_21 : decode code 21 = .ok (.iconst 5, 1) := by decide +kernel
theorem d_law_22 : decode code 22 = .ok (.isub, 1) := by decide +kernel
theorem d_law_23 : decode code 23 = .ok (.if_icmp .gt 827, 3) := by decide +kernel
theorem d_law_26 : decode code 26 = .ok (.aload_n 0, 1) := by decide +kernel
theorem d_law_27 : decode code 27 = .ok (.iload_n 3, 1) := by decide +kernel
theorem d_law_28 : decode code 28 = .ok (.iaload, 1) := by decide +kernel
theorem d_law_29 : decode code 29 = .ok (.bipush 31, 2) := by decide +kernel
theorem d_law_31 : decode code 31 = .ok (.iand, 1) := by decide +kernel
theorem d_law_32 : decode code 32 = .ok (.tableswitch 812 0 19 #[96, 165, 198, 241, 284, 337, 370, 423, 476, 499, 522, 545, 568, 591, 614, 647, 680, 713, 766, 789], 96) := by decide +kernel
theorem d_law_128 : decode code 128 = .ok (.aload_n 1, 1) := by decide +kernel
theorem d_law_129 : decode code 129 = .ok (.aload_n 0, 1) := by decide +kernel
theorem d_law_130 : decode code 130 = .ok (.iload_n 3, 1) := by decide +kernel
theorem d_law_131 : decode code 131 = .ok (.iconst 1, 1) := by decide +kernel
theorem d_law_132 : decode code 132 = .ok (.iadd, 1) := by decide +kernel
theorem d_law_133 : decode code 133 = .ok (.iaload, 1) := by decide +kernel
theorem d_law_134 : decode code 134 = .ok (.aload_n 0, 1) := by decide +kernel
theorem d_law_135 : decode code 135 = .ok (.iload_n 3, 1) := by decide +kernel
theorem d_law_136 : decode code 136 = .ok (.iconst 2, 1) := by decide +kernel
theorem d_law_137 : decode code 137 = .ok (.iadd, 1) := by decide +kernel
theorem d_law_138 : decode code 138 = .ok (.iaload, 1) := by decide +kernel
theorem d_law_139 : decode code 139 = .ok (.aload_n 0, 1) := by decide +kernel
theorem d_law_140 : decode code 140 = .ok (.iload_n 3, 1) := by decide +kernel
theorem d_law_141 : decode code 141 = .ok (.iconst 3, 1) := by decide +kernel
theorem d_law_142 : decode code 142 = .ok (.iadd, 1) := by decide +kernel
theorem d_law_143 : decode code 143 = .ok (.iaload, 1) := by decide +kernel
theorem d_law_144 : decode code 144 = .ok (.aload_n 0, 1) := by decide +kernel
theorem d_law_145 : decode code 145 = .ok (.iload_n 3, 1) := by decide +kernel
theorem d_law_146 : decode code 146 = .ok (.iconst 4, 1) := by decide +kernel
theorem d_law_147 : decode code 147 = .ok (.iadd, 1) := by decide +kernel
theorem d_law_148 : decode code 148 = .ok (.iaload, 1) := by decide +kernel
theorem d_law_149 : decode code 149 = .ok (.ifCond .eq 7, 3) := by decide +kernel
theorem d_law_152 : decode code 152 = .ok (.iconst 1, 1) := by decide +kernel
theorem d_law_153 : decode code 153 = .ok (.goto 4, 3) := by decide +kernel
theorem d_law_156 : decode code 156 = .ok (.iconst 0, 1) := by decide +kernel
theorem d_law_157 : decode code 157 = .ok (.invokevirtual 13, 3) := by decide +kernel
theorem d_law_160 : decode code 160 = .ok (.pop, 1) := by decide +kernel
theorem d_law_161 : decode code 161 = .ok (.aload_n 2, 1) := by decide +kernel
theorem d_law_162 : decode code 162 = .ok (.aload_n 0, 1) := by decide +kernel
theorem d_law_163 : decode code 163 = .ok (.iload_n 3, 1) := by decide +kernel
theorem d_law_164 : decode code 164 = .ok (.iconst 1, 1) := by decide +kernel
theorem d_law_165 : decode code 165 = .ok (.iadd, 1) := by decide +kernel
theorem d_law_166 : decode code 166 = .ok (.iaload, 1) := by decide +kernel
theorem d_law_167 : decode code 167 = .ok (.aload_n 0, 1) := by decide +kernel
theorem d_law_168 : decode code 168 = .ok (.iload_n 3, 1) := by decide +kernel
theorem d_law_169 : decode code 169 = .ok (.iconst 2, 1) := by decide +kernel
theorem d_law_170 : decode code 170 = .ok (.iadd, 1) := by decide +kernel
theorem d_law_171 : decode code 171 = .ok (.iaload, 1) := by decide +kernel
theorem d_law_172 : decode code 172 = .ok (.aload_n 0, 1) := by decide +kernel
theorem d_law_173 : decode code 173 = .ok (.iload_n 3, 1) := by decide +kernel
theorem d_law_174 : decode code 174 = .ok (.iconst 3, 1) := by decide +kernel
theorem d_law_175 : decode code 175 = .ok (.iadd, 1) := by decide +kernel
theorem d_law_176 : decode code 176 = .ok (.iaload, 1) := by decide +kernel
theorem d_law_177 : decode code 177 = .ok (.aload_n 0, 1) := by decide +kernel
theorem d_law_178 : decode code 178 = .ok (.iload_n 3, 1) := by decide +kernel
theorem d_law_179 : decode code 179 = .ok (.iconst 4, 1) := by decide +kernel
theorem d_law_180 : decode code 180 = .ok (.iadd, 1) := by decide +kernel
theorem d_law_181 : decode code 181 = .ok (.iaload, 1) := by decide +kernel
theorem d_law_182 : decode code 182 = .ok (.ifCond .eq 7, 3) := by decide +kernel
theorem d_law_185 : decode code 185 = .ok (.iconst 1, 1) := by decide +kernel
theorem d_law_186 : decode code 186 = .ok (.goto 4, 3) := by decide +kernel
theorem d_law_189 : decode code 189 = .ok (.iconst 0, 1) := by decide +kernel
theorem d_law_190 : decode code 190 = .ok (.invokevirtual 17, 3) := by decide +kernel
theorem d_law_193 : decode code 193 = .ok (.pop, 1) := by decide +kernel
theorem d_law_194 : decode code 194 = .ok (.goto 650, 3) := by decide +kernel
theorem d_law_197 : decode code 197 = .ok (.aload_n 1, 1) := by decide +kernel
theorem d_law_198 : decode code 198 = .ok (.aload_n 0, 1) := by decide +kernel
theorem d_law_199 : decode code 199 = .ok (.iload_n 3, 1) := by decide +kernel
theorem d_law_200 : decode code 200 = .ok (.iconst 1, 1) := by decide +kernel
theorem d_law_201 : decode code 201 = .ok (.iadd, 1) := by decide +kernel
theorem d_law_202 : decode code 202 = .ok (.iaload, 1) := by decide +kernel
theorem d_law_203 : decode code 203 = .ok (.aload_n 0, 1) := by decide +kernel
theorem d_law_204 : decode code 204 = .ok (.iload_n 3, 1) := by decide +kernel
theorem d_law_205 : decode code 205 = .ok (.iconst 2, 1) := by decide +kernel
theorem d_law_206 : decode code 206 = .ok (.iadd, 1) := by decide +kernel
theorem d_law_207 : decode code 207 = .ok (.iaload, 1) := by decide +kernel
theorem d_law_208 : decode code 208 = .ok (.invokevirtual 18, 3) := by decide +kernel
theorem d_law_211 : decode code 211 = .ok (.pop, 1) := by decide +kernel
theorem d_law_212 : decode code 212 = .ok (.aload_n 2, 1) := by decide +kernel
theorem d_law_213 : decode code 213 = .ok (.aload_n 0, 1) := by decide +kernel
theorem d_law_214 : decode code 214 = .ok (.iload_n 3, 1) := by decide +kernel
theorem d_law_215 : decode code 215 = .ok (.iconst 1, 1) := by decide +kernel
theorem d_law_216 : decode code 216 = .ok (.iadd, 1) := by decide +kernel
theorem d_law_217 : decode code 217 = .ok (.iaload, 1) := by decide +kernel
theorem d_law_218 : decode code 218 = .ok (.aload_n 0, 1) := by decide +kernel
theorem d_law_219 : decode code 219 = .ok (.iload_n 3, 1) := by decide +kernel
theorem d_law_220 : decode code 220 = .ok (.iconst 2, 1) := by decide +kernel
theorem d_law_221 : decode code 221 = .ok (.iadd, 1) := by decide +kernel
theorem d_law_222 : decode code 222 = .ok (.iaload, 1) := by decide +kernel
theorem d_law_223 : decode code 223 = .ok (.invokevirtual 22, 3) := by decide +kernel
theorem d_law_226 : decode code 226 = .ok (.pop, 1) := by decide +kernel
theorem d_law_227 : decode code 227 = .ok (.goto 617, 3) := by decide +kernel
theorem d_law_230 : decode code 230 = .ok (.aload_n 1, 1) := by decide +kernel
theorem d_law_231 : decode code 231 = .ok (.aload_n 0, 1) := by decide +kernel
theorem d_law_232 : decode code 232 = .ok (.iload_n 3, 1) := by decide +kernel
theorem d_law_233 : decode code 233 = .ok (.iconst 1, 1) := by decide +kernel
theorem d_law_234 : decode code 234 = .ok (.iadd, 1) := by decide +kernel
theorem d_law_235 : decode code 235 = .ok (.iaload, 1) := by decide +kernel
theorem d_law_236 : decode code 236 = .ok (.aload_n 0, 1) := by decide +kernel
theorem d_law_237 : decode code 237 = .ok (.iload_n 3, 1) := by decide +kernel
theorem d_law_238 : decode code 238 = .ok (.iconst 2, 1) := by decide +kernel
theorem d_law_239 : decode code 239 = .ok (.iadd, 1) := by decide +kernel
theorem d_law_240 : decode code 240 = .ok (.iaload, 1) := by decide +kernel
theorem d_law_241 : decode code 241 = .ok (.aload_n 0, 1) := by decide +kernel
theorem d_law_242 : decode code 242 = .ok (.iload_n 3, 1) := by decide +kernel
theorem d_law_243 : decode code 243 = .ok (.iconst 3, 1) := by decide +kernel
theorem d_law_244 : decode code 244 = .ok (.iadd, 1) := by decide +kernel
theorem d_law_245 : decode code 245 = .ok (.iaload, 1) := by decide +kernel
theorem d_law_246 : decode code 246 = .ok (.invokevirtual 23, 3) := by decide +kernel
theorem d_law_249 : decode code 249 = .ok (.pop, 1) := by decide +kernel
theorem d_law_250 : decode code 250 = .ok (.aload_n 2, 1) := by decide +kernel
theorem d_law_251 : decode code 251 = .ok (.aload_n 0, 1) := by decide +kernel
theorem d_law_252 : decode code 252 = .ok (.iload_n 3, 1) := by decide +kernel
theorem d_law_253 : decode code 253 = .ok (.iconst 1, 1) := by decide +kernel
theorem d_law_254 : decode code 254 = .ok (.iadd, 1) := by decide +kernel
theorem d_law_255 : decode code 255 = .ok (.iaload, 1) := by decide +kernel
theorem d_law_256 : decode code 256 = .ok (.aload_n 0, 1) := by decide +kernel
theorem d_law_257 : decode code 257 = .ok (.iload_n 3, 1) := by decide +kernel
theorem d_law_258 : decode code 258 = .ok (.iconst 2, 1) := by decide +kernel
theorem d_law_259 : decode code 259 = .ok (.iadd, 1) := by decide +kernel
theorem d_law_260 : decode code 260 = .ok (.iaload, 1) := by decide +kernel
theorem d_law_261 : decode code 261 = .ok (.aload_n 0, 1) := by decide +kernel
theorem d_law_262 : decode code 262 = .ok (.iload_n 3, 1) := by decide +kernel
theorem d_law_263 : decode code 263 = .ok (.iconst 3, 1) := by decide +kernel
theorem d_law_264 : decode code 264 = .ok (.iadd, 1) := by decide +kernel
theorem d_law_265 : decode code 265 = .ok (.iaload, 1) := by decide +kernel
theorem d_law_266 : decode code 266 = .ok (.invokevirtual 27, 3) := by decide +kernel
theorem d_law_269 : decode code 269 = .ok (.pop, 1) := by decide +kernel
theorem d_law_270 : decode code 270 = .ok (.goto 574, 3) := by decide +kernel
theorem d_law_273 : decode code 273 = .ok (.aload_n 1, 1) := by decide +kernel
theorem d_law_274 : decode code 274 = .ok (.aload_n 0, 1) := by decide +kernel
theorem d_law_275 : decode code 275 = .ok (.iload_n 3, 1) := by decide +kernel
theorem d_law_276 : decode code 276 = .ok (.iconst 1, 1) := by decide +kernel
theorem d_law_277 : decode code 277 = .ok (.iadd, 1) := by decide +kernel
theorem d_law_278 : decode code 278 = .ok (.iaload, 1) := by decide +kernel
theorem d_law_279 : decode code 279 = .ok (.aload_n 0, 1) := by decide +kernel
theorem d_law_280 : decode code 280 = .ok (.iload_n 3, 1) := by decide +kernel
theorem d_law_281 : decode code 281 = .ok (.iconst 2, 1) := by decide +kernel
theorem d_law_282 : decode code 282 = .ok (.iadd, 1) := by decide +kernel
theorem d_law_283 : decode code 283 = .ok (.iaload, 1) := by decide +kernel
theorem d_law_284 : decode code 284 = .ok (.aload_n 0, 1) := by decide +kernel
theorem d_law_285 : decode code 285 = .ok (.iload_n 3, 1) := by decide +kernel
theorem d_law_286 : decode code 286 = .ok (.iconst 3, 1) := by decide +kernel
theorem d_law_287 : decode code 287 = .ok (.iadd, 1) := by decide +kernel
theorem d_law_288 : decode code 288 = .ok (.iaload, 1) := by decide +kernel
theorem d_law_289 : decode code 289 = .ok (.invokevirtual 28, 3) := by decide +kernel
theorem d_law_292 : decode code 292 = .ok (.pop, 1) := by decide +kernel
theorem d_law_293 : decode code 293 = .ok (.aload_n 2, 1) := by decide +kernel
theorem d_law_294 : decode code 294 = .ok (.aload_n 0, 1) := by decide +kernel
theorem d_law_295 : decode code 295 = .ok (.iload_n 3, 1) := by decide +kernel
theorem d_law_296 : decode code 296 = .ok (.iconst 1, 1) := by decide +kernel
theorem d_law_297 : decode code 297 = .ok (.iadd, 1) := by decide +kernel
theorem d_law_298 : decode code 298 = .ok (.iaload, 1) := by decide +kernel
theorem d_law_299 : decode code 299 = .ok (.aload_n 0, 1) := by decide +kernel
theorem d_law_300 : decode code 300 = .ok (.iload_n 3, 1) := by decide +kernel
theorem d_law_301 : decode code 301 = .ok (.iconst 2, 1) := by decide +kernel
theorem d_law_302 : decode code 302 = .ok (.iadd, 1) := by decide +kernel
theorem d_law_303 : decode code 303 = .ok (.iaload, 1) := by decide +kernel
theorem d_law_304 : decode code 304 = .ok (.aload_n 0, 1) := by decide +kernel
theorem d_law_305 : decode code 305 = .ok (.iload_n 3, 1) := by decide +kernel
theorem d_law_306 : decode code 306 = .ok (.iconst 3, 1) := by decide +kernel
theorem d_law_307 : decode code 307 = .ok (.iadd, 1) := by decide +kernel
theorem d_law_308 : decode code 308 = .ok (.iaload, 1) := by decide +kernel
theorem d_law_309 : decode code 309 = .ok (.invokevirtual 31, 3) := by decide +kernel
theorem d_law_312 : decode code 312 = .ok (.pop, 1) := by decide +kernel
theorem d_law_313 : decode code 313 = .ok (.goto 531, 3) := by decide +kernel
theorem d_law_316 : decode code 316 = .ok (.aload_n 1, 1) := by decide +kernel
theorem d_law_317 : decode code 317 = .ok (.aload_n 0, 1) := by decide +kernel
theorem d_law_318 : decode code 318 = .ok (.iload_n 3, 1) := by decide +kernel
theorem d_law_319 : decode code 319 = .ok (.iconst 1, 1) := by decide +kernel
theorem d_law_320 : decode code 320 = .ok (.iadd, 1) := by decide +kernel
theorem d_law_321 : decode code 321 = .ok (.iaload, 1) := by decide +kernel
theorem d_law_322 : decode code 322 = .ok (.aload_n 0, 1) := by decide +kernel
theorem d_law_323 : decode code 323 = .ok (.iload_n 3, 1) := by decide +kernel
theorem d_law_324 : decode code 324 = .ok (.iconst 2, 1) := by decide +kernel
theorem d_law_325 : decode code 325 = .ok (.iadd, 1) := by decide +kernel
theorem d_law_326 : decode code 326 = .ok (.iaload, 1) := by decide +kernel
theorem d_law_327 : decode code 327 = .ok (.aload_n 0, 1) := by decide +kernel
theorem d_law_328 : decode code 328 = .ok (.iload_n 3, 1) := by decide +kernel
theorem d_law_329 : decode code 329 = .ok (.iconst 3, 1) := by decide +kernel
theorem d_law_330 : decode code 330 = .ok (.iadd, 1) := by decide +kernel
theorem d_law_331 : decode code 331 = .ok (.iaload, 1) := by decide +kernel
theorem d_law_332 : decode code 332 = .ok (.aload_n 0, 1) := by decide +kernel
theorem d_law_333 : decode code 333 = .ok (.iload_n 3, 1) := by decide +kernel
theorem d_law_334 : decode code 334 = .ok (.iconst 4, 1) := by decide +kernel
theorem d_law_335 : decode code 335 = .ok (.iadd, 1) := by decide +kernel
theorem d_law_336 : decode code 336 = .ok (.iaload, 1) := by decide +kernel
theorem d_law_337 : decode code 337 = .ok (.invokevirtual 32, 3) := by decide +kernel
theorem d_law_340 : decode code 340 = .ok (.pop, 1) := by decide +kernel
theorem d_law_341 : decode code 341 = .ok (.aload_n 2, 1) := by decide +kernel
theorem d_law_342 : decode code 342 = .ok (.aload_n 0, 1) := by decide +kernel
theorem d_law_343 : decode code 343 = .ok (.iload_n 3, 1) := by decide +kernel
theorem d_law_344 : decode code 344 = .ok (.iconst 1, 1) := by decide +kernel
theorem d_law_345 : decode code 345 = .ok (.iadd, 1) := by decide +kernel
theorem d_law_346 : decode code 346 = .ok (.iaload, 1) := by decide +kernel
theorem d_law_347 : decode code 347 = .ok (.aload_n 0, 1) := by decide +kernel
theorem d_law_348 : decode code 348 = .ok (.iload_n 3, 1) := by decide +kernel
theorem d_law_349 : decode code 349 = .ok (.iconst 2, 1) := by decide +kernel
theorem d_law_350 : decode code 350 = .ok (.iadd, 1) := by decide +kernel
theorem d_law_351 : decode code 351 = .ok (.iaload, 1) := by decide +kernel
theorem d_law_352 : decode code 352 = .ok (.aload_n 0, 1) := by decide +kernel
theorem d_law_353 : decode code 353 = .ok (.iload_n 3, 1) := by decide +kernel
theorem d_law_354 : decode code 354 = .ok (.iconst 3, 1) := by decide +kernel
theorem d_law_355 : decode code 355 = .ok (.iadd, 1) := by decide +kernel
theorem d_law_356 : decode code 356 = .ok (.iaload, 1) := by decide +kernel
theorem d_law_357 : decode code 357 = .ok (.aload_n 0, 1) := by decide +kernel
theorem d_law_358 : decode code 358 = .ok (.iload_n 3, 1) := by decide +kernel
theorem d_law_359 : decode code 359 = .ok (.iconst 4, 1) := by decide +kernel
theorem d_law_360 : decode code 360 = .ok (.iadd, 1) := by decide +kernel
theorem d_law_361 : decode code 361 = .ok (.iaload, 1) := by decide +kernel
theorem d_law_362 : decode code 362 = .ok (.invokevirtual 36, 3) := by decide +kernel
theorem d_law_365 : decode code 365 = .ok (.pop, 1) := by decide +kernel
theorem d_law_366 : decode code 366 = .ok (.goto 478, 3) := by decide +kernel
theorem d_law_369 : decode code 369 = .ok (.aload_n 1, 1) := by decide +kernel
theorem d_law_370 : decode code 370 = .ok (.aload_n 0, 1) := by decide +kernel
theorem d_law_371 : decode code 371 = .ok (.iload_n 3, 1) := by decide +kernel
theorem d_law_372 : decode code 372 = .ok (.iconst 1, 1) := by decide +kernel
theorem d_law_373 : decode code 373 = .ok (.iadd, 1) := by decide +kernel
theorem d_law_374 : decode code 374 = .ok (.iaload, 1) := by decide +kernel
theorem d_law_375 : decode code 375 = .ok (.aload_n 0, 1) := by decide +kernel
theorem d_law_376 : decode code 376 = .ok (.iload_n 3, 1) := by decide +kernel
theorem d_law_377 : decode code 377 = .ok (.iconst 2, 1) := by decide +kernel
theorem d_law_378 : decode code 378 = .ok (.iadd, 1) := by decide +kernel
theorem d_law_379 : decode code 379 = .ok (.iaload, 1) := by decide +kernel
theorem d_law_380 : decode code 380 = .ok (.invokevirtual 37, 3) := by decide +kernel
theorem d_law_383 : decode code 383 = .ok (.pop, 1) := by decide +kernel
theorem d_law_384 : decode code 384 = .ok (.aload_n 2, 1) := by decide +kernel
theorem d_law_385 : decode code 385 = .ok (.aload_n 0, 1) := by decide +kernel
theorem d_law_386 : decode code 386 = .ok (.iload_n 3, 1) := by decide +kernel
theorem d_law_387 : decode code 387 = .ok (.iconst 1, 1) := by decide +kernel
theorem d_law_388 : decode code 388 = .ok (.iadd, 1) := by decide +kernel
theorem d_law_389 : decode code 389 = .ok (.iaload, 1) := by decide +kernel
theorem d_law_390 : decode code 390 = .ok (.aload_n 0, 1) := by decide +kernel
theorem d_law_391 : decode code 391 = .ok (.iload_n 3, 1) := by decide +kernel
theorem d_law_392 : decode code 392 = .ok (.iconst 2, 1) := by decide +kernel
theorem d_law_393 : decode code 393 = .ok (.iadd, 1) := by decide +kernel
theorem d_law_394 : decode code 394 = .ok (.iaload, 1) := by decide +kernel
theorem d_law_395 : decode code 395 = .ok (.invokevirtual 40, 3) := by decide +kernel
theorem d_law_398 : decode code 398 = .ok (.pop, 1) := by decide +kernel
theorem d_law_399 : decode code 399 = .ok (.goto 445, 3) := by decide +kernel
theorem d_law_402 : decode code 402 = .ok (.aload_n 1, 1) := by decide +kernel
theorem d_law_403 : decode code 403 = .ok (.aload_n 0, 1) := by decide +kernel
theorem d_law_404 : decode code 404 = .ok (.iload_n 3, 1) := by decide +kernel
theorem d_law_405 : decode code 405 = .ok (.iconst 1, 1) := by decide +kernel
theorem d_law_406 : decode code 406 = .ok (.iadd, 1) := by decide +kernel
theorem d_law_407 : decode code 407 = .ok (.iaload, 1) := by decide +kernel
theorem d_law_408 : decode code 408 = .ok (.aload_n 0, 1) := by decide +kernel
theorem d_law_409 : decode code 409 = .ok (.iload_n 3, 1) := by decide +kernel
theorem d_law_410 : decode code 410 = .ok (.iconst 2, 1) := by decide +kernel
theorem d_law_411 : decode code 411 = .ok (.iadd, 1) := by decide +kernel
theorem d_law_412 : decode code 412 = .ok (.iaload, 1) := by decide +kernel
theorem d_law_413 : decode code 413 = .ok (.aload_n 0, 1) := by decide +kernel
theorem d_law_414 : decode code 414 = .ok (.iload_n 3, 1) := by decide +kernel
theorem d_law_415 : decode code 415 = .ok (.iconst 3, 1) := by decide +kernel
theorem d_law_416 : decode code 416 = .ok (.iadd, 1) := by decide +kernel
theorem d_law_417 : decode code 417 = .ok (.iaload, 1) := by decide +kernel
theorem d_law_418 : decode code 418 = .ok (.aload_n 0, 1) := by decide +kernel
theorem d_law_419 : decode code 419 = .ok (.iload_n 3, 1) := by decide +kernel
theorem d_law_420 : decode code 420 = .ok (.iconst 4, 1) := by decide +kernel
theorem d_law_421 : decode code 421 = .ok (.iadd, 1) := by decide +kernel
theorem d_law_422 : decode code 422 = .ok (.iaload, 1) := by decide +kernel
theorem d_law_423 : decode code 423 = .ok (.invokevirtual 41, 3) := by decide +kernel
theorem d_law_426 : decode code 426 = .ok (.pop, 1) := by decide +kernel
theorem d_law_427 : decode code 427 = .ok (.aload_n 2, 1) := by decide +kernel
theorem d_law_428 : decode code 428 = .ok (.aload_n 0, 1) := by decide +kernel
theorem d_law_429 : decode code 429 = .ok (.iload_n 3, 1) := by decide +kernel
theorem d_law_430 : decode code 430 = .ok (.iconst 1, 1) := by decide +kernel
theorem d_law_431 : decode code 431 = .ok (.iadd, 1) := by decide +kernel
theorem d_law_432 : decode code 432 = .ok (.iaload, 1) := by decide +kernel
theorem d_law_433 : decode code 433 = .ok (.aload_n 0, 1) := by decide +kernel
theorem d_law_434 : decode code 434 = .ok (.iload_n 3, 1) := by decide +kernel
theorem d_law_435 : decode code 435 = .ok (.iconst 2, 1) := by decide +kernel
theorem d_law_436 : decode code 436 = .ok (.iadd, 1) := by decide +kernel
theorem d_law_437 : decode code 437 = .ok (.iaload, 1) := by decide +kernel
theorem d_law_438 : decode code 438 = .ok (.aload_n 0, 1) := by decide +kernel
theorem d_law_439 : decode code 439 = .ok (.iload_n 3, 1) := by decide +kernel
theorem d_law_440 : decode code 440 = .ok (.iconst 3, 1) := by decide +kernel
theorem d_law_441 : decode code 441 = .ok (.iadd, 1) := by decide +kernel
theorem d_law_442 : decode code 442 = .ok (.iaload, 1) := by decide +kernel
theorem d_law_443 : decode code 443 = .ok (.aload_n 0, 1) := by decide +kernel
theorem d_law_444 : decode code 444 = .ok (.iload_n 3, 1) := by decide +kernel
theorem d_law_445 : decode code 445 = .ok (.iconst 4, 1) := by decide +kernel
theorem d_law_446 : decode code 446 = .ok (.iadd, 1) := by decide +kernel
theorem d_law_447 : decode code 447 = .ok (.iaload, 1) := by decide +kernel
theorem d_law_448 : decode code 448 = .ok (.invokevirtual 44, 3) := by decide +kernel
theorem d_law_451 : decode code 451 = .ok (.pop, 1) := by decide +kernel
theorem d_law_452 : decode code 452 = .ok (.goto 392, 3) := by decide +kernel
theorem d_law_455 : decode code 455 = .ok (.aload_n 1, 1) := by decide +kernel
theorem d_law_456 : decode code 456 = .ok (.aload_n 0, 1) := by decide +kernel
theorem d_law_457 : decode code 457 = .ok (.iload_n 3, 1) := by decide +kernel
theorem d_law_458 : decode code 458 = .ok (.iconst 1, 1) := by decide +kernel
theorem d_law_459 : decode code 459 = .ok (.iadd, 1) := by decide +kernel
theorem d_law_460 : decode code 460 = .ok (.iaload, 1) := by decide +kernel
theorem d_law_461 : decode code 461 = .ok (.aload_n 0, 1) := by decide +kernel
theorem d_law_462 : decode code 462 = .ok (.iload_n 3, 1) := by decide +kernel
theorem d_law_463 : decode code 463 = .ok (.iconst 2, 1) := by decide +kernel
theorem d_law_464 : decode code 464 = .ok (.iadd, 1) := by decide +kernel
theorem d_law_465 : decode code 465 = .ok (.iaload, 1) := by decide +kernel
theorem d_law_466 : decode code 466 = .ok (.aload_n 0, 1) := by decide +kernel
theorem d_law_467 : decode code 467 = .ok (.iload_n 3, 1) := by decide +kernel
theorem d_law_468 : decode code 468 = .ok (.iconst 3, 1) := by decide +kernel
theorem d_law_469 : decode code 469 = .ok (.iadd, 1) := by decide +kernel
theorem d_law_470 : decode code 470 = .ok (.iaload, 1) := by decide +kernel
theorem d_law_471 : decode code 471 = .ok (.aload_n 0, 1) := by decide +kernel
theorem d_law_472 : decode code 472 = .ok (.iload_n 3, 1) := by decide +kernel
theorem d_law_473 : decode code 473 = .ok (.iconst 4, 1) := by decide +kernel
theorem d_law_474 : decode code 474 = .ok (.iadd, 1) := by decide +kernel
theorem d_law_475 : decode code 475 = .ok (.iaload, 1) := by decide +kernel
theorem d_law_476 : decode code 476 = .ok (.invokevirtual 45, 3) := by decide +kernel
theorem d_law_479 : decode code 479 = .ok (.pop, 1) := by decide +kernel
theorem d_law_480 : decode code 480 = .ok (.aload_n 2, 1) := by decide +kernel
theorem d_law_481 : decode code 481 = .ok (.aload_n 0, 1) := by decide +kernel
theorem d_law_482 : decode code 482 = .ok (.iload_n 3, 1) := by decide +kernel
theorem d_law_483 : decode code 483 = .ok (.iconst 1, 1) := by decide +kernel
theorem d_law_484 : decode code 484 = .ok (.iadd, 1) := by decide +kernel
theorem d_law_485 : decode code 485 = .ok (.iaload, 1) := by decide +kernel
theorem d_law_486 : decode code 486 = .ok (.aload_n 0, 1) := by decide +kernel
theorem d_law_487 : decode code 487 = .ok (.iload_n 3, 1) := by decide +kernel
theorem d_law_488 : decode code 488 = .ok (.iconst 2, 1) := by decide +kernel
theorem d_law_489 : decode code 489 = .ok (.iadd, 1) := by decide +kernel
theorem d_law_490 : decode code 490 = .ok (.iaload, 1) := by decide +kernel
theorem d_law_491 : decode code 491 = .ok (.aload_n 0, 1) := by decide +kernel
theorem d_law_492 : decode code 492 = .ok (.iload_n 3, 1) := by decide +kernel
theorem d_law_493 : decode code 493 = .ok (.iconst 3, 1) := by decide +kernel
theorem d_law_494 : decode code 494 = .ok (.iadd, 1) := by decide +kernel
theorem d_law_495 : decode code 495 = .ok (.iaload, 1) := by decide +kernel
theorem d_law_496 : decode code 496 = .ok (.aload_n 0, 1) := by decide +kernel
theorem d_law_497 : decode code 497 = .ok (.iload_n 3, 1) := by decide +kernel
theorem d_law_498 : decode code 498 = .ok (.iconst 4, 1) := by decide +kernel
theorem d_law_499 : decode code 499 = .ok (.iadd, 1) := by decide +kernel
theorem d_law_500 : decode code 500 = .ok (.iaload, 1) := by decide +kernel
theorem d_law_501 : decode code 501 = .ok (.invokevirtual 48, 3) := by decide +kernel
theorem d_law_504 : decode code 504 = .ok (.pop, 1) := by decide +kernel
theorem d_law_505 : decode code 505 = .ok (.goto 339, 3) := by decide +kernel
theorem d_law_508 : decode code 508 = .ok (.aload_n 1, 1) := by decide +kernel
theorem d_law_509 : decode code 509 = .ok (.aload_n 0, 1) := by decide +kernel
theorem d_law_510 : decode code 510 = .ok (.iload_n 3, 1) := by decide +kernel
theorem d_law_511 : decode code 511 = .ok (.iconst 1, 1) := by decide +kernel
theorem d_law_512 : decode code 512 = .ok (.iadd, 1) := by decide +kernel
theorem d_law_513 : decode code 513 = .ok (.iaload, 1) := by decide +kernel
theorem d_law_514 : decode code 514 = .ok (.invokevirtual 49, 3) := by decide +kernel
theorem d_law_517 : decode code 517 = .ok (.pop, 1) := by decide +kernel
theorem d_law_518 : decode code 518 = .ok (.aload_n 2, 1) := by decide +kernel
theorem d_law_519 : decode code 519 = .ok (.aload_n 0, 1) := by decide +kernel
theorem d_law_520 : decode code 520 = .ok (.iload_n 3, 1) := by decide +kernel
theorem d_law_521 : decode code 521 = .ok (.iconst 1, 1) := by decide +kernel
theorem d_law_522 : decode code 522 = .ok (.iadd, 1) := by decide +kernel
theorem d_law_523 : decode code 523 = .ok (.iaload, 1) := by decide +kernel
theorem d_law_524 : decode code 524 = .ok (.invokevirtual 53, 3) := by decide +kernel
theorem d_law_527 : decode code 527 = .ok (.pop, 1) := by decide +kernel
theorem d_law_528 : decode code 528 = .ok (.goto 316, 3) := by decide +kernel
theorem d_law_531 : decode code 531 = .ok (.aload_n 1, 1) := by decide +kernel
theorem d_law_532 : decode code 532 = .ok (.aload_n 0, 1) := by decide +kernel
theorem d_law_533 : decode code 533 = .ok (.iload_n 3, 1) := by decide +kernel
theorem d_law_534 : decode code 534 = .ok (.iconst 1, 1) := by decide +kernel
theorem d_law_535 : decode code 535 = .ok (.iadd, 1) := by decide +kernel
theorem d_law_536 : decode code 536 = .ok (.iaload, 1) := by decide +kernel
theorem d_law_537 : decode code 537 = .ok (.invokevirtual 54, 3) := by decide +kernel
theorem d_law_540 : decode code 540 = .ok (.pop, 1) := by decide +kernel
theorem d_law_541 : decode code 541 = .ok (.aload_n 2, 1) := by decide +kernel
theorem d_law_542 : decode code 542 = .ok (.aload_n 0, 1) := by decide +kernel
theorem d_law_543 : decode code 543 = .ok (.iload_n 3, 1) := by decide +kernel
theorem d_law_544 : decode code 544 = .ok (.iconst 1, 1) := by decide +kernel
theorem d_law_545 : decode code 545 = .ok (.iadd, 1) := by decide +kernel
theorem d_law_546 : decode code 546 = .ok (.iaload, 1) := by decide +kernel
theorem d_law_547 : decode code 547 = .ok (.invokevirtual 57, 3) := by decide +kernel
theorem d_law_550 : decode code 550 = .ok (.pop, 1) := by decide +kernel
theorem d_law_551 : decode code 551 = .ok (.goto 293, 3) := by decide +kernel
theorem d_law_554 : decode code 554 = .ok (.aload_n 1, 1) := by decide +kernel
theorem d_law_555 : decode code 555 = .ok (.aload_n 0, 1) := by decide +kernel
theorem d_law_556 : decode code 556 = .ok (.iload_n 3, 1) := by decide +kernel
theorem d_law_557 : decode code 557 = .ok (.iconst 1, 1) := by decide +kernel
theorem d_law_558 : decode code 558 = .ok (.iadd, 1) := by decide +kernel
theorem d_law_559 : decode code 559 = .ok (.iaload, 1) := by decide +kernel
theorem d_law_560 : decode code 560 = .ok (.invokevirtual 58, 3) := by decide +kernel
theorem d_law_563 : decode code 563 = .ok (.pop, 1) := by decide +kernel
theorem d_law_564 : decode code 564 = .ok (.aload_n 2, 1) := by decide +kernel
theorem d_law_565 : decode code 565 = .ok (.aload_n 0, 1) := by decide +kernel
theorem d_law_566 : decode code 566 = .ok (.iload_n 3, 1) := by decide +kernel
theorem d_law_567 : decode code 567 = .ok (.iconst 1, 1) := by decide +kernel
theorem d_law_568 : decode code 568 = .ok (.iadd, 1) := by decide +kernel
theorem d_law_569 : decode code 569 = .ok (.iaload, 1) := by decide +kernel
theorem d_law_570 : decode code 570 = .ok (.invokevirtual 61, 3) := by decide +kernel
theorem d_law_573 : decode code 573 = .ok (.pop, 1) := by decide +kernel
theorem d_law_574 : decode code 574 = .ok (.goto 270, 3) := by decide +kernel
theorem d_law_577 : decode code 577 = .ok (.aload_n 1, 1) := by decide +kernel
theorem d_law_578 : decode code 578 = .ok (.aload_n 0, 1) := by decide +kernel
theorem d_law_579 : decode code 579 = .ok (.iload_n 3, 1) := by decide +kernel
theorem d_law_580 : decode code 580 = .ok (.iconst 1, 1) := by decide +kernel
theorem d_law_581 : decode code 581 = .ok (.iadd, 1) := by decide +kernel
theorem d_law_582 : decode code 582 = .ok (.iaload, 1) := by decide +kernel
theorem d_law_583 : decode code 583 = .ok (.invokevirtual 62, 3) := by decide +kernel
theorem d_law_586 : decode code 586 = .ok (.pop, 1) := by decide +kernel
theorem d_law_587 : decode code 587 = .ok (.aload_n 2, 1) := by decide +kernel
theorem d_law_588 : decode code 588 = .ok (.aload_n 0, 1) := by decide +kernel
theorem d_law_589 : decode code 589 = .ok (.iload_n 3, 1) := by decide +kernel
theorem d_law_590 : decode code 590 = .ok (.iconst 1, 1) := by decide +kernel
theorem d_law_591 : decode code 591 = .ok (.iadd, 1) := by decide +kernel
theorem d_law_592 : decode code 592 = .ok (.iaload, 1) := by decide +kernel
theorem d_law_593 : decode code 593 = .ok (.invokevirtual 65, 3) := by decide +kernel
theorem d_law_596 : decode code 596 = .ok (.pop, 1) := by decide +kernel
theorem d_law_597 : decode code 597 = .ok (.goto 247, 3) := by decide +kernel
theorem d_law_600 : decode code 600 = .ok (.aload_n 1, 1) := by decide +kernel
theorem d_law_601 : decode code 601 = .ok (.aload_n 0, 1) := by decide +kernel
theorem d_law_602 : decode code 602 = .ok (.iload_n 3, 1) := by decide +kernel
theorem d_law_603 : decode code 603 = .ok (.iconst 1, 1) := by decide +kernel
theorem d_law_604 : decode code 604 = .ok (.iadd, 1) := by decide +kernel
theorem d_law_605 : decode code 605 = .ok (.iaload, 1) := by decide +kernel
theorem d_law_606 : decode code 606 = .ok (.invokevirtual 66, 3) := by decide +kernel
theorem d_law_609 : decode code 609 = .ok (.pop, 1) := by decide +kernel
theorem d_law_610 : decode code 610 = .ok (.aload_n 2, 1) := by decide +kernel
theorem d_law_611 : decode code 611 = .ok (.aload_n 0, 1) := by decide +kernel
theorem d_law_612 : decode code 612 = .ok (.iload_n 3, 1) := by decide +kernel
theorem d_law_613 : decode code 613 = .ok (.iconst 1, 1) := by decide +kernel
theorem d_law_614 : decode code 614 = .ok (.iadd, 1) := by decide +kernel
theorem d_law_615 : decode code 615 = .ok (.iaload, 1) := by decide +kernel
theorem d_law_616 : decode code 616 = .ok (.invokevirtual 69, 3) := by decide +kernel
theorem d_law_619 : decode code 619 = .ok (.pop, 1) := by decide +kernel
theorem d_law_620 : decode code 620 = .ok (.goto 224, 3) := by decide +kernel
theorem d_law_623 : decode code 623 = .ok (.aload_n 1, 1) := by decide +kernel
theorem d_law_624 : decode code 624 = .ok (.aload_n 0, 1) := by decide +kernel
theorem d_law_625 : decode code 625 = .ok (.iload_n 3, 1) := by decide +kernel
theorem d_law_626 : decode code 626 = .ok (.iconst 1, 1) := by decide +kernel
theorem d_law_627 : decode code 627 = .ok (.iadd, 1) := by decide +kernel
theorem d_law_628 : decode code 628 = .ok (.iaload, 1) := by decide +kernel
theorem d_law_629 : decode code 629 = .ok (.invokevirtual 70, 3) := by decide +kernel
theorem d_law_632 : decode code 632 = .ok (.pop, 1) := by decide +kernel
theorem d_law_633 : decode code 633 = .ok (.aload_n 2, 1) := by decide +kernel
theorem d_law_634 : decode code 634 = .ok (.aload_n 0, 1) := by decide +kernel
theorem d_law_635 : decode code 635 = .ok (.iload_n 3, 1) := by decide +kernel
theorem d_law_636 : decode code 636 = .ok (.iconst 1, 1) := by decide +kernel
theorem d_law_637 : decode code 637 = .ok (.iadd, 1) := by decide +kernel
theorem d_law_638 : decode code 638 = .ok (.iaload, 1) := by decide +kernel
theorem d_law_639 : decode code 639 = .ok (.invokevirtual 73, 3) := by decide +kernel
theorem d_law_642 : decode code 642 = .ok (.pop, 1) := by decide +kernel
theorem d_law_643 : decode code 643 = .ok (.goto 201, 3) := by decide +kernel
theorem d_law_646 : decode code 646 = .ok (.aload_n 1, 1) := by decide +kernel
theorem d_law_647 : decode code 647 = .ok (.aload_n 0, 1) := by decide +kernel
theorem d_law_648 : decode code 648 = .ok (.iload_n 3, 1) := by decide +kernel
theorem d_law_649 : decode code 649 = .ok (.iconst 1, 1) := by decide +kernel
theorem d_law_650 : decode code 650 = .ok (.iadd, 1) := by decide +kernel
theorem d_law_651 : decode code 651 = .ok (.iaload, 1) := by decide +kernel
theorem d_law_652 : decode code 652 = .ok (.aload_n 0, 1) := by decide +kernel
theorem d_law_653 : decode code 653 = .ok (.iload_n 3, 1) := by decide +kernel
theorem d_law_654 : decode code 654 = .ok (.iconst 2, 1) := by decide +kernel
theorem d_law_655 : decode code 655 = .ok (.iadd, 1) := by decide +kernel
theorem d_law_656 : decode code 656 = .ok (.iaload, 1) := by decide +kernel
theorem d_law_657 : decode code 657 = .ok (.invokevirtual 74, 3) := by decide +kernel
theorem d_law_660 : decode code 660 = .ok (.pop, 1) := by decide +kernel
theorem d_law_661 : decode code 661 = .ok (.aload_n 2, 1) := by decide +kernel
theorem d_law_662 : decode code 662 = .ok (.aload_n 0, 1) := by decide +kernel
theorem d_law_663 : decode code 663 = .ok (.iload_n 3, 1) := by decide +kernel
theorem d_law_664 : decode code 664 = .ok (.iconst 1, 1) := by decide +kernel
theorem d_law_665 : decode code 665 = .ok (.iadd, 1) := by decide +kernel
theorem d_law_666 : decode code 666 = .ok (.iaload, 1) := by decide +kernel
theorem d_law_667 : decode code 667 = .ok (.aload_n 0, 1) := by decide +kernel
theorem d_law_668 : decode code 668 = .ok (.iload_n 3, 1) := by decide +kernel
theorem d_law_669 : decode code 669 = .ok (.iconst 2, 1) := by decide +kernel
theorem d_law_670 : decode code 670 = .ok (.iadd, 1) := by decide +kernel
theorem d_law_671 : decode code 671 = .ok (.iaload, 1) := by decide +kernel
theorem d_law_672 : decode code 672 = .ok (.invokevirtual 78, 3) := by decide +kernel
theorem d_law_675 : decode code 675 = .ok (.pop, 1) := by decide +kernel
theorem d_law_676 : decode code 676 = .ok (.goto 168, 3) := by decide +kernel
theorem d_law_679 : decode code 679 = .ok (.aload_n 1, 1) := by decide +kernel
theorem d_law_680 : decode code 680 = .ok (.aload_n 0, 1) := by decide +kernel
theorem d_law_681 : decode code 681 = .ok (.iload_n 3, 1) := by decide +kernel
theorem d_law_682 : decode code 682 = .ok (.iconst 1, 1) := by decide +kernel
theorem d_law_683 : decode code 683 = .ok (.iadd, 1) := by decide +kernel
theorem d_law_684 : decode code 684 = .ok (.iaload, 1) := by decide +kernel
theorem d_law_685 : decode code 685 = .ok (.aload_n 0, 1) := by decide +kernel
theorem d_law_686 : decode code 686 = .ok (.iload_n 3, 1) := by decide +kernel
theorem d_law_687 : decode code 687 = .ok (.iconst 2, 1) := by decide +kernel
theorem d_law_688 : decode code 688 = .ok (.iadd, 1) := by decide +kernel
theorem d_law_689 : decode code 689 = .ok (.iaload, 1) := by decide +kernel
theorem d_law_690 : decode code 690 = .ok (.invokevirtual 79, 3) := by decide +kernel
theorem d_law_693 : decode code 693 = .ok (.pop, 1) := by decide +kernel
theorem d_law_694 : decode code 694 = .ok (.aload_n 2, 1) := by decide +kernel
theorem d_law_695 : decode code 695 = .ok (.aload_n 0, 1) := by decide +kernel
theorem d_law_696 : decode code 696 = .ok (.iload_n 3, 1) := by decide +kernel
theorem d_law_697 : decode code 697 = .ok (.iconst 1, 1) := by decide +kernel
theorem d_law_698 : decode code 698 = .ok (.iadd, 1) := by decide +kernel
theorem d_law_699 : decode code 699 = .ok (.iaload, 1) := by decide +kernel
theorem d_law_700 : decode code 700 = .ok (.aload_n 0, 1) := by decide +kernel
theorem d_law_701 : decode code 701 = .ok (.iload_n 3, 1) := by decide +kernel
theorem d_law_702 : decode code 702 = .ok (.iconst 2, 1) := by decide +kernel
theorem d_law_703 : decode code 703 = .ok (.iadd, 1) := by decide +kernel
theorem d_law_704 : decode code 704 = .ok (.iaload, 1) := by decide +kernel
theorem d_law_705 : decode code 705 = .ok (.invokevirtual 82, 3) := by decide +kernel
theorem d_law_708 : decode code 708 = .ok (.pop, 1) := by decide +kernel
theorem d_law_709 : decode code 709 = .ok (.goto 135, 3) := by decide +kernel
theorem d_law_712 : decode code 712 = .ok (.aload_n 1, 1) := by decide +kernel
theorem d_law_713 : decode code 713 = .ok (.aload_n 0, 1) := by decide +kernel
theorem d_law_714 : decode code 714 = .ok (.iload_n 3, 1) := by decide +kernel
theorem d_law_715 : decode code 715 = .ok (.iconst 1, 1) := by decide +kernel
theorem d_law_716 : decode code 716 = .ok (.iadd, 1) := by decide +kernel
theorem d_law_717 : decode code 717 = .ok (.iaload, 1) := by decide +kernel
theorem d_law_718 : decode code 718 = .ok (.aload_n 0, 1) := by decide +kernel
theorem d_law_719 : decode code 719 = .ok (.iload_n 3, 1) := by decide +kernel
theorem d_law_720 : decode code 720 = .ok (.iconst 2, 1) := by decide +kernel
theorem d_law_721 : decode code 721 = .ok (.iadd, 1) := by decide +kernel
theorem d_law_722 : decode code 722 = .ok (.iaload, 1) := by decide +kernel
theorem d_law_723 : decode code 723 = .ok (.invokevirtual 83, 3) := by decide +kernel
theorem d_law_726 : decode code 726 = .ok (.pop, 1) := by decide +kernel
theorem d_law_727 : decode code 727 = .ok (.aload_n 2, 1) := by decide +kernel
theorem d_law_728 : decode code 728 = .ok (.aload_n 0, 1) := by decide +kernel
theorem d_law_729 : decode code 729 = .ok (.iload_n 3, 1) := by decide +kernel
theorem d_law_730 : decode code 730 = .ok (.iconst 1, 1) := by decide +kernel
theorem d_law_731 : decode code 731 = .ok (.iadd, 1) := by decide +kernel
theorem d_law_732 : decode code 732 = .ok (.iaload, 1) := by decide +kernel
theorem d_law_733 : decode code 733 = .ok (.aload_n 0, 1) := by decide +kernel
theorem d_law_734 : decode code 734 = .ok (.iload_n 3, 1) := by decide +kernel
theorem d_law_735 : decode code 735 = .ok (.iconst 2, 1) := by decide +kernel
theorem d_law_736 : decode code 736 = .ok (.iadd, 1) := by decide +kernel
theorem d_law_737 : decode code 737 = .ok (.iaload, 1) := by decide +kernel
theorem d_law_738 : decode code 738 = .ok (.invokevirtual 86, 3) := by decide +kernel
theorem d_law_741 : decode code 741 = .ok (.pop, 1) := by decide +kernel
theorem d_law_742 : decode code 742 = .ok (.goto 102, 3) := by decide +kernel
theorem d_law_745 : decode code 745 = .ok (.aload_n 1, 1) := by decide +kernel
theorem d_law_746 : decode code 746 = .ok (.aload_n 0, 1) := by decide +kernel
theorem d_law_747 : decode code 747 = .ok (.iload_n 3, 1) := by decide +kernel
theorem d_law_748 : decode code 748 = .ok (.iconst 1, 1) := by decide +kernel
theorem d_law_749 : decode code 749 = .ok (.iadd, 1) := by decide +kernel
theorem d_law_750 : decode code 750 = .ok (.iaload, 1) := by decide +kernel
theorem d_law_751 : decode code 751 = .ok (.aload_n 0, 1) := by decide +kernel
theorem d_law_752 : decode code 752 = .ok (.iload_n 3, 1) := by decide +kernel
theorem d_law_753 : decode code 753 = .ok (.iconst 2, 1) := by decide +kernel
theorem d_law_754 : decode code 754 = .ok (.iadd, 1) := by decide +kernel
theorem d_law_755 : decode code 755 = .ok (.iaload, 1) := by decide +kernel
theorem d_law_756 : decode code 756 = .ok (.aload_n 0, 1) := by decide +kernel
theorem d_law_757 : decode code 757 = .ok (.iload_n 3, 1) := by decide +kernel
theorem d_law_758 : decode code 758 = .ok (.iconst 3, 1) := by decide +kernel
theorem d_law_759 : decode code 759 = .ok (.iadd, 1) := by decide +kernel
theorem d_law_760 : decode code 760 = .ok (.iaload, 1) := by decide +kernel
theorem d_law_761 : decode code 761 = .ok (.aload_n 0, 1) := by decide +kernel
theorem d_law_762 : decode code 762 = .ok (.iload_n 3, 1) := by decide +kernel
theorem d_law_763 : decode code 763 = .ok (.iconst 4, 1) := by decide +kernel
theorem d_law_764 : decode code 764 = .ok (.iadd, 1) := by decide +kernel
theorem d_law_765 : decode code 765 = .ok (.iaload, 1) := by decide +kernel
theorem d_law_766 : decode code 766 = .ok (.invokevirtual 87, 3) := by decide +kernel
theorem d_law_769 : decode code 769 = .ok (.pop, 1) := by decide +kernel
theorem d_law_770 : decode code 770 = .ok (.aload_n 2, 1) := by decide +kernel
theorem d_law_771 : decode code 771 = .ok (.aload_n 0, 1) := by decide +kernel
theorem d_law_772 : decode code 772 = .ok (.iload_n 3, 1) := by decide +kernel
theorem d_law_773 : decode code 773 = .ok (.iconst 1, 1) := by decide +kernel
theorem d_law_774 : decode code 774 = .ok (.iadd, 1) := by decide +kernel
theorem d_law_775 : decode code 775 = .ok (.iaload, 1) := by decide +kernel
theorem d_law_776 : decode code 776 = .ok (.aload_n 0, 1) := by decide +kernel
theorem d_law_777 : decode code 777 = .ok (.iload_n 3, 1) := by decide +kernel
theorem d_law_778 : decode code 778 = .ok (.iconst 2, 1) := by decide +kernel
theorem d_law_779 : decode code 779 = .ok (.iadd, 1) := by decide +kernel
theorem d_law_780 : decode code 780 = .ok (.iaload, 1) := by decide +kernel
theorem d_law_781 : decode code 781 = .ok (.aload_n 0, 1) := by decide +kernel
theorem d_law_782 : decode code 782 = .ok (.iload_n 3, 1) := by decide +kernel
theorem d_law_783 : decode code 783 = .ok (.iconst 3, 1) := by decide +kernel
theorem d_law_784 : decode code 784 = .ok (.iadd, 1) := by decide +kernel
theorem d_law_785 : decode code 785 = .ok (.iaload, 1) := by decide +kernel
theorem d_law_786 : decode code 786 = .ok (.aload_n 0, 1) := by decide +kernel
theorem d_law_787 : decode code 787 = .ok (.iload_n 3, 1) := by decide +kernel
theorem d_law_788 : decode code 788 = .ok (.iconst 4, 1) := by decide +kernel
theorem d_law_789 : decode code 789 = .ok (.iadd, 1) := by decide +kernel
theorem d_law_790 : decode code 790 = .ok (.iaload, 1) := by decide +kernel
theorem d_law_791 : decode code 791 = .ok (.invokevirtual 91, 3) := by decide +kernel
theorem d_law_794 : decode code 794 = .ok (.pop, 1) := by decide +kernel
theorem d_law_795 : decode code 795 = .ok (.goto 49, 3) := by decide +kernel
theorem d_law_798 : decode code 798 = .ok (.aload_n 1, 1) := by decide +kernel
theorem d_law_799 : decode code 799 = .ok (.aload_n 0, 1) := by decide +kernel
theorem d_law_800 : decode code 800 = .ok (.iload_n 3, 1) := by decide +kernel
theorem d_law_801 : decode code 801 = .ok (.iconst 1, 1) := by decide +kernel
theorem d_law_802 : decode code 802 = .ok (.iadd, 1) := by decide +kernel
theorem d_law_803 : decode code 803 = .ok (.iaload, 1) := by decide +kernel
theorem d_law_804 : decode code 804 = .ok (.invokevirtual 92, 3) := by decide +kernel
theorem d_law_807 : decode code 807 = .ok (.pop, 1) := by decide +kernel
theorem d_law_808 : decode code 808 = .ok (.aload_n 2, 1) := by decide +kernel
theorem d_law_809 : decode code 809 = .ok (.aload_n 0, 1) := by decide +kernel
theorem d_law_810 : decode code 810 = .ok (.iload_n 3, 1) := by decide +kernel
theorem d_law_811 : decode code 811 = .ok (.iconst 1, 1) := by decide +kernel
theorem d_law_812 : decode code 812 = .ok (.iadd, 1) := by decide +kernel
theorem d_law_813 : decode code 813 = .ok (.iaload, 1) := by decide +kernel
theorem d_law_814 : decode code 814 = .ok (.invokevirtual 95, 3) := by decide +kernel
theorem d_law_817 : decode code 817 = .ok (.pop, 1) := by decide +kernel
theorem d_law_818 : decode code 818 = .ok (.goto 26, 3) := by decide +kernel
theorem d_law_821 : decode code 821 = .ok (.aload_n 1, 1) := by decide +kernel
theorem d_law_822 : decode code 822 = .ok (.aload_n 0, 1) := by decide +kernel
theorem d_law_823 : decode code 823 = .ok (.iload_n 3, 1) := by decide +kernel
theorem d_law_824 : decode code 824 = .ok (.iconst 1, 1) := by decide +kernel
theorem d_law_825 : decode code 825 = .ok (.iadd, 1) := by decide +kernel
theorem d_law_826 : decode code 826 = .ok (.iaload, 1) := by decide +kernel
theorem d_law_827 : decode code 827 = .ok (.invokevirtual 96, 3) := by decide +kernel
theorem d_law_830 : decode code 830 = .ok (.aload_n 2, 1) := by decide +kernel
theorem d_law_831 : decode code 831 = .ok (.aload_n 0, 1) := by decide +kernel
theorem d_law_832 : decode code 832 = .ok (.iload_n 3, 1) := by decide +kernel
theorem d_law_833 : decode code 833 = .ok (.iconst 1, 1) := by decide +kernel
theorem d_law_834 : decode code 834 = .ok (.iadd, 1) := by decide +kernel
theorem d_law_835 : decode code 835 = .ok (.iaload, 1) := by decide +kernel
theorem d_law_836 : decode code 836 = .ok (.invokevirtual 99, 3) := by decide +kernel
theorem d_law_839 : decode code 839 = .ok (.if_icmp .eq 5, 3) := by decide +kernel
theorem d_law_842 : decode code 842 = .ok (.iconst 0, 1) := by decide +kernel
theorem d_law_843 : decode code 843 = .ok (.ireturn, 1) := by decide +kernel
theorem d_law_844 : decode code 844 = .ok (.iinc 3 5, 3) := by decide +kernel
theorem d_law_847 : decode code 847 = .ok (.goto (-829), 3) := by decide +kernel
theorem d_law_850 : decode code 850 = .ok (.iconst 1, 1) := by decide +kernel
theorem d_law_851 : decode code 851 = .ok (.ireturn, 1) := by decide +kernel
theorem LL_7 : (Jvm.Cond.classLink "FieldRelayLaw" (7 : Nat) "FieldRelay") ∈ vTB := vTB_in 14 (by decide +kernel) rfl
theorem LL_9 : (Jvm.Cond.methodLink "FieldRelayLaw" (9 : Nat) ({ cls := "FieldRelay", name := "<init>", desc := "()V" } : Jvm.MethodName)) ∈ vTB := vTB_in 16 (by decide +kernel) rfl
theorem LL_10 : (Jvm.Cond.classLink "FieldRelayLaw" (10 : Nat) "FieldRelayModel") ∈ vTB := vTB_in 757 (by decide +kernel) rfl
theorem LL_12 : (Jvm.Cond.methodLink "FieldRelayLaw" (12 : Nat) ({ cls := "FieldRelayModel", name := "<init>", desc := "()V" } : Jvm.MethodName)) ∈ vTB := vTB_in 759 (by decide +kernel) rfl
theorem LL_13 : (Jvm.Cond.methodLink "FieldRelayLaw" (13 : Nat) ({ cls := "FieldRelay", name := "kind", desc := "(IIIZ)Z" } : Jvm.MethodName)) ∈ vTB := vTB_in 328 (by decide +kernel) rfl
theorem LL_17 : (Jvm.Cond.methodLink "FieldRelayLaw" (17 : Nat) ({ cls := "FieldRelayModel", name := "kind", desc := "(IIIZ)Z" } : Jvm.MethodName)) ∈ vTB := vTB_in 935 (by decide +kernel) rfl
theorem LL_18 : (Jvm.Cond.methodLink "FieldRelayLaw" (18 : Nat) ({ cls := "FieldRelay", name := "name", desc := "(II)Z" } : Jvm.MethodName)) ∈ vTB := vTB_in 354 (by decide +kernel) rfl
theorem LL_22 : (Jvm.Cond.methodLink "FieldRelayLaw" (22 : Nat) ({ cls := "FieldRelayModel", name := "name", desc := "(II)Z" } : Jvm.MethodName)) ∈ vTB := vTB_in 942 (by decide +kernel) rfl
theorem LL_23 : (Jvm.Cond.methodLink "FieldRelayLaw" (23 : Nat) ({ cls := "FieldRelay", name := "plug", desc := "(III)Z" } : Jvm.MethodName)) ∈ vTB := vTB_in 361 (by decide +kernel) rfl
theorem LL_27 : (Jvm.Cond.methodLink "FieldRelayLaw" (27 : Nat) ({ cls := "FieldRelayModel", name := "plug", desc := "(III)Z" } : Jvm.MethodName)) ∈ vTB := vTB_in 966 (by decide +kernel) rfl
theorem LL_28 : (Jvm.Cond.methodLink "FieldRelayLaw" (28 : Nat) ({ cls := "FieldRelay", name := "substitute", desc := "(III)Z" } : Jvm.MethodName)) ∈ vTB := vTB_in 393 (by decide +kernel) rfl
theorem LL_31 : (Jvm.Cond.methodLink "FieldRelayLaw" (31 : Nat) ({ cls := "FieldRelayModel", name := "substitute", desc := "(III)Z" } : Jvm.MethodName)) ∈ vTB := vTB_in 946 (by decide +kernel) rfl
theorem LL_32 : (Jvm.Cond.methodLink "FieldRelayLaw" (32 : Nat) ({ cls := "FieldRelay", name := "sense", desc := "(IIII)Z" } : Jvm.MethodName)) ∈ vTB := vTB_in 404 (by decide +kernel) rfl
theorem LL_36 : (Jvm.Cond.methodLink "FieldRelayLaw" (36 : Nat) ({ cls := "FieldRelayModel", name := "sense", desc := "(IIII)Z" } : Jvm.MethodName)) ∈ vTB := vTB_in 950 (by decide +kernel) rfl
theorem LL_37 : (Jvm.Cond.methodLink "FieldRelayLaw" (37 : Nat) ({ cls := "FieldRelay", name := "target", desc := "(II)Z" } : Jvm.MethodName)) ∈ vTB := vTB_in 412 (by decide +kernel) rfl
theorem LL_40 : (Jvm.Cond.methodLink "FieldRelayLaw" (40 : Nat) ({ cls := "FieldRelayModel", name := "target", desc := "(II)Z" } : Jvm.MethodName)) ∈ vTB := vTB_in 954 (by decide +kernel) rfl
theorem LL_41 : (Jvm.Cond.methodLink "FieldRelayLaw" (41 : Nat) ({ cls := "FieldRelay", name := "expect", desc := "(IIII)Z" } : Jvm.MethodName)) ∈ vTB := vTB_in 416 (by decide +kernel) rfl
theorem LL_44 : (Jvm.Cond.methodLink "FieldRelayLaw" (44 : Nat) ({ cls := "FieldRelayModel", name := "expect", desc := "(IIII)Z" } : Jvm.MethodName)) ∈ vTB := vTB_in 958 (by decide +kernel) rfl
theorem LL_45 : (Jvm.Cond.methodLink "FieldRelayLaw" (45 : Nat) ({ cls := "FieldRelay", name := "give", desc := "(IIII)Z" } : Jvm.MethodName)) ∈ vTB := vTB_in 424 (by decide +kernel) rfl
theorem LL_48 : (Jvm.Cond.methodLink "FieldRelayLaw" (48 : Nat) ({ cls := "FieldRelayModel", name := "give", desc := "(IIII)Z" } : Jvm.MethodName)) ∈ vTB := vTB_in 962 (by decide +kernel) rfl
theorem LL_49 : (Jvm.Cond.methodLink "FieldRelayLaw" (49 : Nat) ({ cls := "FieldRelay", name := "open", desc := "(I)I" } : Jvm.MethodName)) ∈ vTB := vTB_in 428 (by decide +kernel) rfl
theorem LL_53 : (Jvm.Cond.methodLink "FieldRelayLaw" (53 : Nat) ({ cls := "FieldRelayModel", name := "open", desc := "(I)I" } : Jvm.MethodName)) ∈ vTB := vTB_in 1069 (by decide +kernel) rfl
theorem LL_54 : (Jvm.Cond.methodLink "FieldRelayLaw" (54 : Nat) ({ cls := "FieldRelay", name := "close", desc := "(I)I" } : Jvm.MethodName)) ∈ vTB := vTB_in 462 (by decide +kernel) rfl
theorem LL_57 : (Jvm.Cond.methodLink "FieldRelayLaw" (57 : Nat) ({ cls := "FieldRelayModel", name := "close", desc := "(I)I" } : Jvm.MethodName)) ∈ vTB := vTB_in 1074 (by decide +kernel) rfl
theorem LL_58 : (Jvm.Cond.methodLink "FieldRelayLaw" (58 : Nat) ({ cls := "FieldRelay", name := "deliver", desc := "(I)I" } : Jvm.MethodName)) ∈ vTB := vTB_in 478 (by decide +kernel) rfl
theorem LL_61 : (Jvm.Cond.methodLink "FieldRelayLaw" (61 : Nat) ({ cls := "FieldRelayModel", name := "deliver", desc := "(I)I" } : Jvm.MethodName)) ∈ vTB := vTB_in 994 (by decide +kernel) rfl
theorem LL_62 : (Jvm.Cond.methodLink "FieldRelayLaw" (62 : Nat) ({ cls := "FieldRelay", name := "lose", desc := "(I)I" } : Jvm.MethodName)) ∈ vTB := vTB_in 622 (by decide +kernel) rfl
theorem LL_65 : (Jvm.Cond.methodLink "FieldRelayLaw" (65 : Nat) ({ cls := "FieldRelayModel", name := "lose", desc := "(I)I" } : Jvm.MethodName)) ∈ vTB := vTB_in 978 (by decide +kernel) rfl
theorem LL_66 : (Jvm.Cond.methodLink "FieldRelayLaw" (66 : Nat) ({ cls := "FieldRelay", name := "repeat", desc := "(I)I" } : Jvm.MethodName)) ∈ vTB := vTB_in 626 (by decide +kernel) rfl
theorem LL_69 : (Jvm.Cond.methodLink "FieldRelayLaw" (69 : Nat) ({ cls := "FieldRelayModel", name := "repeat", desc := "(I)I" } : Jvm.MethodName)) ∈ vTB := vTB_in 990 (by decide +kernel) rfl
theorem LL_70 : (Jvm.Cond.methodLink "FieldRelayLaw" (70 : Nat) ({ cls := "FieldRelay", name := "tick", desc := "(I)I" } : Jvm.MethodName)) ∈ vTB := vTB_in 641 (by decide +kernel) rfl
theorem LL_73 : (Jvm.Cond.methodLink "FieldRelayLaw" (73 : Nat) ({ cls := "FieldRelayModel", name := "tick", desc := "(I)I" } : Jvm.MethodName)) ∈ vTB := vTB_in 1082 (by decide +kernel) rfl
theorem LL_74 : (Jvm.Cond.methodLink "FieldRelayLaw" (74 : Nat) ({ cls := "FieldRelay", name := "frame", desc := "(II)I" } : Jvm.MethodName)) ∈ vTB := vTB_in 708 (by decide +kernel) rfl
theorem LL_78 : (Jvm.Cond.methodLink "FieldRelayLaw" (78 : Nat) ({ cls := "FieldRelayModel", name := "frame", desc := "(II)I" } : Jvm.MethodName)) ∈ vTB := vTB_in 1102 (by decide +kernel) rfl
theorem LL_79 : (Jvm.Cond.methodLink "FieldRelayLaw" (79 : Nat) ({ cls := "FieldRelay", name := "relation", desc := "(II)I" } : Jvm.MethodName)) ∈ vTB := vTB_in 717 (by decide +kernel) rfl
theorem LL_82 : (Jvm.Cond.methodLink "FieldRelayLaw" (82 : Nat) ({ cls := "FieldRelayModel", name := "relation", desc := "(II)I" } : Jvm.MethodName)) ∈ vTB := vTB_in 1106 (by decide +kernel) rfl
theorem LL_83 : (Jvm.Cond.methodLink "FieldRelayLaw" (83 : Nat) ({ cls := "FieldRelay", name := "device", desc := "(II)I" } : Jvm.MethodName)) ∈ vTB := vTB_in 725 (by decide +kernel) rfl
theorem LL_86 : (Jvm.Cond.methodLink "FieldRelayLaw" (86 : Nat) ({ cls := "FieldRelayModel", name := "device", desc := "(II)I" } : Jvm.MethodName)) ∈ vTB := vTB_in 1110 (by decide +kernel) rfl
theorem LL_87 : (Jvm.Cond.methodLink "FieldRelayLaw" (87 : Nat) ({ cls := "FieldRelay", name := "data", desc := "(IIII)I" } : Jvm.MethodName)) ∈ vTB := vTB_in 733 (by decide +kernel) rfl
theorem LL_91 : (Jvm.Cond.methodLink "FieldRelayLaw" (91 : Nat) ({ cls := "FieldRelayModel", name := "data", desc := "(IIII)I" } : Jvm.MethodName)) ∈ vTB := vTB_in 1114 (by decide +kernel) rfl
theorem LL_92 : (Jvm.Cond.methodLink "FieldRelayLaw" (92 : Nat) ({ cls := "FieldRelay", name := "alarms", desc := "(I)I" } : Jvm.MethodName)) ∈ vTB := vTB_in 737 (by decide +kernel) rfl
theorem LL_95 : (Jvm.Cond.methodLink "FieldRelayLaw" (95 : Nat) ({ cls := "FieldRelayModel", name := "alarms", desc := "(I)I" } : Jvm.MethodName)) ∈ vTB := vTB_in 1118 (by decide +kernel) rfl
theorem LL_96 : (Jvm.Cond.methodLink "FieldRelayLaw" (96 : Nat) ({ cls := "FieldRelay", name := "count", desc := "(I)I" } : Jvm.MethodName)) ∈ vTB := vTB_in 749 (by decide +kernel) rfl
theorem LL_99 : (Jvm.Cond.methodLink "FieldRelayLaw" (99 : Nat) ({ cls := "FieldRelayModel", name := "count", desc := "(I)I" } : Jvm.MethodName)) ∈ vTB := vTB_in 1122 (by decide +kernel) rfl
