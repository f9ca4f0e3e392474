/-! THE CLAIM OUT OF ONE WALK OF THE LAW'S BODY. Your part is whole_start (and what it stands on); all else here is the same for every law, but numbers. -/
def R_law : String := "ScanCoderLaw"
def lw_P (b : Addr) (xs : List Int32) (args : Array Value) (s : State) : Prop := args = #[.ref b] ∧ s.IntsAt b xs ∧ xs.length ≤ 3072 ∧ (Jvm.Cond.and given_1 narrow_1).before args s = true
def lw_Q (_ : Array Value) (s : State) (o : Outcome) (t : State) : Prop := o = .returned (some (.int 1)) ∧ Framed s o t [] 600000 room_1.slots
def lw_Z (below : List Frame) (a : Array Value) (s : State) : State → Prop := fun t => ∃ o, t.status = .running ∧ Ended t below o ∧ lw_Q a s o t
/-- the law's own end, with 1 on the stack, nothing written that was there before, its room as the claim has it -/
theorem lw_ret {p : Program} {l : Launch} {e : Env} {s : State} {m : MethodId} {below : List Frame} {meth : Method} {c : Code} {b : Nat} (hx : p.tables.exec = Jvm.exec) (hb : c.code = code) (hr : meth.sig.returnType = ret) (hlocks : meth.locks = false) {pc : Nat} {H : Heap} {ls : Array Slot} (hdg : decode code pc = .ok (.ireturn, 1)) : W p l e room_1 s m #[Value.ref b] below meth c H [] 600000 room_1.slots (lw_Z below #[Value.ref b] s) (F0 m pc ls [.int 1]) := by
  intro T hT X
  obtain ⟨fs, hret, hrun, hended, hW, hframe⟩ := X.leave (v := some (.int 1)) (hlocks := hlocks) (fun h => by rw [hr] at h; cases h)
  have hmeth' : T.vm.method? m = some meth := X.method'
  refine ⟨T.setFrames fs, ?_, .returned (some (.int 1)), hrun, hended, rfl, ⟨_, rfl⟩, hW, hframe⟩
  jvm_step X.here [X.here.top, hx, hb, hdg, hmeth', hr, ret, narrow_b1]
  (try refine ⟨rfl, ?_⟩); (try refine ⟨rfl, ?_⟩)
  first | (intro acts; rw [hret _ acts rfl rfl rfl]) | rw [hret _ _ rfl rfl rfl]
  exact Steps.refl _
/-- what holds at the law's entry: the machine, the code, the tables' words (any of lw_tbl by 'hts w (by decide +kernel)'), the script of L ints xs at the cell b, what the Statement gives of the start (any of its parts by flat_of_before) -/
def lw_At (p : Program) (s : State) (m : MethodId) (meth : Method) (c : Code) (b L : Nat) (xs : Nat → Int32) : Prop :=
  p.tables.exec = Jvm.exec ∧ c.code = code ∧ meth.sig.returnType = ret ∧ c.maxLocals = 4 ∧ s.vm.findClass R_law = some m.cls ∧ (∀ w ∈ lw_tbl, w.before #[Value.ref b] s = true) ∧ va_X b L xs s s.heap ∧ b < s.heap.size ∧ meth.locks = false ∧ (Jvm.Cond.and given_1 narrow_1).before #[Value.ref b] s = true
theorem gw_sub {w : Cond} (h : w ∈ gw_tbl) : w ∈ lw_tbl := (List.mem_filter.mp h).1
theorem gl {c' : Cond} (h : c' ∈ gw_tbl) (_ : goodWord c' = true) : GoodIn lw_tbl (c' :: gw_tbl) := fun w hw => (List.mem_cons.mp hw).elim (fun e => e ▸ ⟨gw_sub h, (gm (c := c') h).2⟩) (fun e => ⟨gw_sub e, (gm (c := c') e).2⟩)
theorem d_mlaw_0 : decode code 0 = .ok (.new 7, 3) := by decide +kernel
theorem d_mlaw_3 : decode code 3 = .ok (.dup, 1) := by decide +kernel
theorem d_mlaw_4 : decode code 4 = .ok (.invokespecial 9, 3) := by decide +kernel
theorem d_mlaw_7 : decode code 7 = .ok (.astore_n 1, 1) := by decide +kernel
theorem d_mlaw_8 : decode code 8 = .ok (.new 10, 3) := by decide +kernel
theorem d_mlaw_11 : decode code 11 = .ok (.dup, 1) := by decide +kernel
theorem d_mlaw_12 : decode code 12 = .ok (.invokespecial 12, 3) := by decide +kernel
theorem d_mlaw_15 : decode code 15 = .ok (.astore_n 2, 1) := by decide +kernel
theorem d_mlaw_16 : decode code 16 = .ok (.iconst 0, 1) := by decide +kernel
theorem d_mlaw_17 : decode code 17 = .ok (.istore_n 3, 1) := by decide +kernel
theorem d_mlaw_18 : decode code 18 = .ok (.iload_n 3, 1) := by decide +kernel
theorem d_mlaw_19 : decode code 19 = .ok (.aload_n 0, 1) := by decide +kernel
theorem d_mlaw_20 : decode code 20 = .ok (.arraylength, 1) := by decide +kernel
theorem d_mlaw_21 : decode code 21 = .ok (.bipush 6, 2) := by decide +kernel
theorem d_mlaw_23 : decode code 23 = .ok (.isub, 1) := by decide +kernel
theorem d_mlaw_24 : decode code 24 = .ok (.if_icmp .gt 757, 3) := by decide +kernel
theorem d_mlaw_27 : decode code 27 = .ok (.aload_n 0, 1) := by decide +kernel
theorem d_mlaw_28 : decode code 28 = .ok (.iload_n 3, 1) := by decide +kernel
theorem d_mlaw_29 : decode code 29 = .ok (.iaload, 1) := by decide +kernel
theorem d_mlaw_30 : decode code 30 = .ok (.bipush 31, 2) := by decide +kernel
theorem d_mlaw_32 : decode code 32 = .ok (.iand, 1) := by decide +kernel
theorem d_mlaw_33 : decode code 33 = .ok (.tableswitch 742 0 16 #[83, 136, 227, 290, 313, 376, 419, 442, 495, 538, 551, 564, 577, 610, 673, 696, 719], 83) := by decide +kernel
theorem d_mlaw_116 : decode code 116 = .ok (.aload_n 1, 1) := by decide +kernel
theorem d_mlaw_117 : decode code 117 = .ok (.aload_n 0, 1) := by decide +kernel
theorem d_mlaw_118 : decode code 118 = .ok (.iload_n 3, 1) := by decide +kernel
theorem d_mlaw_119 : decode code 119 = .ok (.iconst 1, 1) := by decide +kernel
theorem d_mlaw_120 : decode code 120 = .ok (.iadd, 1) := by decide +kernel
theorem d_mlaw_121 : decode code 121 = .ok (.iaload, 1) := by decide +kernel
theorem d_mlaw_122 : decode code 122 = .ok (.aload_n 0, 1) := by decide +kernel
theorem d_mlaw_123 : decode code 123 = .ok (.iload_n 3, 1) := by decide +kernel
theorem d_mlaw_124 : decode code 124 = .ok (.iconst 2, 1) := by decide +kernel
theorem d_mlaw_125 : decode code 125 = .ok (.iadd, 1) := by decide +kernel
theorem d_mlaw_126 : decode code 126 = .ok (.iaload, 1) := by decide +kernel
theorem d_mlaw_127 : decode code 127 = .ok (.aload_n 0, 1) := by decide +kernel
theorem d_mlaw_128 : decode code 128 = .ok (.iload_n 3, 1) := by decide +kernel
theorem d_mlaw_129 : decode code 129 = .ok (.iconst 3, 1) := by decide +kernel
theorem d_mlaw_130 : decode code 130 = .ok (.iadd, 1) := by decide +kernel
theorem d_mlaw_131 : decode code 131 = .ok (.iaload, 1) := by decide +kernel
theorem d_mlaw_132 : decode code 132 = .ok (.aload_n 0, 1) := by decide +kernel
theorem d_mlaw_133 : decode code 133 = .ok (.iload_n 3, 1) := by decide +kernel
theorem d_mlaw_134 : decode code 134 = .ok (.iconst 4, 1) := by decide +kernel
theorem d_mlaw_135 : decode code 135 = .ok (.iadd, 1) := by decide +kernel
theorem d_mlaw_136 : decode code 136 = .ok (.iaload, 1) := by decide +kernel
theorem d_mlaw_137 : decode code 137 = .ok (.invokevirtual 13, 3) := by decide +kernel
theorem d_mlaw_140 : decode code 140 = .ok (.aload_n 2, 1) := by decide +kernel
theorem d_mlaw_141 : decode code 141 = .ok (.aload_n 0, 1) := by decide +kernel
theorem d_mlaw_142 : decode code 142 = .ok (.iload_n 3, 1) := by decide +kernel
theorem d_mlaw_143 : decode code 143 = .ok (.iconst 1, 1) := by decide +kernel
theorem d_mlaw_144 : decode code 144 = .ok (.iadd, 1) := by decide +kernel
theorem d_mlaw_145 : decode code 145 = .ok (.iaload, 1) := by decide +kernel
theorem d_mlaw_146 : decode code 146 = .ok (.aload_n 0, 1) := by decide +kernel
theorem d_mlaw_147 : decode code 147 = .ok (.iload_n 3, 1) := by decide +kernel
theorem d_mlaw_148 : decode code 148 = .ok (.iconst 2, 1) := by decide +kernel
theorem d_mlaw_149 : decode code 149 = .ok (.iadd, 1) := by decide +kernel
theorem d_mlaw_150 : decode code 150 = .ok (.iaload, 1) := by decide +kernel
theorem d_mlaw_151 : decode code 151 = .ok (.aload_n 0, 1) := by decide +kernel
theorem d_mlaw_152 : decode code 152 = .ok (.iload_n 3, 1) := by decide +kernel
theorem d_mlaw_153 : decode code 153 = .ok (.iconst 3, 1) := by decide +kernel
theorem d_mlaw_154 : decode code 154 = .ok (.iadd, 1) := by decide +kernel
theorem d_mlaw_155 : decode code 155 = .ok (.iaload, 1) := by decide +kernel
theorem d_mlaw_156 : decode code 156 = .ok (.aload_n 0, 1) := by decide +kernel
theorem d_mlaw_157 : decode code 157 = .ok (.iload_n 3, 1) := by decide +kernel
theorem d_mlaw_158 : decode code 158 = .ok (.iconst 4, 1) := by decide +kernel
theorem d_mlaw_159 : decode code 159 = .ok (.iadd, 1) := by decide +kernel
theorem d_mlaw_160 : decode code 160 = .ok (.iaload, 1) := by decide +kernel
theorem d_mlaw_161 : decode code 161 = .ok (.invokevirtual 17, 3) := by decide +kernel
theorem d_mlaw_164 : decode code 164 = .ok (.if_icmp .eq 611, 3) := by decide +kernel
theorem d_mlaw_167 : decode code 167 = .ok (.iconst 0, 1) := by decide +kernel
theorem d_mlaw_168 : decode code 168 = .ok (.ireturn, 1) := by decide +kernel
theorem d_mlaw_169 : decode code 169 = .ok (.aload_n 1, 1) := by decide +kernel
theorem d_mlaw_170 : decode code 170 = .ok (.aload_n 0, 1) := by decide +kernel
theorem d_mlaw_171 : decode code 171 = .ok (.iload_n 3, 1) := by decide +kernel
theorem d_mlaw_172 : decode code 172 = .ok (.iconst 1, 1) := by decide +kernel
theorem d_mlaw_173 : decode code 173 = .ok (.iadd, 1) := by decide +kernel
theorem d_mlaw_174 : decode code 174 = .ok (.iaload, 1) := by decide +kernel
theorem d_mlaw_175 : decode code 175 = .ok (.i2l, 1) := by decide +kernel
theorem d_mlaw_176 : decode code 176 = .ok (.bipush 32, 2) := by decide +kernel
theorem d_mlaw_178 : decode code 178 = .ok (.lshl, 1) := by decide +kernel
theorem d_mlaw_179 : decode code 179 = .ok (.aload_n 0, 1) := by decide +kernel
theorem d_mlaw_180 : decode code 180 = .ok (.iload_n 3, 1) := by decide +kernel
theorem d_mlaw_181 : decode code 181 = .ok (.iconst 2, 1) := by decide +kernel
theorem d_mlaw_182 : decode code 182 = .ok (.iadd, 1) := by decide +kernel
theorem d_mlaw_183 : decode code 183 = .ok (.iaload, 1) := by decide +kernel
theorem d_mlaw_184 : decode code 184 = .ok (.i2l, 1) := by decide +kernel
theorem d_mlaw_185 : decode code 185 = .ok (.ldc2_w 18, 3) := by decide +kernel
theorem d_mlaw_188 : decode code 188 = .ok (.land, 1) := by decide +kernel
theorem d_mlaw_189 : decode code 189 = .ok (.lor, 1) := by decide +kernel
theorem d_mlaw_190 : decode code 190 = .ok (.aload_n 0, 1) := by decide +kernel
theorem d_mlaw_191 : decode code 191 = .ok (.iload_n 3, 1) := by decide +kernel
theorem d_mlaw_192 : decode code 192 = .ok (.iconst 3, 1) := by decide +kernel
theorem d_mlaw_193 : decode code 193 = .ok (.iadd, 1) := by decide +kernel
theorem d_mlaw_194 : decode code 194 = .ok (.iaload, 1) := by decide +kernel
theorem d_mlaw_195 : decode code 195 = .ok (.i2l, 1) := by decide +kernel
theorem d_mlaw_196 : decode code 196 = .ok (.bipush 32, 2) := by decide +kernel
theorem d_mlaw_198 : decode code 198 = .ok (.lshl, 1) := by decide +kernel
theorem d_mlaw_199 : decode code 199 = .ok (.aload_n 0, 1) := by decide +kernel
theorem d_mlaw_200 : decode code 200 = .ok (.iload_n 3, 1) := by decide +kernel
theorem d_mlaw_201 : decode code 201 = .ok (.iconst 4, 1) := by decide +kernel
theorem d_mlaw_202 : decode code 202 = .ok (.iadd, 1) := by decide +kernel
theorem d_mlaw_203 : decode code 203 = .ok (.iaload, 1) := by decide +kernel
theorem d_mlaw_204 : decode code 204 = .ok (.i2l, 1) := by decide +kernel
theorem d_mlaw_205 : decode code 205 = .ok (.ldc2_w 18, 3) := by decide +kernel
theorem d_mlaw_208 : decode code 208 = .ok (.land, 1) := by decide +kernel
theorem d_mlaw_209 : decode code 209 = .ok (.lor, 1) := by decide +kernel
theorem d_mlaw_210 : decode code 210 = .ok (.invokevirtual 20, 3) := by decide +kernel
theorem d_mlaw_213 : decode code 213 = .ok (.aload_n 2, 1) := by decide +kernel
theorem d_mlaw_214 : decode code 214 = .ok (.aload_n 0, 1) := by decide +kernel
theorem d_mlaw_215 : decode code 215 = .ok (.iload_n 3, 1) := by decide +kernel
theorem d_mlaw_216 : decode code 216 = .ok (.iconst 1, 1) := by decide +kernel
theorem d_mlaw_217 : decode code 217 = .ok (.iadd, 1) := by decide +kernel
theorem d_mlaw_218 : decode code 218 = .ok (.iaload, 1) := by decide +kernel
theorem d_mlaw_219 : decode code 219 = .ok (.i2l, 1) := by decide +kernel
theorem d_mlaw_220 : decode code 220 = .ok (.bipush 32, 2) := by decide +kernel
theorem d_mlaw_222 : decode code 222 = .ok (.lshl, 1) := by decide +kernel
theorem d_mlaw_223 : decode code 223 = .ok (.aload_n 0, 1) := by decide +kernel
theorem d_mlaw_224 : decode code 224 = .ok (.iload_n 3, 1) := by decide +kernel
theorem d_mlaw_225 : decode code 225 = .ok (.iconst 2, 1) := by decide +kernel
theorem d_mlaw_226 : decode code 226 = .ok (.iadd, 1) := by decide +kernel
theorem d_mlaw_227 : decode code 227 = .ok (.iaload, 1) := by decide +kernel
theorem d_mlaw_228 : decode code 228 = .ok (.i2l, 1) := by decide +kernel
theorem d_mlaw_229 : decode code 229 = .ok (.ldc2_w 18, 3) := by decide +kernel
theorem d_mlaw_232 : decode code 232 = .ok (.land, 1) := by decide +kernel
theorem d_mlaw_233 : decode code 233 = .ok (.lor, 1) := by decide +kernel
theorem d_mlaw_234 : decode code 234 = .ok (.aload_n 0, 1) := by decide +kernel
theorem d_mlaw_235 : decode code 235 = .ok (.iload_n 3, 1) := by decide +kernel
theorem d_mlaw_236 : decode code 236 = .ok (.iconst 3, 1) := by decide +kernel
theorem d_mlaw_237 : decode code 237 = .ok (.iadd, 1) := by decide +kernel
theorem d_mlaw_238 : decode code 238 = .ok (.iaload, 1) := by decide +kernel
theorem d_mlaw_239 : decode code 239 = .ok (.i2l, 1) := by decide +kernel
theorem d_mlaw_240 : decode code 240 = .ok (.bipush 32, 2) := by decide +kernel
theorem d_mlaw_242 : decode code 242 = .ok (.lshl, 1) := by decide +kernel
theorem d_mlaw_243 : decode code 243 = .ok (.aload_n 0, 1) := by decide +kernel
theorem d_mlaw_244 : decode code 244 = .ok (.iload_n 3, 1) := by decide +kernel
theorem d_mlaw_245 : decode code 245 = .ok (.iconst 4, 1) := by decide +kernel
theorem d_mlaw_246 : decode code 246 = .ok (.iadd, 1) := by decide +kernel
theorem d_mlaw_247 : decode code 247 = .ok (.iaload, 1) := by decide +kernel
theorem d_mlaw_248 : decode code 248 = .ok (.i2l, 1) := by decide +kernel
theorem d_mlaw_249 : decode code 249 = .ok (.ldc2_w 18, 3) := by decide +kernel
theorem d_mlaw_252 : decode code 252 = .ok (.land, 1) := by decide +kernel
theorem d_mlaw_253 : decode code 253 = .ok (.lor, 1) := by decide +kernel
theorem d_mlaw_254 : decode code 254 = .ok (.invokevirtual 24, 3) := by decide +kernel
theorem d_mlaw_257 : decode code 257 = .ok (.goto 518, 3) := by decide +kernel
theorem d_mlaw_260 : decode code 260 = .ok (.aload_n 1, 1) := by decide +kernel
theorem d_mlaw_261 : decode code 261 = .ok (.aload_n 0, 1) := by decide +kernel
theorem d_mlaw_262 : decode code 262 = .ok (.iload_n 3, 1) := by decide +kernel
theorem d_mlaw_263 : decode code 263 = .ok (.iconst 1, 1) := by decide +kernel
theorem d_mlaw_264 : decode code 264 = .ok (.iadd, 1) := by decide +kernel
theorem d_mlaw_265 : decode code 265 = .ok (.iaload, 1) := by decide +kernel
theorem d_mlaw_266 : decode code 266 = .ok (.i2l, 1) := by decide +kernel
theorem d_mlaw_267 : decode code 267 = .ok (.bipush 32, 2) := by decide +kernel
theorem d_mlaw_269 : decode code 269 = .ok (.lshl, 1) := by decide +kernel
theorem d_mlaw_270 : decode code 270 = .ok (.aload_n 0, 1) := by decide +kernel
theorem d_mlaw_271 : decode code 271 = .ok (.iload_n 3, 1) := by decide +kernel
theorem d_mlaw_272 : decode code 272 = .ok (.iconst 2, 1) := by decide +kernel
theorem d_mlaw_273 : decode code 273 = .ok (.iadd, 1) := by decide +kernel
theorem d_mlaw_274 : decode code 274 = .ok (.iaload, 1) := by decide +kernel
theorem d_mlaw_275 : decode code 275 = .ok (.i2l, 1) := by decide +kernel
theorem d_mlaw_276 : decode code 276 = .ok (.ldc2_w 18, 3) := by decide +kernel
theorem d_mlaw_279 : decode code 279 = .ok (.land, 1) := by decide +kernel
theorem d_mlaw_280 : decode code 280 = .ok (.lor, 1) := by decide +kernel
theorem d_mlaw_281 : decode code 281 = .ok (.aload_n 0, 1) := by decide +kernel
theorem d_mlaw_282 : decode code 282 = .ok (.iload_n 3, 1) := by decide +kernel
theorem d_mlaw_283 : decode code 283 = .ok (.iconst 3, 1) := by decide +kernel
theorem d_mlaw_284 : decode code 284 = .ok (.iadd, 1) := by decide +kernel
theorem d_mlaw_285 : decode code 285 = .ok (.iaload, 1) := by decide +kernel
theorem d_mlaw_286 : decode code 286 = .ok (.invokevirtual 25, 3) := by decide +kernel
theorem d_mlaw_289 : decode code 289 = .ok (.aload_n 2, 1) := by decide +kernel
theorem d_mlaw_290 : decode code 290 = .ok (.aload_n 0, 1) := by decide +kernel
theorem d_mlaw_291 : decode code 291 = .ok (.iload_n 3, 1) := by decide +kernel
theorem d_mlaw_292 : decode code 292 = .ok (.iconst 1, 1) := by decide +kernel
theorem d_mlaw_293 : decode code 293 = .ok (.iadd, 1) := by decide +kernel
theorem d_mlaw_294 : decode code 294 = .ok (.iaload, 1) := by decide +kernel
theorem d_mlaw_295 : decode code 295 = .ok (.i2l, 1) := by decide +kernel
theorem d_mlaw_296 : decode code 296 = .ok (.bipush 32, 2) := by decide +kernel
theorem d_mlaw_298 : decode code 298 = .ok (.lshl, 1) := by decide +kernel
theorem d_mlaw_299 : decode code 299 = .ok (.aload_n 0, 1) := by decide +kernel
theorem d_mlaw_300 : decode code 300 = .ok (.iload_n 3, 1) := by decide +kernel
theorem d_mlaw_301 : decode code 301 = .ok (.iconst 2, 1) := by decide +kernel
theorem d_mlaw_302 : decode code 302 = .ok (.iadd, 1) := by decide +kernel
theorem d_mlaw_303 : decode code 303 = .ok (.iaload, 1) := by decide +kernel
theorem d_mlaw_304 : decode code 304 = .ok (.i2l, 1) := by decide +kernel
theorem d_mlaw_305 : decode code 305 = .ok (.ldc2_w 18, 3) := by decide +kernel
theorem d_mlaw_308 : decode code 308 = .ok (.land, 1) := by decide +kernel
theorem d_mlaw_309 : decode code 309 = .ok (.lor, 1) := by decide +kernel
theorem d_mlaw_310 : decode code 310 = .ok (.aload_n 0, 1) := by decide +kernel
theorem d_mlaw_311 : decode code 311 = .ok (.iload_n 3, 1) := by decide +kernel
theorem d_mlaw_312 : decode code 312 = .ok (.iconst 3, 1) := by decide +kernel
theorem d_mlaw_313 : decode code 313 = .ok (.iadd, 1) := by decide +kernel
theorem d_mlaw_314 : decode code 314 = .ok (.iaload, 1) := by decide +kernel
theorem d_mlaw_315 : decode code 315 = .ok (.invokevirtual 29, 3) := by decide +kernel
theorem d_mlaw_318 : decode code 318 = .ok (.if_icmp .eq 457, 3) := by decide +kernel
theorem d_mlaw_321 : decode code 321 = .ok (.iconst 0, 1) := by decide +kernel
theorem d_mlaw_322 : decode code 322 = .ok (.ireturn, 1) := by decide +kernel
theorem d_mlaw_323 : decode code 323 = .ok (.aload_n 1, 1) := by decide +kernel
theorem d_mlaw_324 : decode code 324 = .ok (.aload_n 0, 1) := by decide +kernel
theorem d_mlaw_325 : decode code 325 = .ok (.iload_n 3, 1) := by decide +kernel
theorem d_mlaw_326 : decode code 326 = .ok (.iconst 1, 1) := by decide +kernel
theorem d_mlaw_327 : decode code 327 = .ok (.iadd, 1) := by decide +kernel
theorem d_mlaw_328 : decode code 328 = .ok (.iaload, 1) := by decide +kernel
theorem d_mlaw_329 : decode code 329 = .ok (.invokevirtual 30, 3) := by decide +kernel
theorem d_mlaw_332 : decode code 332 = .ok (.aload_n 2, 1) := by decide +kernel
theorem d_mlaw_333 : decode code 333 = .ok (.aload_n 0, 1) := by decide +kernel
theorem d_mlaw_334 : decode code 334 = .ok (.iload_n 3, 1) := by decide +kernel
theorem d_mlaw_335 : decode code 335 = .ok (.iconst 1, 1) := by decide +kernel
theorem d_mlaw_336 : decode code 336 = .ok (.iadd, 1) := by decide +kernel
theorem d_mlaw_337 : decode code 337 = .ok (.iaload, 1) := by decide +kernel
theorem d_mlaw_338 : decode code 338 = .ok (.invokevirtual 34, 3) := by decide +kernel
theorem d_mlaw_341 : decode code 341 = .ok (.if_icmp .eq 434, 3) := by decide +kernel
theorem d_mlaw_344 : decode code 344 = .ok (.iconst 0, 1) := by decide +kernel
theorem d_mlaw_345 : decode code 345 = .ok (.ireturn, 1) := by decide +kernel
theorem d_mlaw_346 : decode code 346 = .ok (.aload_n 1, 1) := by decide +kernel
theorem d_mlaw_347 : decode code 347 = .ok (.aload_n 0, 1) := by decide +kernel
theorem d_mlaw_348 : decode code 348 = .ok (.iload_n 3, 1) := by decide +kernel
theorem d_mlaw_349 : decode code 349 = .ok (.iconst 1, 1) := by decide +kernel
theorem d_mlaw_350 : decode code 350 = .ok (.iadd, 1) := by decide +kernel
theorem d_mlaw_351 : decode code 351 = .ok (.iaload, 1) := by decide +kernel
theorem d_mlaw_352 : decode code 352 = .ok (.aload_n 0, 1) := by decide +kernel
theorem d_mlaw_353 : decode code 353 = .ok (.iload_n 3, 1) := by decide +kernel
theorem d_mlaw_354 : decode code 354 = .ok (.iconst 2, 1) := by decide +kernel
theorem d_mlaw_355 : decode code 355 = .ok (.iadd, 1) := by decide +kernel
theorem d_mlaw_356 : decode code 356 = .ok (.iaload, 1) := by decide +kernel
theorem d_mlaw_357 : decode code 357 = .ok (.aload_n 0, 1) := by decide +kernel
theorem d_mlaw_358 : decode code 358 = .ok (.iload_n 3, 1) := by decide +kernel
theorem d_mlaw_359 : decode code 359 = .ok (.iconst 3, 1) := by decide +kernel
theorem d_mlaw_360 : decode code 360 = .ok (.iadd, 1) := by decide +kernel
theorem d_mlaw_361 : decode code 361 = .ok (.iaload, 1) := by decide +kernel
theorem d_mlaw_362 : decode code 362 = .ok (.aload_n 0, 1) := by decide +kernel
theorem d_mlaw_363 : decode code 363 = .ok (.iload_n 3, 1) := by decide +kernel
theorem d_mlaw_364 : decode code 364 = .ok (.iconst 4, 1) := by decide +kernel
theorem d_mlaw_365 : decode code 365 = .ok (.iadd, 1) := by decide +kernel
theorem d_mlaw_366 : decode code 366 = .ok (.iaload, 1) := by decide +kernel
theorem d_mlaw_367 : decode code 367 = .ok (.aload_n 0, 1) := by decide +kernel
theorem d_mlaw_368 : decode code 368 = .ok (.iload_n 3, 1) := by decide +kernel
theorem d_mlaw_369 : decode code 369 = .ok (.iconst 5, 1) := by decide +kernel
theorem d_mlaw_370 : decode code 370 = .ok (.iadd, 1) := by decide +kernel
theorem d_mlaw_371 : decode code 371 = .ok (.iaload, 1) := by decide +kernel
theorem d_mlaw_372 : decode code 372 = .ok (.invokevirtual 35, 3) := by decide +kernel
theorem d_mlaw_375 : decode code 375 = .ok (.aload_n 2, 1) := by decide +kernel
theorem d_mlaw_376 : decode code 376 = .ok (.aload_n 0, 1) := by decide +kernel
theorem d_mlaw_377 : decode code 377 = .ok (.iload_n 3, 1) := by decide +kernel
theorem d_mlaw_378 : decode code 378 = .ok (.iconst 1, 1) := by decide +kernel
theorem d_mlaw_379 : decode code 379 = .ok (.iadd, 1) := by decide +kernel
theorem d_mlaw_380 : decode code 380 = .ok (.iaload, 1) := by decide +kernel
theorem d_mlaw_381 : decode code 381 = .ok (.aload_n 0, 1) := by decide +kernel
theorem d_mlaw_382 : decode code 382 = .ok (.iload_n 3, 1) := by decide +kernel
theorem d_mlaw_383 : decode code 383 = .ok (.iconst 2, 1) := by decide +kernel
theorem d_mlaw_384 : decode code 384 = .ok (.iadd, 1) := by decide +kernel
theorem d_mlaw_385 : decode code 385 = .ok (.iaload, 1) := by decide +kernel
theorem d_mlaw_386 : decode code 386 = .ok (.aload_n 0, 1) := by decide +kernel
theorem d_mlaw_387 : decode code 387 = .ok (.iload_n 3, 1) := by decide +kernel
theorem d_mlaw_388 : decode code 388 = .ok (.iconst 3, 1) := by decide +kernel
theorem d_mlaw_389 : decode code 389 = .ok (.iadd, 1) := by decide +kernel
theorem d_mlaw_390 : decode code 390 = .ok (.iaload, 1) := by decide +kernel
theorem d_mlaw_391 : decode code 391 = .ok (.aload_n 0, 1) := by decide +kernel
theorem d_mlaw_392 : decode code 392 = .ok (.iload_n 3, 1) := by decide +kernel
theorem d_mlaw_393 : decode code 393 = .ok (.iconst 4, 1) := by decide +kernel
theorem d_mlaw_394 : decode code 394 = .ok (.iadd, 1) := by decide +kernel
theorem d_mlaw_395 : decode code 395 = .ok (.iaload, 1) := by decide +kernel
theorem d_mlaw_396 : decode code 396 = .ok (.aload_n 0, 1) := by decide +kernel
theorem d_mlaw_397 : decode code 397 = .ok (.iload_n 3, 1) := by decide +kernel
theorem d_mlaw_398 : decode code 398 = .ok (.iconst 5, 1) := by decide +kernel
theorem d_mlaw_399 : decode code 399 = .ok (.iadd, 1) := by decide +kernel
theorem d_mlaw_400 : decode code 400 = .ok (.iaload, 1) := by decide +kernel
theorem d_mlaw_401 : decode code 401 = .ok (.invokevirtual 39, 3) := by decide +kernel
theorem d_mlaw_404 : decode code 404 = .ok (.if_icmp .eq 371, 3) := by decide +kernel
theorem d_mlaw_407 : decode code 407 = .ok (.iconst 0, 1) := by decide +kernel
theorem d_mlaw_408 : decode code 408 = .ok (.ireturn, 1) := by decide +kernel
theorem d_mlaw_409 : decode code 409 = .ok (.aload_n 1, 1) := by decide +kernel
theorem d_mlaw_410 : decode code 410 = .ok (.aload_n 0, 1) := by decide +kernel
theorem d_mlaw_411 : decode code 411 = .ok (.iload_n 3, 1) := by decide +kernel
theorem d_mlaw_412 : decode code 412 = .ok (.iconst 1, 1) := by decide +kernel
theorem d_mlaw_413 : decode code 413 = .ok (.iadd, 1) := by decide +kernel
theorem d_mlaw_414 : decode code 414 = .ok (.iaload, 1) := by decide +kernel
theorem d_mlaw_415 : decode code 415 = .ok (.aload_n 0, 1) := by decide +kernel
theorem d_mlaw_416 : decode code 416 = .ok (.iload_n 3, 1) := by decide +kernel
theorem d_mlaw_417 : decode code 417 = .ok (.iconst 2, 1) := by decide +kernel
theorem d_mlaw_418 : decode code 418 = .ok (.iadd, 1) := by decide +kernel
theorem d_mlaw_419 : decode code 419 = .ok (.iaload, 1) := by decide +kernel
theorem d_mlaw_420 : decode code 420 = .ok (.aload_n 0, 1) := by decide +kernel
theorem d_mlaw_421 : decode code 421 = .ok (.iload_n 3, 1) := by decide +kernel
theorem d_mlaw_422 : decode code 422 = .ok (.iconst 3, 1) := by decide +kernel
theorem d_mlaw_423 : decode code 423 = .ok (.iadd, 1) := by decide +kernel
theorem d_mlaw_424 : decode code 424 = .ok (.iaload, 1) := by decide +kernel
theorem d_mlaw_425 : decode code 425 = .ok (.invokevirtual 40, 3) := by decide +kernel
theorem d_mlaw_428 : decode code 428 = .ok (.aload_n 2, 1) := by decide +kernel
theorem d_mlaw_429 : decode code 429 = .ok (.aload_n 0, 1) := by decide +kernel
theorem d_mlaw_430 : decode code 430 = .ok (.iload_n 3, 1) := by decide +kernel
theorem d_mlaw_431 : decode code 431 = .ok (.iconst 1, 1) := by decide +kernel
theorem d_mlaw_432 : decode code 432 = .ok (.iadd, 1) := by decide +kernel
theorem d_mlaw_433 : decode code 433 = .ok (.iaload, 1) := by decide +kernel
theorem d_mlaw_434 : decode code 434 = .ok (.aload_n 0, 1) := by decide +kernel
theorem d_mlaw_435 : decode code 435 = .ok (.iload_n 3, 1) := by decide +kernel
theorem d_mlaw_436 : decode code 436 = .ok (.iconst 2, 1) := by decide +kernel
theorem d_mlaw_437 : decode code 437 = .ok (.iadd, 1) := by decide +kernel
theorem d_mlaw_438 : decode code 438 = .ok (.iaload, 1) := by decide +kernel
theorem d_mlaw_439 : decode code 439 = .ok (.aload_n 0, 1) := by decide +kernel
theorem d_mlaw_440 : decode code 440 = .ok (.iload_n 3, 1) := by decide +kernel
theorem d_mlaw_441 : decode code 441 = .ok (.iconst 3, 1) := by decide +kernel
theorem d_mlaw_442 : decode code 442 = .ok (.iadd, 1) := by decide +kernel
theorem d_mlaw_443 : decode code 443 = .ok (.iaload, 1) := by decide +kernel
theorem d_mlaw_444 : decode code 444 = .ok (.invokevirtual 44, 3) := by decide +kernel
theorem d_mlaw_447 : decode code 447 = .ok (.if_icmp .eq 328, 3) := by decide +kernel
theorem d_mlaw_450 : decode code 450 = .ok (.iconst 0, 1) := by decide +kernel
theorem d_mlaw_451 : decode code 451 = .ok (.ireturn, 1) := by decide +kernel
theorem d_mlaw_452 : decode code 452 = .ok (.aload_n 1, 1) := by decide +kernel
theorem d_mlaw_453 : decode code 453 = .ok (.aload_n 0, 1) := by decide +kernel
theorem d_mlaw_454 : decode code 454 = .ok (.iload_n 3, 1) := by decide +kernel
theorem d_mlaw_455 : decode code 455 = .ok (.iconst 1, 1) := by decide +kernel
theorem d_mlaw_456 : decode code 456 = .ok (.iadd, 1) := by decide +kernel
theorem d_mlaw_457 : decode code 457 = .ok (.iaload, 1) := by decide +kernel
theorem d_mlaw_458 : decode code 458 = .ok (.invokevirtual 45, 3) := by decide +kernel
theorem d_mlaw_461 : decode code 461 = .ok (.aload_n 2, 1) := by decide +kernel
theorem d_mlaw_462 : decode code 462 = .ok (.aload_n 0, 1) := by decide +kernel
theorem d_mlaw_463 : decode code 463 = .ok (.iload_n 3, 1) := by decide +kernel
theorem d_mlaw_464 : decode code 464 = .ok (.iconst 1, 1) := by decide +kernel
theorem d_mlaw_465 : decode code 465 = .ok (.iadd, 1) := by decide +kernel
theorem d_mlaw_466 : decode code 466 = .ok (.iaload, 1) := by decide +kernel
theorem d_mlaw_467 : decode code 467 = .ok (.invokevirtual 48, 3) := by decide +kernel
theorem d_mlaw_470 : decode code 470 = .ok (.if_icmp .eq 305, 3) := by decide +kernel
theorem d_mlaw_473 : decode code 473 = .ok (.iconst 0, 1) := by decide +kernel
theorem d_mlaw_474 : decode code 474 = .ok (.ireturn, 1) := by decide +kernel
theorem d_mlaw_475 : decode code 475 = .ok (.aload_n 1, 1) := by decide +kernel
theorem d_mlaw_476 : decode code 476 = .ok (.aload_n 0, 1) := by decide +kernel
theorem d_mlaw_477 : decode code 477 = .ok (.iload_n 3, 1) := by decide +kernel
theorem d_mlaw_478 : decode code 478 = .ok (.iconst 1, 1) := by decide +kernel
theorem d_mlaw_479 : decode code 479 = .ok (.iadd, 1) := by decide +kernel
theorem d_mlaw_480 : decode code 480 = .ok (.iaload, 1) := by decide +kernel
theorem d_mlaw_481 : decode code 481 = .ok (.aload_n 0, 1) := by decide +kernel
theorem d_mlaw_482 : decode code 482 = .ok (.iload_n 3, 1) := by decide +kernel
theorem d_mlaw_483 : decode code 483 = .ok (.iconst 2, 1) := by decide +kernel
theorem d_mlaw_484 : decode code 484 = .ok (.iadd, 1) := by decide +kernel
theorem d_mlaw_485 : decode code 485 = .ok (.iaload, 1) := by decide +kernel
theorem d_mlaw_486 : decode code 486 = .ok (.aload_n 0, 1) := by decide +kernel
theorem d_mlaw_487 : decode code 487 = .ok (.iload_n 3, 1) := by decide +kernel
theorem d_mlaw_488 : decode code 488 = .ok (.iconst 3, 1) := by decide +kernel
theorem d_mlaw_489 : decode code 489 = .ok (.iadd, 1) := by decide +kernel
theorem d_mlaw_490 : decode code 490 = .ok (.iaload, 1) := by decide +kernel
theorem d_mlaw_491 : decode code 491 = .ok (.aload_n 0, 1) := by decide +kernel
theorem d_mlaw_492 : decode code 492 = .ok (.iload_n 3, 1) := by decide +kernel
theorem d_mlaw_493 : decode code 493 = .ok (.iconst 4, 1) := by decide +kernel
theorem d_mlaw_494 : decode code 494 = .ok (.iadd, 1) := by decide +kernel
theorem d_mlaw_495 : decode code 495 = .ok (.iaload, 1) := by decide +kernel
theorem d_mlaw_496 : decode code 496 = .ok (.invokevirtual 49, 3) := by decide +kernel
theorem d_mlaw_499 : decode code 499 = .ok (.aload_n 2, 1) := by decide +kernel
theorem d_mlaw_500 : decode code 500 = .ok (.aload_n 0, 1) := by decide +kernel
theorem d_mlaw_501 : decode code 501 = .ok (.iload_n 3, 1) := by decide +kernel
theorem d_mlaw_502 : decode code 502 = .ok (.iconst 1, 1) := by decide +kernel
theorem d_mlaw_503 : decode code 503 = .ok (.iadd, 1) := by decide +kernel
theorem d_mlaw_504 : decode code 504 = .ok (.iaload, 1) := by decide +kernel
theorem d_mlaw_505 : decode code 505 = .ok (.aload_n 0, 1) := by decide +kernel
theorem d_mlaw_506 : decode code 506 = .ok (.iload_n 3, 1) := by decide +kernel
theorem d_mlaw_507 : decode code 507 = .ok (.iconst 2, 1) := by decide +kernel
theorem d_mlaw_508 : decode code 508 = .ok (.iadd, 1) := by decide +kernel
theorem d_mlaw_509 : decode code 509 = .ok (.iaload, 1) := by decide +kernel
theorem d_mlaw_510 : decode code 510 = .ok (.aload_n 0, 1) := by decide +kernel
theorem d_mlaw_511 : decode code 511 = .ok (.iload_n 3, 1) := by decide +kernel
theorem d_mlaw_512 : decode code 512 = .ok (.iconst 3, 1) := by decide +kernel
theorem d_mlaw_513 : decode code 513 = .ok (.iadd, 1) := by decide +kernel
theorem d_mlaw_514 : decode code 514 = .ok (.iaload, 1) := by decide +kernel
theorem d_mlaw_515 : decode code 515 = .ok (.aload_n 0, 1) := by decide +kernel
theorem d_mlaw_516 : decode code 516 = .ok (.iload_n 3, 1) := by decide +kernel
theorem d_mlaw_517 : decode code 517 = .ok (.iconst 4, 1) := by decide +kernel
theorem d_mlaw_518 : decode code 518 = .ok (.iadd, 1) := by decide +kernel
theorem d_mlaw_519 : decode code 519 = .ok (.iaload, 1) := by decide +kernel
theorem d_mlaw_520 : decode code 520 = .ok (.invokevirtual 52, 3) := by decide +kernel
theorem d_mlaw_523 : decode code 523 = .ok (.if_icmp .eq 252, 3) := by decide +kernel
theorem d_mlaw_526 : decode code 526 = .ok (.iconst 0, 1) := by decide +kernel
theorem d_mlaw_527 : decode code 527 = .ok (.ireturn, 1) := by decide +kernel
theorem d_mlaw_528 : decode code 528 = .ok (.aload_n 1, 1) := by decide +kernel
theorem d_mlaw_529 : decode code 529 = .ok (.aload_n 0, 1) := by decide +kernel
theorem d_mlaw_530 : decode code 530 = .ok (.iload_n 3, 1) := by decide +kernel
theorem d_mlaw_531 : decode code 531 = .ok (.iconst 1, 1) := by decide +kernel
theorem d_mlaw_532 : decode code 532 = .ok (.iadd, 1) := by decide +kernel
theorem d_mlaw_533 : decode code 533 = .ok (.iaload, 1) := by decide +kernel
theorem d_mlaw_534 : decode code 534 = .ok (.aload_n 0, 1) := by decide +kernel
theorem d_mlaw_535 : decode code 535 = .ok (.iload_n 3, 1) := by decide +kernel
theorem d_mlaw_536 : decode code 536 = .ok (.iconst 2, 1) := by decide +kernel
theorem d_mlaw_537 : decode code 537 = .ok (.iadd, 1) := by decide +kernel
theorem d_mlaw_538 : decode code 538 = .ok (.iaload, 1) := by decide +kernel
theorem d_mlaw_539 : decode code 539 = .ok (.aload_n 0, 1) := by decide +kernel
theorem d_mlaw_540 : decode code 540 = .ok (.iload_n 3, 1) := by decide +kernel
theorem d_mlaw_541 : decode code 541 = .ok (.iconst 3, 1) := by decide +kernel
theorem d_mlaw_542 : decode code 542 = .ok (.iadd, 1) := by decide +kernel
theorem d_mlaw_543 : decode code 543 = .ok (.iaload, 1) := by decide +kernel
theorem d_mlaw_544 : decode code 544 = .ok (.invokevirtual 53, 3) := by decide +kernel
theorem d_mlaw_547 : decode code 547 = .ok (.aload_n 2, 1) := by decide +kernel
theorem d_mlaw_548 : decode code 548 = .ok (.aload_n 0, 1) := by decide +kernel
theorem d_mlaw_549 : decode code 549 = .ok (.iload_n 3, 1) := by decide +kernel
theorem d_mlaw_550 : decode code 550 = .ok (.iconst 1, 1) := by decide +kernel
theorem d_mlaw_551 : decode code 551 = .ok (.iadd, 1) := by decide +kernel
theorem d_mlaw_552 : decode code 552 = .ok (.iaload, 1) := by decide +kernel
theorem d_mlaw_553 : decode code 553 = .ok (.aload_n 0, 1) := by decide +kernel
theorem d_mlaw_554 : decode code 554 = .ok (.iload_n 3, 1) := by decide +kernel
theorem d_mlaw_555 : decode code 555 = .ok (.iconst 2, 1) := by decide +kernel
theorem d_mlaw_556 : decode code 556 = .ok (.iadd, 1) := by decide +kernel
theorem d_mlaw_557 : decode code 557 = .ok (.iaload, 1) := by decide +kernel
theorem d_mlaw_558 : decode code 558 = .ok (.aload_n 0, 1) := by decide +kernel
theorem d_mlaw_559 : decode code 559 = .ok (.iload_n 3, 1) := by decide +kernel
theorem d_mlaw_560 : decode code 560 = .ok (.iconst 3, 1) := by decide +kernel
theorem d_mlaw_561 : decode code 561 = .ok (.iadd, 1) := by decide +kernel
theorem d_mlaw_562 : decode code 562 = .ok (.iaload, 1) := by decide +kernel
theorem d_mlaw_563 : decode code 563 = .ok (.invokevirtual 57, 3) := by decide +kernel
theorem d_mlaw_566 : decode code 566 = .ok (.if_icmp .eq 209, 3) := by decide +kernel
theorem d_mlaw_569 : decode code 569 = .ok (.iconst 0, 1) := by decide +kernel
theorem d_mlaw_570 : decode code 570 = .ok (.ireturn, 1) := by decide +kernel
theorem d_mlaw_571 : decode code 571 = .ok (.aload_n 1, 1) := by decide +kernel
theorem d_mlaw_572 : decode code 572 = .ok (.invokevirtual 58, 3) := by decide +kernel
theorem d_mlaw_575 : decode code 575 = .ok (.aload_n 2, 1) := by decide +kernel
theorem d_mlaw_576 : decode code 576 = .ok (.invokevirtual 62, 3) := by decide +kernel
theorem d_mlaw_579 : decode code 579 = .ok (.if_icmp .eq 196, 3) := by decide +kernel
theorem d_mlaw_582 : decode code 582 = .ok (.iconst 0, 1) := by decide +kernel
theorem d_mlaw_583 : decode code 583 = .ok (.ireturn, 1) := by decide +kernel
theorem d_mlaw_584 : decode code 584 = .ok (.aload_n 1, 1) := by decide +kernel
theorem d_mlaw_585 : decode code 585 = .ok (.invokevirtual 63, 3) := by decide +kernel
theorem d_mlaw_588 : decode code 588 = .ok (.aload_n 2, 1) := by decide +kernel
theorem d_mlaw_589 : decode code 589 = .ok (.invokevirtual 66, 3) := by decide +kernel
theorem d_mlaw_592 : decode code 592 = .ok (.if_icmp .eq 183, 3) := by decide +kernel
theorem d_mlaw_595 : decode code 595 = .ok (.iconst 0, 1) := by decide +kernel
theorem d_mlaw_596 : decode code 596 = .ok (.ireturn, 1) := by decide +kernel
theorem d_mlaw_597 : decode code 597 = .ok (.aload_n 1, 1) := by decide +kernel
theorem d_mlaw_598 : decode code 598 = .ok (.invokevirtual 67, 3) := by decide +kernel
theorem d_mlaw_601 : decode code 601 = .ok (.aload_n 2, 1) := by decide +kernel
theorem d_mlaw_602 : decode code 602 = .ok (.invokevirtual 70, 3) := by decide +kernel
theorem d_mlaw_605 : decode code 605 = .ok (.if_icmp .eq 170, 3) := by decide +kernel
theorem d_mlaw_608 : decode code 608 = .ok (.iconst 0, 1) := by decide +kernel
theorem d_mlaw_609 : decode code 609 = .ok (.ireturn, 1) := by decide +kernel
theorem d_mlaw_610 : decode code 610 = .ok (.aload_n 1, 1) := by decide +kernel
theorem d_mlaw_611 : decode code 611 = .ok (.aload_n 0, 1) := by decide +kernel
theorem d_mlaw_612 : decode code 612 = .ok (.iload_n 3, 1) := by decide +kernel
theorem d_mlaw_613 : decode code 613 = .ok (.iconst 1, 1) := by decide +kernel
theorem d_mlaw_614 : decode code 614 = .ok (.iadd, 1) := by decide +kernel
theorem d_mlaw_615 : decode code 615 = .ok (.iaload, 1) := by decide +kernel
theorem d_mlaw_616 : decode code 616 = .ok (.aload_n 0, 1) := by decide +kernel
theorem d_mlaw_617 : decode code 617 = .ok (.iload_n 3, 1) := by decide +kernel
theorem d_mlaw_618 : decode code 618 = .ok (.iconst 2, 1) := by decide +kernel
theorem d_mlaw_619 : decode code 619 = .ok (.iadd, 1) := by decide +kernel
theorem d_mlaw_620 : decode code 620 = .ok (.iaload, 1) := by decide +kernel
theorem d_mlaw_621 : decode code 621 = .ok (.invokevirtual 71, 3) := by decide +kernel
theorem d_mlaw_624 : decode code 624 = .ok (.aload_n 2, 1) := by decide +kernel
theorem d_mlaw_625 : decode code 625 = .ok (.aload_n 0, 1) := by decide +kernel
theorem d_mlaw_626 : decode code 626 = .ok (.iload_n 3, 1) := by decide +kernel
theorem d_mlaw_627 : decode code 627 = .ok (.iconst 1, 1) := by decide +kernel
theorem d_mlaw_628 : decode code 628 = .ok (.iadd, 1) := by decide +kernel
theorem d_mlaw_629 : decode code 629 = .ok (.iaload, 1) := by decide +kernel
theorem d_mlaw_630 : decode code 630 = .ok (.aload_n 0, 1) := by decide +kernel
theorem d_mlaw_631 : decode code 631 = .ok (.iload_n 3, 1) := by decide +kernel
theorem d_mlaw_632 : decode code 632 = .ok (.iconst 2, 1) := by decide +kernel
theorem d_mlaw_633 : decode code 633 = .ok (.iadd, 1) := by decide +kernel
theorem d_mlaw_634 : decode code 634 = .ok (.iaload, 1) := by decide +kernel
theorem d_mlaw_635 : decode code 635 = .ok (.invokevirtual 75, 3) := by decide +kernel
theorem d_mlaw_638 : decode code 638 = .ok (.if_icmp .eq 137, 3) := by decide +kernel
theorem d_mlaw_641 : decode code 641 = .ok (.iconst 0, 1) := by decide +kernel
theorem d_mlaw_642 : decode code 642 = .ok (.ireturn, 1) := by decide +kernel
theorem d_mlaw_643 : decode code 643 = .ok (.aload_n 1, 1) := by decide +kernel
theorem d_mlaw_644 : decode code 644 = .ok (.aload_n 0, 1) := by decide +kernel
theorem d_mlaw_645 : decode code 645 = .ok (.iload_n 3, 1) := by decide +kernel
theorem d_mlaw_646 : decode code 646 = .ok (.iconst 1, 1) := by decide +kernel
theorem d_mlaw_647 : decode code 647 = .ok (.iadd, 1) := by decide +kernel
theorem d_mlaw_648 : decode code 648 = .ok (.iaload, 1) := by decide +kernel
theorem d_mlaw_649 : decode code 649 = .ok (.i2l, 1) := by decide +kernel
theorem d_mlaw_650 : decode code 650 = .ok (.bipush 32, 2) := by decide +kernel
theorem d_mlaw_652 : decode code 652 = .ok (.lshl, 1) := by decide +kernel
theorem d_mlaw_653 : decode code 653 = .ok (.aload_n 0, 1) := by decide +kernel
theorem d_mlaw_654 : decode code 654 = .ok (.iload_n 3, 1) := by decide +kernel
theorem d_mlaw_655 : decode code 655 = .ok (.iconst 2, 1) := by decide +kernel
theorem d_mlaw_656 : decode code 656 = .ok (.iadd, 1) := by decide +kernel
theorem d_mlaw_657 : decode code 657 = .ok (.iaload, 1) := by decide +kernel
theorem d_mlaw_658 : decode code 658 = .ok (.i2l, 1) := by decide +kernel
theorem d_mlaw_659 : decode code 659 = .ok (.ldc2_w 18, 3) := by decide +kernel
theorem d_mlaw_662 : decode code 662 = .ok (.land, 1) := by decide +kernel
theorem d_mlaw_663 : decode code 663 = .ok (.lor, 1) := by decide +kernel
theorem d_mlaw_664 : decode code 664 = .ok (.aload_n 0, 1) := by decide +kernel
theorem d_mlaw_665 : decode code 665 = .ok (.iload_n 3, 1) := by decide +kernel
theorem d_mlaw_666 : decode code 666 = .ok (.iconst 3, 1) := by decide +kernel
theorem d_mlaw_667 : decode code 667 = .ok (.iadd, 1) := by decide +kernel
theorem d_mlaw_668 : decode code 668 = .ok (.iaload, 1) := by decide +kernel
theorem d_mlaw_669 : decode code 669 = .ok (.invokevirtual 76, 3) := by decide +kernel
theorem d_mlaw_672 : decode code 672 = .ok (.aload_n 2, 1) := by decide +kernel
theorem d_mlaw_673 : decode code 673 = .ok (.aload_n 0, 1) := by decide +kernel
theorem d_mlaw_674 : decode code 674 = .ok (.iload_n 3, 1) := by decide +kernel
theorem d_mlaw_675 : decode code 675 = .ok (.iconst 1, 1) := by decide +kernel
theorem d_mlaw_676 : decode code 676 = .ok (.iadd, 1) := by decide +kernel
theorem d_mlaw_677 : decode code 677 = .ok (.iaload, 1) := by decide +kernel
theorem d_mlaw_678 : decode code 678 = .ok (.i2l, 1) := by decide +kernel
theorem d_mlaw_679 : decode code 679 = .ok (.bipush 32, 2) := by decide +kernel
theorem d_mlaw_681 : decode code 681 = .ok (.lshl, 1) := by decide +kernel
theorem d_mlaw_682 : decode code 682 = .ok (.aload_n 0, 1) := by decide +kernel
theorem d_mlaw_683 : decode code 683 = .ok (.iload_n 3, 1) := by decide +kernel
theorem d_mlaw_684 : decode code 684 = .ok (.iconst 2, 1) := by decide +kernel
theorem d_mlaw_685 : decode code 685 = .ok (.iadd, 1) := by decide +kernel
theorem d_mlaw_686 : decode code 686 = .ok (.iaload, 1) := by decide +kernel
theorem d_mlaw_687 : decode code 687 = .ok (.i2l, 1) := by decide +kernel
theorem d_mlaw_688 : decode code 688 = .ok (.ldc2_w 18, 3) := by decide +kernel
theorem d_mlaw_691 : decode code 691 = .ok (.land, 1) := by decide +kernel
theorem d_mlaw_692 : decode code 692 = .ok (.lor, 1) := by decide +kernel
theorem d_mlaw_693 : decode code 693 = .ok (.aload_n 0, 1) := by decide +kernel
theorem d_mlaw_694 : decode code 694 = .ok (.iload_n 3, 1) := by decide +kernel
theorem d_mlaw_695 : decode code 695 = .ok (.iconst 3, 1) := by decide +kernel
theorem d_mlaw_696 : decode code 696 = .ok (.iadd, 1) := by decide +kernel
theorem d_mlaw_697 : decode code 697 = .ok (.iaload, 1) := by decide +kernel
theorem d_mlaw_698 : decode code 698 = .ok (.invokevirtual 79, 3) := by decide +kernel
theorem d_mlaw_701 : decode code 701 = .ok (.if_icmp .eq 74, 3) := by decide +kernel
theorem d_mlaw_704 : decode code 704 = .ok (.iconst 0, 1) := by decide +kernel
theorem d_mlaw_705 : decode code 705 = .ok (.ireturn, 1) := by decide +kernel
theorem d_mlaw_706 : decode code 706 = .ok (.aload_n 1, 1) := by decide +kernel
theorem d_mlaw_707 : decode code 707 = .ok (.aload_n 0, 1) := by decide +kernel
theorem d_mlaw_708 : decode code 708 = .ok (.iload_n 3, 1) := by decide +kernel
theorem d_mlaw_709 : decode code 709 = .ok (.iconst 1, 1) := by decide +kernel
theorem d_mlaw_710 : decode code 710 = .ok (.iadd, 1) := by decide +kernel
theorem d_mlaw_711 : decode code 711 = .ok (.iaload, 1) := by decide +kernel
theorem d_mlaw_712 : decode code 712 = .ok (.invokevirtual 80, 3) := by decide +kernel
theorem d_mlaw_715 : decode code 715 = .ok (.aload_n 2, 1) := by decide +kernel
theorem d_mlaw_716 : decode code 716 = .ok (.aload_n 0, 1) := by decide +kernel
theorem d_mlaw_717 : decode code 717 = .ok (.iload_n 3, 1) := by decide +kernel
theorem d_mlaw_718 : decode code 718 = .ok (.iconst 1, 1) := by decide +kernel
theorem d_mlaw_719 : decode code 719 = .ok (.iadd, 1) := by decide +kernel
theorem d_mlaw_720 : decode code 720 = .ok (.iaload, 1) := by decide +kernel
theorem d_mlaw_721 : decode code 721 = .ok (.invokevirtual 83, 3) := by decide +kernel
theorem d_mlaw_724 : decode code 724 = .ok (.if_icmp .eq 51, 3) := by decide +kernel
theorem d_mlaw_727 : decode code 727 = .ok (.iconst 0, 1) := by decide +kernel
theorem d_mlaw_728 : decode code 728 = .ok (.ireturn, 1) := by decide +kernel
theorem d_mlaw_729 : decode code 729 = .ok (.aload_n 1, 1) := by decide +kernel
theorem d_mlaw_730 : decode code 730 = .ok (.aload_n 0, 1) := by decide +kernel
theorem d_mlaw_731 : decode code 731 = .ok (.iload_n 3, 1) := by decide +kernel
theorem d_mlaw_732 : decode code 732 = .ok (.iconst 1, 1) := by decide +kernel
theorem d_mlaw_733 : decode code 733 = .ok (.iadd, 1) := by decide +kernel
theorem d_mlaw_734 : decode code 734 = .ok (.iaload, 1) := by decide +kernel
theorem d_mlaw_735 : decode code 735 = .ok (.invokevirtual 84, 3) := by decide +kernel
theorem d_mlaw_738 : decode code 738 = .ok (.aload_n 2, 1) := by decide +kernel
theorem d_mlaw_739 : decode code 739 = .ok (.aload_n 0, 1) := by decide +kernel
theorem d_mlaw_740 : decode code 740 = .ok (.iload_n 3, 1) := by decide +kernel
theorem d_mlaw_741 : decode code 741 = .ok (.iconst 1, 1) := by decide +kernel
theorem d_mlaw_742 : decode code 742 = .ok (.iadd, 1) := by decide +kernel
theorem d_mlaw_743 : decode code 743 = .ok (.iaload, 1) := by decide +kernel
theorem d_mlaw_744 : decode code 744 = .ok (.invokevirtual 88, 3) := by decide +kernel
theorem d_mlaw_747 : decode code 747 = .ok (.if_icmp .eq 28, 3) := by decide +kernel
theorem d_mlaw_750 : decode code 750 = .ok (.iconst 0, 1) := by decide +kernel
theorem d_mlaw_751 : decode code 751 = .ok (.ireturn, 1) := by decide +kernel
theorem d_mlaw_752 : decode code 752 = .ok (.aload_n 1, 1) := by decide +kernel
theorem d_mlaw_753 : decode code 753 = .ok (.aload_n 0, 1) := by decide +kernel
theorem d_mlaw_754 : decode code 754 = .ok (.iload_n 3, 1) := by decide +kernel
theorem d_mlaw_755 : decode code 755 = .ok (.iconst 1, 1) := by decide +kernel
theorem d_mlaw_756 : decode code 756 = .ok (.iadd, 1) := by decide +kernel
theorem d_mlaw_757 : decode code 757 = .ok (.iaload, 1) := by decide +kernel
theorem d_mlaw_758 : decode code 758 = .ok (.invokevirtual 89, 3) := by decide +kernel
theorem d_mlaw_761 : decode code 761 = .ok (.aload_n 2, 1) := by decide +kernel
theorem d_mlaw_762 : decode code 762 = .ok (.aload_n 0, 1) := by decide +kernel
theorem d_mlaw_763 : decode code 763 = .ok (.iload_n 3, 1) := by decide +kernel
theorem d_mlaw_764 : decode code 764 = .ok (.iconst 1, 1) := by decide +kernel
theorem d_mlaw_765 : decode code 765 = .ok (.iadd, 1) := by decide +kernel
theorem d_mlaw_766 : decode code 766 = .ok (.iaload, 1) := by decide +kernel
theorem d_mlaw_767 : decode code 767 = .ok (.invokevirtual 92, 3) := by decide +kernel
theorem d_mlaw_770 : decode code 770 = .ok (.if_icmp .eq 5, 3) := by decide +kernel
theorem d_mlaw_773 : decode code 773 = .ok (.iconst 0, 1) := by decide +kernel
theorem d_mlaw_774 : decode code 774 = .ok (.ireturn, 1) := by decide +kernel
theorem d_mlaw_775 : decode code 775 = .ok (.iinc 3 6, 3) := by decide +kernel
theorem d_mlaw_778 : decode code 778 = .ok (.goto (-760), 3) := by decide +kernel
theorem d_mlaw_781 : decode code 781 = .ok (.iconst 1, 1) := by decide +kernel
theorem d_mlaw_782 : decode code 782 = .ok (.ireturn, 1) := by decide +kernel
