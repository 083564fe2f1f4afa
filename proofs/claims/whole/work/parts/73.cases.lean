/-! the law's seventeen cases -/
set_option maxRecDepth 100000 in
set_option maxHeartbeats 4000000 in
theorem lc_rows {p : Program} {l : Launch} {e : Env} {s : State} {m : MethodId} {args : Array Value} {below : List Frame} {meth : Method} {c : Code} {cells slots : Nat} {Q : State → Prop} {D : va_G} {A : Nat → Prop} {cI cO : ClassId} {ao ta : Nat} {B : Nat → Nat → Nat} {T : Nat → TS} {MB : Nat → Nat} {t : TS} {b Ln i : Nat} {xs : Nat → Int32} (C : Cx p room_1 s m args meth c cells slots 4 D A cL_law RL wsL_law ret cI cO) (hX : va_X b Ln xs s s.heap ∧ b < s.heap.size ∧ ¬ A b) (hL : Ln ≤ 3072) (hi : i + 6 ≤ Ln) (hr : Rel T t) (kk : ∀ T1 t1, Rel T1 t1 → J p l e room_1 s m args below meth c cells slots Q 4 D A 808 [some (.ref b), some (.ref ao), some (.ref (MB 10)), some (.int (nI (i)))] [] (wL cI cO ao ta B T1 MB t1)) : J p l e room_1 s m args below meth c cells slots Q 4 D A 116 [some (.ref b), some (.ref ao), some (.ref (MB 10)), some (.int (nI (i)))] [] (wL cI cO ao ta B T MB t) := by
  refine j_aload_n (pc' := 117) C dL_law_116 rfl rfl ?_
  refine j_arg (pc' := 122) C hX hL hi 1 (by decide) 1 (by decide) dL_law_117 dL_law_118 dL_law_119 dL_law_120 dL_law_121 rfl ?_
  refine j_arg (pc' := 127) C hX hL hi 2 (by decide) 2 (by decide) dL_law_122 dL_law_123 dL_law_124 dL_law_125 dL_law_126 rfl ?_
  refine jl_X (pc' := 130) (rest := []) C (c_Xrows l D cI cO ao ta B T (xs (i + 1)) (xs (i + 2))) 2 gL_law_X1_rows rfl (by decide +kernel) (by decide) rfl rfl (by decide) (fun _ _ _ _ _ => trivial) (fun _ _ _ _ _ _ => trivial) rfl dL_law_127 rfl (fun v u hp => ?_)
  obtain ⟨rfl, rfl⟩ := hp
  show J p l e room_1 s m args below meth c cells slots Q 4 D A 130 [some (.ref b), some (.ref ao), some (.ref (MB 10)), some (.int (nI (i)))] [.int ((xRows T (xs (i + 1)) (xs (i + 2))).1)] (wL cI cO ao ta B (xRows T (xs (i + 1)) (xs (i + 2))).2 MB t)
  refine j_aload_n (pc' := 131) C dL_law_130 rfl rfl ?_
  refine j_arg (pc' := 136) C hX hL hi 1 (by decide) 1 (by decide) dL_law_131 dL_law_132 dL_law_133 dL_law_134 dL_law_135 rfl ?_
  refine j_arg (pc' := 141) C hX hL hi 2 (by decide) 2 (by decide) dL_law_136 dL_law_137 dL_law_138 dL_law_139 dL_law_140 rfl ?_
  refine jl_M (pc' := 144) (rest := [.int ((xRows T (xs (i + 1)) (xs (i + 2))).1)]) C (c_Mrows l D cI cO MB t (xs (i + 1)) (xs (i + 2))) 2 gL_law_X2_rows rfl (by decide +kernel) (by decide) rfl rfl (Nat.le_of_ble_eq_true rfl) rfl dL_law_141 rfl (fun v u hp => ?_)
  obtain ⟨rfl, rfl⟩ := hp
  show J p l e room_1 s m args below meth c cells slots Q 4 D A 144 [some (.ref b), some (.ref ao), some (.ref (MB 10)), some (.int (nI (i)))] [.int ((mRows t (xs (i + 1)) (xs (i + 2))).1), .int ((xRows T (xs (i + 1)) (xs (i + 2))).1)] (wL cI cO ao ta B (xRows T (xs (i + 1)) (xs (i + 2))).2 MB (mRows t (xs (i + 1)) (xs (i + 2))).2)
  have hk := ok_rows hr (xs (i + 1)) (xs (i + 2))
  exact j_icmp_eq (tgt := 808) (pc' := 147) C dL_law_144 (by decide) rfl (fun _ => kk _ _ hk.2) (fun h => absurd hk.1 h)
set_option maxRecDepth 100000 in
set_option maxHeartbeats 4000000 in
theorem lc_put {p : Program} {l : Launch} {e : Env} {s : State} {m : MethodId} {args : Array Value} {below : List Frame} {meth : Method} {c : Code} {cells slots : Nat} {Q : State → Prop} {D : va_G} {A : Nat → Prop} {cI cO : ClassId} {ao ta : Nat} {B : Nat → Nat → Nat} {T : Nat → TS} {MB : Nat → Nat} {t : TS} {b Ln i : Nat} {xs : Nat → Int32} (C : Cx p room_1 s m args meth c cells slots 4 D A cL_law RL wsL_law ret cI cO) (hX : va_X b Ln xs s s.heap ∧ b < s.heap.size ∧ ¬ A b) (hL : Ln ≤ 3072) (hi : i + 6 ≤ Ln) (hr : Rel T t) (kk : ∀ T1 t1, Rel T1 t1 → J p l e room_1 s m args below meth c cells slots Q 4 D A 808 [some (.ref b), some (.ref ao), some (.ref (MB 10)), some (.int (nI (i)))] [] (wL cI cO ao ta B T1 MB t1)) : J p l e room_1 s m args below meth c cells slots Q 4 D A 149 [some (.ref b), some (.ref ao), some (.ref (MB 10)), some (.int (nI (i)))] [] (wL cI cO ao ta B T MB t) := by
  refine j_aload_n (pc' := 150) C dL_law_149 rfl rfl ?_
  refine j_arg (pc' := 155) C hX hL hi 1 (by decide) 1 (by decide) dL_law_150 dL_law_151 dL_law_152 dL_law_153 dL_law_154 rfl ?_
  refine j_arg (pc' := 160) C hX hL hi 2 (by decide) 2 (by decide) dL_law_155 dL_law_156 dL_law_157 dL_law_158 dL_law_159 rfl ?_
  refine jl_X (pc' := 163) (rest := []) C (c_Xput l D cI cO ao ta B T hr.okX (xs (i + 1)) (xs (i + 2))) 2 gL_law_X1_put rfl (by decide +kernel) (by decide) rfl rfl (by decide) (fun _ _ _ _ _ => trivial) (fun _ _ _ _ _ _ => trivial) rfl dL_law_160 rfl (fun v u hp => ?_)
  obtain ⟨rfl, rfl⟩ := hp
  show J p l e room_1 s m args below meth c cells slots Q 4 D A 163 [some (.ref b), some (.ref ao), some (.ref (MB 10)), some (.int (nI (i)))] [.int ((xPut T (xs (i + 1)) (xs (i + 2))).1)] (wL cI cO ao ta B (xPut T (xs (i + 1)) (xs (i + 2))).2 MB t)
  refine j_aload_n (pc' := 164) C dL_law_163 rfl rfl ?_
  refine j_arg (pc' := 169) C hX hL hi 1 (by decide) 1 (by decide) dL_law_164 dL_law_165 dL_law_166 dL_law_167 dL_law_168 rfl ?_
  refine j_arg (pc' := 174) C hX hL hi 2 (by decide) 2 (by decide) dL_law_169 dL_law_170 dL_law_171 dL_law_172 dL_law_173 rfl ?_
  refine jl_M (pc' := 177) (rest := [.int ((xPut T (xs (i + 1)) (xs (i + 2))).1)]) C (c_Mput l D cI cO MB t hr.okM (xs (i + 1)) (xs (i + 2))) 2 gL_law_X2_put rfl (by decide +kernel) (by decide) rfl rfl (Nat.le_of_ble_eq_true rfl) rfl dL_law_174 rfl (fun v u hp => ?_)
  obtain ⟨rfl, rfl⟩ := hp
  show J p l e room_1 s m args below meth c cells slots Q 4 D A 177 [some (.ref b), some (.ref ao), some (.ref (MB 10)), some (.int (nI (i)))] [.int ((mPut t (xs (i + 1)) (xs (i + 2))).1), .int ((xPut T (xs (i + 1)) (xs (i + 2))).1)] (wL cI cO ao ta B (xPut T (xs (i + 1)) (xs (i + 2))).2 MB (mPut t (xs (i + 1)) (xs (i + 2))).2)
  have hk := ok_put hr (xs (i + 1)) (xs (i + 2))
  exact j_icmp_eq (tgt := 808) (pc' := 180) C dL_law_177 (by decide) rfl (fun _ => kk _ _ hk.2) (fun h => absurd hk.1 h)
set_option maxRecDepth 100000 in
set_option maxHeartbeats 4000000 in
theorem lc_strike {p : Program} {l : Launch} {e : Env} {s : State} {m : MethodId} {args : Array Value} {below : List Frame} {meth : Method} {c : Code} {cells slots : Nat} {Q : State → Prop} {D : va_G} {A : Nat → Prop} {cI cO : ClassId} {ao ta : Nat} {B : Nat → Nat → Nat} {T : Nat → TS} {MB : Nat → Nat} {t : TS} {b Ln i : Nat} {xs : Nat → Int32} (C : Cx p room_1 s m args meth c cells slots 4 D A cL_law RL wsL_law ret cI cO) (hX : va_X b Ln xs s s.heap ∧ b < s.heap.size ∧ ¬ A b) (hL : Ln ≤ 3072) (hi : i + 6 ≤ Ln) (hr : Rel T t) (kk : ∀ T1 t1, Rel T1 t1 → J p l e room_1 s m args below meth c cells slots Q 4 D A 808 [some (.ref b), some (.ref ao), some (.ref (MB 10)), some (.int (nI (i)))] [] (wL cI cO ao ta B T1 MB t1)) : J p l e room_1 s m args below meth c cells slots Q 4 D A 182 [some (.ref b), some (.ref ao), some (.ref (MB 10)), some (.int (nI (i)))] [] (wL cI cO ao ta B T MB t) := by
  refine j_aload_n (pc' := 183) C dL_law_182 rfl rfl ?_
  refine j_arg (pc' := 188) C hX hL hi 1 (by decide) 1 (by decide) dL_law_183 dL_law_184 dL_law_185 dL_law_186 dL_law_187 rfl ?_
  refine j_arg (pc' := 193) C hX hL hi 2 (by decide) 2 (by decide) dL_law_188 dL_law_189 dL_law_190 dL_law_191 dL_law_192 rfl ?_
  refine jl_X (pc' := 196) (rest := []) C (c_Xstrike l D cI cO ao ta B T hr.okX (xs (i + 1)) (xs (i + 2))) 2 gL_law_X1_strike rfl (by decide +kernel) (by decide) rfl rfl (by decide) (fun _ _ _ _ _ => trivial) (fun _ _ _ _ _ _ => trivial) rfl dL_law_193 rfl (fun v u hp => ?_)
  obtain ⟨rfl, rfl⟩ := hp
  show J p l e room_1 s m args below meth c cells slots Q 4 D A 196 [some (.ref b), some (.ref ao), some (.ref (MB 10)), some (.int (nI (i)))] [.int ((xStrike T (xs (i + 1)) (xs (i + 2))).1)] (wL cI cO ao ta B (xStrike T (xs (i + 1)) (xs (i + 2))).2 MB t)
  refine j_aload_n (pc' := 197) C dL_law_196 rfl rfl ?_
  refine j_arg (pc' := 202) C hX hL hi 1 (by decide) 1 (by decide) dL_law_197 dL_law_198 dL_law_199 dL_law_200 dL_law_201 rfl ?_
  refine j_arg (pc' := 207) C hX hL hi 2 (by decide) 2 (by decide) dL_law_202 dL_law_203 dL_law_204 dL_law_205 dL_law_206 rfl ?_
  refine jl_M (pc' := 210) (rest := [.int ((xStrike T (xs (i + 1)) (xs (i + 2))).1)]) C (c_Mstrike l D cI cO MB t hr.okM (xs (i + 1)) (xs (i + 2))) 2 gL_law_X2_strike rfl (by decide +kernel) (by decide) rfl rfl (Nat.le_of_ble_eq_true rfl) rfl dL_law_207 rfl (fun v u hp => ?_)
  obtain ⟨rfl, rfl⟩ := hp
  show J p l e room_1 s m args below meth c cells slots Q 4 D A 210 [some (.ref b), some (.ref ao), some (.ref (MB 10)), some (.int (nI (i)))] [.int ((mStrike t (xs (i + 1)) (xs (i + 2))).1), .int ((xStrike T (xs (i + 1)) (xs (i + 2))).1)] (wL cI cO ao ta B (xStrike T (xs (i + 1)) (xs (i + 2))).2 MB (mStrike t (xs (i + 1)) (xs (i + 2))).2)
  have hk := ok_strike hr (xs (i + 1)) (xs (i + 2))
  exact j_icmp_eq (tgt := 808) (pc' := 213) C dL_law_210 (by decide) rfl (fun _ => kk _ _ hk.2) (fun h => absurd hk.1 h)
set_option maxRecDepth 100000 in
set_option maxHeartbeats 4000000 in
theorem lc_sight {p : Program} {l : Launch} {e : Env} {s : State} {m : MethodId} {args : Array Value} {below : List Frame} {meth : Method} {c : Code} {cells slots : Nat} {Q : State → Prop} {D : va_G} {A : Nat → Prop} {cI cO : ClassId} {ao ta : Nat} {B : Nat → Nat → Nat} {T : Nat → TS} {MB : Nat → Nat} {t : TS} {b Ln i : Nat} {xs : Nat → Int32} (C : Cx p room_1 s m args meth c cells slots 4 D A cL_law RL wsL_law ret cI cO) (hX : va_X b Ln xs s s.heap ∧ b < s.heap.size ∧ ¬ A b) (hL : Ln ≤ 3072) (hi : i + 6 ≤ Ln) (hr : Rel T t) (kk : ∀ T1 t1, Rel T1 t1 → J p l e room_1 s m args below meth c cells slots Q 4 D A 808 [some (.ref b), some (.ref ao), some (.ref (MB 10)), some (.int (nI (i)))] [] (wL cI cO ao ta B T1 MB t1)) : J p l e room_1 s m args below meth c cells slots Q 4 D A 215 [some (.ref b), some (.ref ao), some (.ref (MB 10)), some (.int (nI (i)))] [] (wL cI cO ao ta B T MB t) := by
  refine j_aload_n (pc' := 216) C dL_law_215 rfl rfl ?_
  refine j_arg (pc' := 221) C hX hL hi 1 (by decide) 1 (by decide) dL_law_216 dL_law_217 dL_law_218 dL_law_219 dL_law_220 rfl ?_
  refine j_arg (pc' := 226) C hX hL hi 2 (by decide) 2 (by decide) dL_law_221 dL_law_222 dL_law_223 dL_law_224 dL_law_225 rfl ?_
  refine j_arg (pc' := 231) C hX hL hi 3 (by decide) 3 (by decide) dL_law_226 dL_law_227 dL_law_228 dL_law_229 dL_law_230 rfl ?_
  refine j_arg (pc' := 236) C hX hL hi 4 (by decide) 4 (by decide) dL_law_231 dL_law_232 dL_law_233 dL_law_234 dL_law_235 rfl ?_
  refine j_arg (pc' := 241) C hX hL hi 5 (by decide) 5 (by decide) dL_law_236 dL_law_237 dL_law_238 dL_law_239 dL_law_240 rfl ?_
  refine j_bool (pc' := 249) C dL_law_241 dL_law_244 dL_law_245 dL_law_248 rfl ?_
  refine jl_X (pc' := 252) (rest := []) C (c_Xsight l D cI cO ao ta B T hr.okX (xs (i + 1)) (xs (i + 2)) (xs (i + 3)) (xs (i + 4)) (bz (xs (i + 5)))) 5 gL_law_X1_sight rfl (by decide +kernel) (by decide) rfl rfl (by decide) (fun _ _ _ _ _ => trivial) (fun _ _ _ _ _ _ => trivial) rfl dL_law_249 rfl (fun v u hp => ?_)
  obtain ⟨rfl, rfl⟩ := hp
  show J p l e room_1 s m args below meth c cells slots Q 4 D A 252 [some (.ref b), some (.ref ao), some (.ref (MB 10)), some (.int (nI (i)))] [.int ((xSight T (xs (i + 1)) (xs (i + 2)) (xs (i + 3)) (xs (i + 4)) (bz (xs (i + 5)))).1)] (wL cI cO ao ta B (xSight T (xs (i + 1)) (xs (i + 2)) (xs (i + 3)) (xs (i + 4)) (bz (xs (i + 5)))).2 MB t)
  refine j_aload_n (pc' := 253) C dL_law_252 rfl rfl ?_
  refine j_arg (pc' := 258) C hX hL hi 1 (by decide) 1 (by decide) dL_law_253 dL_law_254 dL_law_255 dL_law_256 dL_law_257 rfl ?_
  refine j_arg (pc' := 263) C hX hL hi 2 (by decide) 2 (by decide) dL_law_258 dL_law_259 dL_law_260 dL_law_261 dL_law_262 rfl ?_
  refine j_arg (pc' := 268) C hX hL hi 3 (by decide) 3 (by decide) dL_law_263 dL_law_264 dL_law_265 dL_law_266 dL_law_267 rfl ?_
  refine j_arg (pc' := 273) C hX hL hi 4 (by decide) 4 (by decide) dL_law_268 dL_law_269 dL_law_270 dL_law_271 dL_law_272 rfl ?_
  refine j_arg (pc' := 278) C hX hL hi 5 (by decide) 5 (by decide) dL_law_273 dL_law_274 dL_law_275 dL_law_276 dL_law_277 rfl ?_
  refine j_bool (pc' := 286) C dL_law_278 dL_law_281 dL_law_282 dL_law_285 rfl ?_
  refine jl_M (pc' := 289) (rest := [.int ((xSight T (xs (i + 1)) (xs (i + 2)) (xs (i + 3)) (xs (i + 4)) (bz (xs (i + 5)))).1)]) C (c_Msight l D cI cO MB t hr.okM (xs (i + 1)) (xs (i + 2)) (xs (i + 3)) (xs (i + 4)) (bz (xs (i + 5)))) 5 gL_law_X2_sight rfl (by decide +kernel) (by decide) rfl rfl (Nat.le_of_ble_eq_true rfl) rfl dL_law_286 rfl (fun v u hp => ?_)
  obtain ⟨rfl, rfl⟩ := hp
  show J p l e room_1 s m args below meth c cells slots Q 4 D A 289 [some (.ref b), some (.ref ao), some (.ref (MB 10)), some (.int (nI (i)))] [.int ((mSight t (xs (i + 1)) (xs (i + 2)) (xs (i + 3)) (xs (i + 4)) (bz (xs (i + 5)))).1), .int ((xSight T (xs (i + 1)) (xs (i + 2)) (xs (i + 3)) (xs (i + 4)) (bz (xs (i + 5)))).1)] (wL cI cO ao ta B (xSight T (xs (i + 1)) (xs (i + 2)) (xs (i + 3)) (xs (i + 4)) (bz (xs (i + 5)))).2 MB (mSight t (xs (i + 1)) (xs (i + 2)) (xs (i + 3)) (xs (i + 4)) (bz (xs (i + 5)))).2)
  have hk := ok_sight hr (xs (i + 1)) (xs (i + 2)) (xs (i + 3)) (xs (i + 4)) (bz (xs (i + 5)))
  exact j_icmp_eq (tgt := 808) (pc' := 292) C dL_law_289 (by decide) rfl (fun _ => kk _ _ hk.2) (fun h => absurd hk.1 h)
set_option maxRecDepth 100000 in
set_option maxHeartbeats 4000000 in
theorem lc_begins {p : Program} {l : Launch} {e : Env} {s : State} {m : MethodId} {args : Array Value} {below : List Frame} {meth : Method} {c : Code} {cells slots : Nat} {Q : State → Prop} {D : va_G} {A : Nat → Prop} {cI cO : ClassId} {ao ta : Nat} {B : Nat → Nat → Nat} {T : Nat → TS} {MB : Nat → Nat} {t : TS} {b Ln i : Nat} {xs : Nat → Int32} (C : Cx p room_1 s m args meth c cells slots 4 D A cL_law RL wsL_law ret cI cO) (hX : va_X b Ln xs s s.heap ∧ b < s.heap.size ∧ ¬ A b) (hL : Ln ≤ 3072) (hi : i + 6 ≤ Ln) (hr : Rel T t) (kk : ∀ T1 t1, Rel T1 t1 → J p l e room_1 s m args below meth c cells slots Q 4 D A 808 [some (.ref b), some (.ref ao), some (.ref (MB 10)), some (.int (nI (i)))] [] (wL cI cO ao ta B T1 MB t1)) : J p l e room_1 s m args below meth c cells slots Q 4 D A 294 [some (.ref b), some (.ref ao), some (.ref (MB 10)), some (.int (nI (i)))] [] (wL cI cO ao ta B T MB t) := by
  refine j_aload_n (pc' := 295) C dL_law_294 rfl rfl ?_
  refine j_arg (pc' := 300) C hX hL hi 1 (by decide) 1 (by decide) dL_law_295 dL_law_296 dL_law_297 dL_law_298 dL_law_299 rfl ?_
  refine j_arg (pc' := 305) C hX hL hi 2 (by decide) 2 (by decide) dL_law_300 dL_law_301 dL_law_302 dL_law_303 dL_law_304 rfl ?_
  refine j_arg (pc' := 310) C hX hL hi 3 (by decide) 3 (by decide) dL_law_305 dL_law_306 dL_law_307 dL_law_308 dL_law_309 rfl ?_
  refine j_arg (pc' := 315) C hX hL hi 4 (by decide) 4 (by decide) dL_law_310 dL_law_311 dL_law_312 dL_law_313 dL_law_314 rfl ?_
  refine jl_X (pc' := 318) (rest := []) C (c_Xbegins l D cI cO ao ta B T hr.okX (xs (i + 1)) (xs (i + 2)) (xs (i + 3)) (xs (i + 4))) 4 gL_law_X1_begins rfl (by decide +kernel) (by decide) rfl rfl (by decide) (fun _ _ _ _ _ => trivial) (fun _ _ _ _ _ _ => trivial) rfl dL_law_315 rfl (fun v u hp => ?_)
  obtain ⟨rfl, rfl⟩ := hp
  show J p l e room_1 s m args below meth c cells slots Q 4 D A 318 [some (.ref b), some (.ref ao), some (.ref (MB 10)), some (.int (nI (i)))] [.int ((xBegins T (xs (i + 1)) (xs (i + 2)) (xs (i + 3)) (xs (i + 4))).1)] (wL cI cO ao ta B (xBegins T (xs (i + 1)) (xs (i + 2)) (xs (i + 3)) (xs (i + 4))).2 MB t)
  refine j_aload_n (pc' := 319) C dL_law_318 rfl rfl ?_
  refine j_arg (pc' := 324) C hX hL hi 1 (by decide) 1 (by decide) dL_law_319 dL_law_320 dL_law_321 dL_law_322 dL_law_323 rfl ?_
  refine j_arg (pc' := 329) C hX hL hi 2 (by decide) 2 (by decide) dL_law_324 dL_law_325 dL_law_326 dL_law_327 dL_law_328 rfl ?_
  refine j_arg (pc' := 334) C hX hL hi 3 (by decide) 3 (by decide) dL_law_329 dL_law_330 dL_law_331 dL_law_332 dL_law_333 rfl ?_
  refine j_arg (pc' := 339) C hX hL hi 4 (by decide) 4 (by decide) dL_law_334 dL_law_335 dL_law_336 dL_law_337 dL_law_338 rfl ?_
  refine jl_M (pc' := 342) (rest := [.int ((xBegins T (xs (i + 1)) (xs (i + 2)) (xs (i + 3)) (xs (i + 4))).1)]) C (c_Mbegins l D cI cO MB t hr.okM (xs (i + 1)) (xs (i + 2)) (xs (i + 3)) (xs (i + 4))) 4 gL_law_X2_begins rfl (by decide +kernel) (by decide) rfl rfl (Nat.le_of_ble_eq_true rfl) rfl dL_law_339 rfl (fun v u hp => ?_)
  obtain ⟨rfl, rfl⟩ := hp
  show J p l e room_1 s m args below meth c cells slots Q 4 D A 342 [some (.ref b), some (.ref ao), some (.ref (MB 10)), some (.int (nI (i)))] [.int ((mBegins t (xs (i + 1)) (xs (i + 2)) (xs (i + 3)) (xs (i + 4))).1), .int ((xBegins T (xs (i + 1)) (xs (i + 2)) (xs (i + 3)) (xs (i + 4))).1)] (wL cI cO ao ta B (xBegins T (xs (i + 1)) (xs (i + 2)) (xs (i + 3)) (xs (i + 4))).2 MB (mBegins t (xs (i + 1)) (xs (i + 2)) (xs (i + 3)) (xs (i + 4))).2)
  have hk := ok_begins hr (xs (i + 1)) (xs (i + 2)) (xs (i + 3)) (xs (i + 4))
  exact j_icmp_eq (tgt := 808) (pc' := 345) C dL_law_342 (by decide) rfl (fun _ => kk _ _ hk.2) (fun h => absurd hk.1 h)
set_option maxRecDepth 100000 in
set_option maxHeartbeats 4000000 in
theorem lc_room {p : Program} {l : Launch} {e : Env} {s : State} {m : MethodId} {args : Array Value} {below : List Frame} {meth : Method} {c : Code} {cells slots : Nat} {Q : State → Prop} {D : va_G} {A : Nat → Prop} {cI cO : ClassId} {ao ta : Nat} {B : Nat → Nat → Nat} {T : Nat → TS} {MB : Nat → Nat} {t : TS} {b Ln i : Nat} {xs : Nat → Int32} (C : Cx p room_1 s m args meth c cells slots 4 D A cL_law RL wsL_law ret cI cO) (hX : va_X b Ln xs s s.heap ∧ b < s.heap.size ∧ ¬ A b) (hL : Ln ≤ 3072) (hi : i + 6 ≤ Ln) (hr : Rel T t) (kk : ∀ T1 t1, Rel T1 t1 → J p l e room_1 s m args below meth c cells slots Q 4 D A 808 [some (.ref b), some (.ref ao), some (.ref (MB 10)), some (.int (nI (i)))] [] (wL cI cO ao ta B T1 MB t1)) : J p l e room_1 s m args below meth c cells slots Q 4 D A 347 [some (.ref b), some (.ref ao), some (.ref (MB 10)), some (.int (nI (i)))] [] (wL cI cO ao ta B T MB t) := by
  refine j_aload_n (pc' := 348) C dL_law_347 rfl rfl ?_
  refine j_arg (pc' := 353) C hX hL hi 1 (by decide) 1 (by decide) dL_law_348 dL_law_349 dL_law_350 dL_law_351 dL_law_352 rfl ?_
  refine j_arg (pc' := 358) C hX hL hi 2 (by decide) 2 (by decide) dL_law_353 dL_law_354 dL_law_355 dL_law_356 dL_law_357 rfl ?_
  refine jl_X (pc' := 361) (rest := []) C (c_Xroom l D cI cO ao ta B T (xs (i + 1)) (xs (i + 2))) 2 gL_law_X1_room rfl (by decide +kernel) (by decide) rfl rfl (by decide) (fun _ _ _ _ _ => trivial) (fun _ _ _ _ _ _ => trivial) rfl dL_law_358 rfl (fun v u hp => ?_)
  obtain ⟨rfl, rfl⟩ := hp
  show J p l e room_1 s m args below meth c cells slots Q 4 D A 361 [some (.ref b), some (.ref ao), some (.ref (MB 10)), some (.int (nI (i)))] [.int ((xRoom T (xs (i + 1)) (xs (i + 2))).1)] (wL cI cO ao ta B (xRoom T (xs (i + 1)) (xs (i + 2))).2 MB t)
  refine j_aload_n (pc' := 362) C dL_law_361 rfl rfl ?_
  refine j_arg (pc' := 367) C hX hL hi 1 (by decide) 1 (by decide) dL_law_362 dL_law_363 dL_law_364 dL_law_365 dL_law_366 rfl ?_
  refine j_arg (pc' := 372) C hX hL hi 2 (by decide) 2 (by decide) dL_law_367 dL_law_368 dL_law_369 dL_law_370 dL_law_371 rfl ?_
  refine jl_M (pc' := 375) (rest := [.int ((xRoom T (xs (i + 1)) (xs (i + 2))).1)]) C (c_Mroom l D cI cO MB t (xs (i + 1)) (xs (i + 2))) 2 gL_law_X2_room rfl (by decide +kernel) (by decide) rfl rfl (Nat.le_of_ble_eq_true rfl) rfl dL_law_372 rfl (fun v u hp => ?_)
  obtain ⟨rfl, rfl⟩ := hp
  show J p l e room_1 s m args below meth c cells slots Q 4 D A 375 [some (.ref b), some (.ref ao), some (.ref (MB 10)), some (.int (nI (i)))] [.int ((mRoom t (xs (i + 1)) (xs (i + 2))).1), .int ((xRoom T (xs (i + 1)) (xs (i + 2))).1)] (wL cI cO ao ta B (xRoom T (xs (i + 1)) (xs (i + 2))).2 MB (mRoom t (xs (i + 1)) (xs (i + 2))).2)
  have hk := ok_room hr (xs (i + 1)) (xs (i + 2))
  exact j_icmp_eq (tgt := 808) (pc' := 378) C dL_law_375 (by decide) rfl (fun _ => kk _ _ hk.2) (fun h => absurd hk.1 h)
set_option maxRecDepth 100000 in
set_option maxHeartbeats 4000000 in
theorem lc_sightOf {p : Program} {l : Launch} {e : Env} {s : State} {m : MethodId} {args : Array Value} {below : List Frame} {meth : Method} {c : Code} {cells slots : Nat} {Q : State → Prop} {D : va_G} {A : Nat → Prop} {cI cO : ClassId} {ao ta : Nat} {B : Nat → Nat → Nat} {T : Nat → TS} {MB : Nat → Nat} {t : TS} {b Ln i : Nat} {xs : Nat → Int32} (C : Cx p room_1 s m args meth c cells slots 4 D A cL_law RL wsL_law ret cI cO) (hX : va_X b Ln xs s s.heap ∧ b < s.heap.size ∧ ¬ A b) (hL : Ln ≤ 3072) (hi : i + 6 ≤ Ln) (hr : Rel T t) (kk : ∀ T1 t1, Rel T1 t1 → J p l e room_1 s m args below meth c cells slots Q 4 D A 808 [some (.ref b), some (.ref ao), some (.ref (MB 10)), some (.int (nI (i)))] [] (wL cI cO ao ta B T1 MB t1)) : J p l e room_1 s m args below meth c cells slots Q 4 D A 380 [some (.ref b), some (.ref ao), some (.ref (MB 10)), some (.int (nI (i)))] [] (wL cI cO ao ta B T MB t) := by
  refine j_aload_n (pc' := 381) C dL_law_380 rfl rfl ?_
  refine j_arg (pc' := 386) C hX hL hi 1 (by decide) 1 (by decide) dL_law_381 dL_law_382 dL_law_383 dL_law_384 dL_law_385 rfl ?_
  refine j_arg (pc' := 391) C hX hL hi 2 (by decide) 2 (by decide) dL_law_386 dL_law_387 dL_law_388 dL_law_389 dL_law_390 rfl ?_
  refine j_arg (pc' := 396) C hX hL hi 3 (by decide) 3 (by decide) dL_law_391 dL_law_392 dL_law_393 dL_law_394 dL_law_395 rfl ?_
  refine jl_X (pc' := 399) (rest := []) C (c_XsightOf l D cI cO ao ta B T hr.okX (xs (i + 1)) (xs (i + 2)) (xs (i + 3))) 3 gL_law_X1_sightOf rfl (by decide +kernel) (by decide) rfl rfl (by decide) (fun _ _ _ _ _ => trivial) (fun _ _ _ _ _ _ => trivial) rfl dL_law_396 rfl (fun v u hp => ?_)
  obtain ⟨rfl, rfl⟩ := hp
  show J p l e room_1 s m args below meth c cells slots Q 4 D A 399 [some (.ref b), some (.ref ao), some (.ref (MB 10)), some (.int (nI (i)))] [.int ((xSightOf T (xs (i + 1)) (xs (i + 2)) (xs (i + 3))).1)] (wL cI cO ao ta B (xSightOf T (xs (i + 1)) (xs (i + 2)) (xs (i + 3))).2 MB t)
  refine j_aload_n (pc' := 400) C dL_law_399 rfl rfl ?_
  refine j_arg (pc' := 405) C hX hL hi 1 (by decide) 1 (by decide) dL_law_400 dL_law_401 dL_law_402 dL_law_403 dL_law_404 rfl ?_
  refine j_arg (pc' := 410) C hX hL hi 2 (by decide) 2 (by decide) dL_law_405 dL_law_406 dL_law_407 dL_law_408 dL_law_409 rfl ?_
  refine j_arg (pc' := 415) C hX hL hi 3 (by decide) 3 (by decide) dL_law_410 dL_law_411 dL_law_412 dL_law_413 dL_law_414 rfl ?_
  refine jl_M (pc' := 418) (rest := [.int ((xSightOf T (xs (i + 1)) (xs (i + 2)) (xs (i + 3))).1)]) C (c_MsightOf l D cI cO MB t hr.okM (xs (i + 1)) (xs (i + 2)) (xs (i + 3))) 3 gL_law_X2_sightOf rfl (by decide +kernel) (by decide) rfl rfl (Nat.le_of_ble_eq_true rfl) rfl dL_law_415 rfl (fun v u hp => ?_)
  obtain ⟨rfl, rfl⟩ := hp
  show J p l e room_1 s m args below meth c cells slots Q 4 D A 418 [some (.ref b), some (.ref ao), some (.ref (MB 10)), some (.int (nI (i)))] [.int ((mSightOf t (xs (i + 1)) (xs (i + 2)) (xs (i + 3))).1), .int ((xSightOf T (xs (i + 1)) (xs (i + 2)) (xs (i + 3))).1)] (wL cI cO ao ta B (xSightOf T (xs (i + 1)) (xs (i + 2)) (xs (i + 3))).2 MB (mSightOf t (xs (i + 1)) (xs (i + 2)) (xs (i + 3))).2)
  have hk := ok_sightOf hr (xs (i + 1)) (xs (i + 2)) (xs (i + 3))
  exact j_icmp_eq (tgt := 808) (pc' := 421) C dL_law_418 (by decide) rfl (fun _ => kk _ _ hk.2) (fun h => absurd hk.1 h)
set_option maxRecDepth 100000 in
set_option maxHeartbeats 4000000 in
theorem lc_least {p : Program} {l : Launch} {e : Env} {s : State} {m : MethodId} {args : Array Value} {below : List Frame} {meth : Method} {c : Code} {cells slots : Nat} {Q : State → Prop} {D : va_G} {A : Nat → Prop} {cI cO : ClassId} {ao ta : Nat} {B : Nat → Nat → Nat} {T : Nat → TS} {MB : Nat → Nat} {t : TS} {b Ln i : Nat} {xs : Nat → Int32} (C : Cx p room_1 s m args meth c cells slots 4 D A cL_law RL wsL_law ret cI cO) (hX : va_X b Ln xs s s.heap ∧ b < s.heap.size ∧ ¬ A b) (hL : Ln ≤ 3072) (hi : i + 6 ≤ Ln) (hr : Rel T t) (kk : ∀ T1 t1, Rel T1 t1 → J p l e room_1 s m args below meth c cells slots Q 4 D A 808 [some (.ref b), some (.ref ao), some (.ref (MB 10)), some (.int (nI (i)))] [] (wL cI cO ao ta B T1 MB t1)) : J p l e room_1 s m args below meth c cells slots Q 4 D A 423 [some (.ref b), some (.ref ao), some (.ref (MB 10)), some (.int (nI (i)))] [] (wL cI cO ao ta B T MB t) := by
  refine j_aload_n (pc' := 424) C dL_law_423 rfl rfl ?_
  refine j_arg (pc' := 429) C hX hL hi 1 (by decide) 1 (by decide) dL_law_424 dL_law_425 dL_law_426 dL_law_427 dL_law_428 rfl ?_
  refine j_arg (pc' := 434) C hX hL hi 2 (by decide) 2 (by decide) dL_law_429 dL_law_430 dL_law_431 dL_law_432 dL_law_433 rfl ?_
  refine j_arg (pc' := 439) C hX hL hi 3 (by decide) 3 (by decide) dL_law_434 dL_law_435 dL_law_436 dL_law_437 dL_law_438 rfl ?_
  refine jl_X (pc' := 442) (rest := []) C (c_Xleast l D cI cO ao ta B T hr.okX (xs (i + 1)) (xs (i + 2)) (xs (i + 3))) 3 gL_law_X1_least rfl (by decide +kernel) (by decide) rfl rfl (by decide) (fun _ _ _ _ _ => trivial) (fun _ _ _ _ _ _ => trivial) rfl dL_law_439 rfl (fun v u hp => ?_)
  obtain ⟨rfl, rfl⟩ := hp
  show J p l e room_1 s m args below meth c cells slots Q 4 D A 442 [some (.ref b), some (.ref ao), some (.ref (MB 10)), some (.int (nI (i)))] [.int ((xLeast T (xs (i + 1)) (xs (i + 2)) (xs (i + 3))).1)] (wL cI cO ao ta B (xLeast T (xs (i + 1)) (xs (i + 2)) (xs (i + 3))).2 MB t)
  refine j_aload_n (pc' := 443) C dL_law_442 rfl rfl ?_
  refine j_arg (pc' := 448) C hX hL hi 1 (by decide) 1 (by decide) dL_law_443 dL_law_444 dL_law_445 dL_law_446 dL_law_447 rfl ?_
  refine j_arg (pc' := 453) C hX hL hi 2 (by decide) 2 (by decide) dL_law_448 dL_law_449 dL_law_450 dL_law_451 dL_law_452 rfl ?_
  refine j_arg (pc' := 458) C hX hL hi 3 (by decide) 3 (by decide) dL_law_453 dL_law_454 dL_law_455 dL_law_456 dL_law_457 rfl ?_
  refine jl_M (pc' := 461) (rest := [.int ((xLeast T (xs (i + 1)) (xs (i + 2)) (xs (i + 3))).1)]) C (c_Mleast l D cI cO MB t hr.okM (xs (i + 1)) (xs (i + 2)) (xs (i + 3))) 3 gL_law_X2_least rfl (by decide +kernel) (by decide) rfl rfl (Nat.le_of_ble_eq_true rfl) rfl dL_law_458 rfl (fun v u hp => ?_)
  obtain ⟨rfl, rfl⟩ := hp
  show J p l e room_1 s m args below meth c cells slots Q 4 D A 461 [some (.ref b), some (.ref ao), some (.ref (MB 10)), some (.int (nI (i)))] [.int ((mLeast t (xs (i + 1)) (xs (i + 2)) (xs (i + 3))).1), .int ((xLeast T (xs (i + 1)) (xs (i + 2)) (xs (i + 3))).1)] (wL cI cO ao ta B (xLeast T (xs (i + 1)) (xs (i + 2)) (xs (i + 3))).2 MB (mLeast t (xs (i + 1)) (xs (i + 2)) (xs (i + 3))).2)
  have hk := ok_least hr (xs (i + 1)) (xs (i + 2)) (xs (i + 3))
  exact j_icmp_eq (tgt := 808) (pc' := 464) C dL_law_461 (by decide) rfl (fun _ => kk _ _ hk.2) (fun h => absurd hk.1 h)
set_option maxRecDepth 100000 in
set_option maxHeartbeats 4000000 in
theorem lc_greatest {p : Program} {l : Launch} {e : Env} {s : State} {m : MethodId} {args : Array Value} {below : List Frame} {meth : Method} {c : Code} {cells slots : Nat} {Q : State → Prop} {D : va_G} {A : Nat → Prop} {cI cO : ClassId} {ao ta : Nat} {B : Nat → Nat → Nat} {T : Nat → TS} {MB : Nat → Nat} {t : TS} {b Ln i : Nat} {xs : Nat → Int32} (C : Cx p room_1 s m args meth c cells slots 4 D A cL_law RL wsL_law ret cI cO) (hX : va_X b Ln xs s s.heap ∧ b < s.heap.size ∧ ¬ A b) (hL : Ln ≤ 3072) (hi : i + 6 ≤ Ln) (hr : Rel T t) (kk : ∀ T1 t1, Rel T1 t1 → J p l e room_1 s m args below meth c cells slots Q 4 D A 808 [some (.ref b), some (.ref ao), some (.ref (MB 10)), some (.int (nI (i)))] [] (wL cI cO ao ta B T1 MB t1)) : J p l e room_1 s m args below meth c cells slots Q 4 D A 466 [some (.ref b), some (.ref ao), some (.ref (MB 10)), some (.int (nI (i)))] [] (wL cI cO ao ta B T MB t) := by
  refine j_aload_n (pc' := 467) C dL_law_466 rfl rfl ?_
  refine j_arg (pc' := 472) C hX hL hi 1 (by decide) 1 (by decide) dL_law_467 dL_law_468 dL_law_469 dL_law_470 dL_law_471 rfl ?_
  refine j_arg (pc' := 477) C hX hL hi 2 (by decide) 2 (by decide) dL_law_472 dL_law_473 dL_law_474 dL_law_475 dL_law_476 rfl ?_
  refine j_arg (pc' := 482) C hX hL hi 3 (by decide) 3 (by decide) dL_law_477 dL_law_478 dL_law_479 dL_law_480 dL_law_481 rfl ?_
  refine jl_X (pc' := 485) (rest := []) C (c_Xgreatest l D cI cO ao ta B T hr.okX (xs (i + 1)) (xs (i + 2)) (xs (i + 3))) 3 gL_law_X1_greatest rfl (by decide +kernel) (by decide) rfl rfl (by decide) (fun _ _ _ _ _ => trivial) (fun _ _ _ _ _ _ => trivial) rfl dL_law_482 rfl (fun v u hp => ?_)
  obtain ⟨rfl, rfl⟩ := hp
  show J p l e room_1 s m args below meth c cells slots Q 4 D A 485 [some (.ref b), some (.ref ao), some (.ref (MB 10)), some (.int (nI (i)))] [.int ((xGreatest T (xs (i + 1)) (xs (i + 2)) (xs (i + 3))).1)] (wL cI cO ao ta B (xGreatest T (xs (i + 1)) (xs (i + 2)) (xs (i + 3))).2 MB t)
  refine j_aload_n (pc' := 486) C dL_law_485 rfl rfl ?_
  refine j_arg (pc' := 491) C hX hL hi 1 (by decide) 1 (by decide) dL_law_486 dL_law_487 dL_law_488 dL_law_489 dL_law_490 rfl ?_
  refine j_arg (pc' := 496) C hX hL hi 2 (by decide) 2 (by decide) dL_law_491 dL_law_492 dL_law_493 dL_law_494 dL_law_495 rfl ?_
  refine j_arg (pc' := 501) C hX hL hi 3 (by decide) 3 (by decide) dL_law_496 dL_law_497 dL_law_498 dL_law_499 dL_law_500 rfl ?_
  refine jl_M (pc' := 504) (rest := [.int ((xGreatest T (xs (i + 1)) (xs (i + 2)) (xs (i + 3))).1)]) C (c_Mgreatest l D cI cO MB t hr.okM (xs (i + 1)) (xs (i + 2)) (xs (i + 3))) 3 gL_law_X2_greatest rfl (by decide +kernel) (by decide) rfl rfl (Nat.le_of_ble_eq_true rfl) rfl dL_law_501 rfl (fun v u hp => ?_)
  obtain ⟨rfl, rfl⟩ := hp
  show J p l e room_1 s m args below meth c cells slots Q 4 D A 504 [some (.ref b), some (.ref ao), some (.ref (MB 10)), some (.int (nI (i)))] [.int ((mGreatest t (xs (i + 1)) (xs (i + 2)) (xs (i + 3))).1), .int ((xGreatest T (xs (i + 1)) (xs (i + 2)) (xs (i + 3))).1)] (wL cI cO ao ta B (xGreatest T (xs (i + 1)) (xs (i + 2)) (xs (i + 3))).2 MB (mGreatest t (xs (i + 1)) (xs (i + 2)) (xs (i + 3))).2)
  have hk := ok_greatest hr (xs (i + 1)) (xs (i + 2)) (xs (i + 3))
  exact j_icmp_eq (tgt := 808) (pc' := 507) C dL_law_504 (by decide) rfl (fun _ => kk _ _ hk.2) (fun h => absurd hk.1 h)
set_option maxRecDepth 100000 in
set_option maxHeartbeats 4000000 in
theorem lc_guess {p : Program} {l : Launch} {e : Env} {s : State} {m : MethodId} {args : Array Value} {below : List Frame} {meth : Method} {c : Code} {cells slots : Nat} {Q : State → Prop} {D : va_G} {A : Nat → Prop} {cI cO : ClassId} {ao ta : Nat} {B : Nat → Nat → Nat} {T : Nat → TS} {MB : Nat → Nat} {t : TS} {b Ln i : Nat} {xs : Nat → Int32} (C : Cx p room_1 s m args meth c cells slots 4 D A cL_law RL wsL_law ret cI cO) (hX : va_X b Ln xs s s.heap ∧ b < s.heap.size ∧ ¬ A b) (hL : Ln ≤ 3072) (hi : i + 6 ≤ Ln) (hr : Rel T t) (kk : ∀ T1 t1, Rel T1 t1 → J p l e room_1 s m args below meth c cells slots Q 4 D A 808 [some (.ref b), some (.ref ao), some (.ref (MB 10)), some (.int (nI (i)))] [] (wL cI cO ao ta B T1 MB t1)) : J p l e room_1 s m args below meth c cells slots Q 4 D A 509 [some (.ref b), some (.ref ao), some (.ref (MB 10)), some (.int (nI (i)))] [] (wL cI cO ao ta B T MB t) := by
  refine j_aload_n (pc' := 510) C dL_law_509 rfl rfl ?_
  refine j_arg (pc' := 515) C hX hL hi 1 (by decide) 1 (by decide) dL_law_510 dL_law_511 dL_law_512 dL_law_513 dL_law_514 rfl ?_
  refine j_arg (pc' := 520) C hX hL hi 2 (by decide) 2 (by decide) dL_law_515 dL_law_516 dL_law_517 dL_law_518 dL_law_519 rfl ?_
  refine j_arg (pc' := 525) C hX hL hi 3 (by decide) 3 (by decide) dL_law_520 dL_law_521 dL_law_522 dL_law_523 dL_law_524 rfl ?_
  refine jl_X (pc' := 528) (rest := []) C (c_Xguess l D cI cO ao ta B T hr.okX (xs (i + 1)) (xs (i + 2)) (xs (i + 3))) 3 gL_law_X1_guess rfl (by decide +kernel) (by decide) rfl rfl (by decide) (fun _ _ _ _ _ => trivial) (fun _ _ _ _ _ _ => trivial) rfl dL_law_525 rfl (fun v u hp => ?_)
  obtain ⟨rfl, rfl⟩ := hp
  show J p l e room_1 s m args below meth c cells slots Q 4 D A 528 [some (.ref b), some (.ref ao), some (.ref (MB 10)), some (.int (nI (i)))] [.int ((xGuess T (xs (i + 1)) (xs (i + 2)) (xs (i + 3))).1)] (wL cI cO ao ta B (xGuess T (xs (i + 1)) (xs (i + 2)) (xs (i + 3))).2 MB t)
  refine j_aload_n (pc' := 529) C dL_law_528 rfl rfl ?_
  refine j_arg (pc' := 534) C hX hL hi 1 (by decide) 1 (by decide) dL_law_529 dL_law_530 dL_law_531 dL_law_532 dL_law_533 rfl ?_
  refine j_arg (pc' := 539) C hX hL hi 2 (by decide) 2 (by decide) dL_law_534 dL_law_535 dL_law_536 dL_law_537 dL_law_538 rfl ?_
  refine j_arg (pc' := 544) C hX hL hi 3 (by decide) 3 (by decide) dL_law_539 dL_law_540 dL_law_541 dL_law_542 dL_law_543 rfl ?_
  refine jl_M (pc' := 547) (rest := [.int ((xGuess T (xs (i + 1)) (xs (i + 2)) (xs (i + 3))).1)]) C (c_Mguess l D cI cO MB t hr.okM (xs (i + 1)) (xs (i + 2)) (xs (i + 3))) 3 gL_law_X2_guess rfl (by decide +kernel) (by decide) rfl rfl (Nat.le_of_ble_eq_true rfl) rfl dL_law_544 rfl (fun v u hp => ?_)
  obtain ⟨rfl, rfl⟩ := hp
  show J p l e room_1 s m args below meth c cells slots Q 4 D A 547 [some (.ref b), some (.ref ao), some (.ref (MB 10)), some (.int (nI (i)))] [.int ((mGuess t (xs (i + 1)) (xs (i + 2)) (xs (i + 3))).1), .int ((xGuess T (xs (i + 1)) (xs (i + 2)) (xs (i + 3))).1)] (wL cI cO ao ta B (xGuess T (xs (i + 1)) (xs (i + 2)) (xs (i + 3))).2 MB (mGuess t (xs (i + 1)) (xs (i + 2)) (xs (i + 3))).2)
  have hk := ok_guess hr (xs (i + 1)) (xs (i + 2)) (xs (i + 3))
  exact j_icmp_eq (tgt := 808) (pc' := 550) C dL_law_547 (by decide) rfl (fun _ => kk _ _ hk.2) (fun h => absurd hk.1 h)
set_option maxRecDepth 100000 in
set_option maxHeartbeats 4000000 in
theorem lc_join {p : Program} {l : Launch} {e : Env} {s : State} {m : MethodId} {args : Array Value} {below : List Frame} {meth : Method} {c : Code} {cells slots : Nat} {Q : State → Prop} {D : va_G} {A : Nat → Prop} {cI cO : ClassId} {ao ta : Nat} {B : Nat → Nat → Nat} {T : Nat → TS} {MB : Nat → Nat} {t : TS} {b Ln i : Nat} {xs : Nat → Int32} (C : Cx p room_1 s m args meth c cells slots 4 D A cL_law RL wsL_law ret cI cO) (hX : va_X b Ln xs s s.heap ∧ b < s.heap.size ∧ ¬ A b) (hL : Ln ≤ 3072) (hi : i + 6 ≤ Ln) (hr : Rel T t) (kk : ∀ T1 t1, Rel T1 t1 → J p l e room_1 s m args below meth c cells slots Q 4 D A 808 [some (.ref b), some (.ref ao), some (.ref (MB 10)), some (.int (nI (i)))] [] (wL cI cO ao ta B T1 MB t1)) : J p l e room_1 s m args below meth c cells slots Q 4 D A 552 [some (.ref b), some (.ref ao), some (.ref (MB 10)), some (.int (nI (i)))] [] (wL cI cO ao ta B T MB t) := by
  refine j_aload_n (pc' := 553) C dL_law_552 rfl rfl ?_
  refine j_arg (pc' := 558) C hX hL hi 1 (by decide) 1 (by decide) dL_law_553 dL_law_554 dL_law_555 dL_law_556 dL_law_557 rfl ?_
  refine j_arg (pc' := 563) C hX hL hi 2 (by decide) 2 (by decide) dL_law_558 dL_law_559 dL_law_560 dL_law_561 dL_law_562 rfl ?_
  refine j_arg (pc' := 568) C hX hL hi 3 (by decide) 3 (by decide) dL_law_563 dL_law_564 dL_law_565 dL_law_566 dL_law_567 rfl ?_
  refine j_arg (pc' := 573) C hX hL hi 4 (by decide) 4 (by decide) dL_law_568 dL_law_569 dL_law_570 dL_law_571 dL_law_572 rfl ?_
  refine jl_X (pc' := 576) (rest := []) C (c_Xjoin l D cI cO ao ta B T hr.okX (xs (i + 1)) (xs (i + 2)) (xs (i + 3)) (xs (i + 4))) 4 gL_law_X1_join rfl (by decide +kernel) (by decide) rfl rfl (by decide) (fun _ _ _ _ _ => trivial) (fun _ _ _ _ _ _ => trivial) rfl dL_law_573 rfl (fun v u hp => ?_)
  obtain ⟨rfl, rfl⟩ := hp
  show J p l e room_1 s m args below meth c cells slots Q 4 D A 576 [some (.ref b), some (.ref ao), some (.ref (MB 10)), some (.int (nI (i)))] [.long ((xJoin T (xs (i + 1)) (xs (i + 2)) (xs (i + 3)) (xs (i + 4))).1)] (wL cI cO ao ta B (xJoin T (xs (i + 1)) (xs (i + 2)) (xs (i + 3)) (xs (i + 4))).2 MB t)
  refine j_aload_n (pc' := 577) C dL_law_576 rfl rfl ?_
  refine j_arg (pc' := 582) C hX hL hi 1 (by decide) 1 (by decide) dL_law_577 dL_law_578 dL_law_579 dL_law_580 dL_law_581 rfl ?_
  refine j_arg (pc' := 587) C hX hL hi 2 (by decide) 2 (by decide) dL_law_582 dL_law_583 dL_law_584 dL_law_585 dL_law_586 rfl ?_
  refine j_arg (pc' := 592) C hX hL hi 3 (by decide) 3 (by decide) dL_law_587 dL_law_588 dL_law_589 dL_law_590 dL_law_591 rfl ?_
  refine j_arg (pc' := 597) C hX hL hi 4 (by decide) 4 (by decide) dL_law_592 dL_law_593 dL_law_594 dL_law_595 dL_law_596 rfl ?_
  refine jl_M (pc' := 600) (rest := [.long ((xJoin T (xs (i + 1)) (xs (i + 2)) (xs (i + 3)) (xs (i + 4))).1)]) C (c_Mjoin l D cI cO MB t hr.okM (xs (i + 1)) (xs (i + 2)) (xs (i + 3)) (xs (i + 4))) 4 gL_law_X2_join rfl (by decide +kernel) (by decide) rfl rfl (Nat.le_of_ble_eq_true rfl) rfl dL_law_597 rfl (fun v u hp => ?_)
  obtain ⟨rfl, rfl⟩ := hp
  show J p l e room_1 s m args below meth c cells slots Q 4 D A 600 [some (.ref b), some (.ref ao), some (.ref (MB 10)), some (.int (nI (i)))] [.long ((mJoin t (xs (i + 1)) (xs (i + 2)) (xs (i + 3)) (xs (i + 4))).1), .long ((xJoin T (xs (i + 1)) (xs (i + 2)) (xs (i + 3)) (xs (i + 4))).1)] (wL cI cO ao ta B (xJoin T (xs (i + 1)) (xs (i + 2)) (xs (i + 3)) (xs (i + 4))).2 MB (mJoin t (xs (i + 1)) (xs (i + 2)) (xs (i + 3)) (xs (i + 4))).2)
  have hk := ok_join hr (xs (i + 1)) (xs (i + 2)) (xs (i + 3)) (xs (i + 4))
  refine j_lcmp (pc' := 601) C dL_law_600 rfl ?_
  exact j_if_eq (tgt := 808) (pc' := 604) C dL_law_601 (by decide) rfl (fun _ => kk _ _ hk.2) (fun h => absurd ((cmp_eq _ _).mpr (by rw [hk.1])) h)
set_option maxRecDepth 100000 in
set_option maxHeartbeats 4000000 in
theorem lc_truth {p : Program} {l : Launch} {e : Env} {s : State} {m : MethodId} {args : Array Value} {below : List Frame} {meth : Method} {c : Code} {cells slots : Nat} {Q : State → Prop} {D : va_G} {A : Nat → Prop} {cI cO : ClassId} {ao ta : Nat} {B : Nat → Nat → Nat} {T : Nat → TS} {MB : Nat → Nat} {t : TS} {b Ln i : Nat} {xs : Nat → Int32} (C : Cx p room_1 s m args meth c cells slots 4 D A cL_law RL wsL_law ret cI cO) (hX : va_X b Ln xs s s.heap ∧ b < s.heap.size ∧ ¬ A b) (hL : Ln ≤ 3072) (hi : i + 6 ≤ Ln) (hr : Rel T t) (kk : ∀ T1 t1, Rel T1 t1 → J p l e room_1 s m args below meth c cells slots Q 4 D A 808 [some (.ref b), some (.ref ao), some (.ref (MB 10)), some (.int (nI (i)))] [] (wL cI cO ao ta B T1 MB t1)) : J p l e room_1 s m args below meth c cells slots Q 4 D A 606 [some (.ref b), some (.ref ao), some (.ref (MB 10)), some (.int (nI (i)))] [] (wL cI cO ao ta B T MB t) := by
  refine j_aload_n (pc' := 607) C dL_law_606 rfl rfl ?_
  refine j_arg (pc' := 612) C hX hL hi 1 (by decide) 1 (by decide) dL_law_607 dL_law_608 dL_law_609 dL_law_610 dL_law_611 rfl ?_
  refine j_arg (pc' := 617) C hX hL hi 2 (by decide) 2 (by decide) dL_law_612 dL_law_613 dL_law_614 dL_law_615 dL_law_616 rfl ?_
  refine j_arg (pc' := 622) C hX hL hi 3 (by decide) 3 (by decide) dL_law_617 dL_law_618 dL_law_619 dL_law_620 dL_law_621 rfl ?_
  refine jl_X (pc' := 625) (rest := []) C (c_Xtruth l D cI cO ao ta B T (xs (i + 1)) (xs (i + 2)) (xs (i + 3))) 3 gL_law_X1_truth rfl (by decide +kernel) (by decide) rfl rfl (by decide) (fun _ _ _ _ _ => trivial) (fun _ _ _ _ _ _ => trivial) rfl dL_law_622 rfl (fun v u hp => ?_)
  obtain ⟨rfl, rfl⟩ := hp
  show J p l e room_1 s m args below meth c cells slots Q 4 D A 625 [some (.ref b), some (.ref ao), some (.ref (MB 10)), some (.int (nI (i)))] [.int ((xTruth T (xs (i + 1)) (xs (i + 2)) (xs (i + 3))).1)] (wL cI cO ao ta B (xTruth T (xs (i + 1)) (xs (i + 2)) (xs (i + 3))).2 MB t)
  refine j_aload_n (pc' := 626) C dL_law_625 rfl rfl ?_
  refine j_arg (pc' := 631) C hX hL hi 1 (by decide) 1 (by decide) dL_law_626 dL_law_627 dL_law_628 dL_law_629 dL_law_630 rfl ?_
  refine j_arg (pc' := 636) C hX hL hi 2 (by decide) 2 (by decide) dL_law_631 dL_law_632 dL_law_633 dL_law_634 dL_law_635 rfl ?_
  refine j_arg (pc' := 641) C hX hL hi 3 (by decide) 3 (by decide) dL_law_636 dL_law_637 dL_law_638 dL_law_639 dL_law_640 rfl ?_
  refine jl_M (pc' := 644) (rest := [.int ((xTruth T (xs (i + 1)) (xs (i + 2)) (xs (i + 3))).1)]) C (c_Mtruth l D cI cO MB t (xs (i + 1)) (xs (i + 2)) (xs (i + 3))) 3 gL_law_X2_truth rfl (by decide +kernel) (by decide) rfl rfl (Nat.le_of_ble_eq_true rfl) rfl dL_law_641 rfl (fun v u hp => ?_)
  obtain ⟨rfl, rfl⟩ := hp
  show J p l e room_1 s m args below meth c cells slots Q 4 D A 644 [some (.ref b), some (.ref ao), some (.ref (MB 10)), some (.int (nI (i)))] [.int ((mTruth t (xs (i + 1)) (xs (i + 2)) (xs (i + 3))).1), .int ((xTruth T (xs (i + 1)) (xs (i + 2)) (xs (i + 3))).1)] (wL cI cO ao ta B (xTruth T (xs (i + 1)) (xs (i + 2)) (xs (i + 3))).2 MB (mTruth t (xs (i + 1)) (xs (i + 2)) (xs (i + 3))).2)
  have hk := ok_truth hr (xs (i + 1)) (xs (i + 2)) (xs (i + 3))
  exact j_icmp_eq (tgt := 808) (pc' := 647) C dL_law_644 (by decide) rfl (fun _ => kk _ _ hk.2) (fun h => absurd hk.1 h)
set_option maxRecDepth 100000 in
set_option maxHeartbeats 4000000 in
theorem lc_agrees {p : Program} {l : Launch} {e : Env} {s : State} {m : MethodId} {args : Array Value} {below : List Frame} {meth : Method} {c : Code} {cells slots : Nat} {Q : State → Prop} {D : va_G} {A : Nat → Prop} {cI cO : ClassId} {ao ta : Nat} {B : Nat → Nat → Nat} {T : Nat → TS} {MB : Nat → Nat} {t : TS} {b Ln i : Nat} {xs : Nat → Int32} (C : Cx p room_1 s m args meth c cells slots 4 D A cL_law RL wsL_law ret cI cO) (hX : va_X b Ln xs s s.heap ∧ b < s.heap.size ∧ ¬ A b) (hL : Ln ≤ 3072) (hi : i + 6 ≤ Ln) (hr : Rel T t) (kk : ∀ T1 t1, Rel T1 t1 → J p l e room_1 s m args below meth c cells slots Q 4 D A 808 [some (.ref b), some (.ref ao), some (.ref (MB 10)), some (.int (nI (i)))] [] (wL cI cO ao ta B T1 MB t1)) : J p l e room_1 s m args below meth c cells slots Q 4 D A 649 [some (.ref b), some (.ref ao), some (.ref (MB 10)), some (.int (nI (i)))] [] (wL cI cO ao ta B T MB t) := by
  refine j_aload_n (pc' := 650) C dL_law_649 rfl rfl ?_
  refine j_arg (pc' := 655) C hX hL hi 1 (by decide) 1 (by decide) dL_law_650 dL_law_651 dL_law_652 dL_law_653 dL_law_654 rfl ?_
  refine jl_X (pc' := 658) (rest := []) C (c_Xagrees l D cI cO ao ta B T hr.okX (xs (i + 1))) 1 gL_law_X1_agrees rfl (by decide +kernel) (by decide) rfl rfl (by decide) (fun _ _ _ _ _ => trivial) (fun _ _ _ _ _ _ => trivial) rfl dL_law_655 rfl (fun v u hp => ?_)
  obtain ⟨rfl, rfl⟩ := hp
  show J p l e room_1 s m args below meth c cells slots Q 4 D A 658 [some (.ref b), some (.ref ao), some (.ref (MB 10)), some (.int (nI (i)))] [.int ((xAgrees T (xs (i + 1))).1)] (wL cI cO ao ta B (xAgrees T (xs (i + 1))).2 MB t)
  refine j_aload_n (pc' := 659) C dL_law_658 rfl rfl ?_
  refine j_arg (pc' := 664) C hX hL hi 1 (by decide) 1 (by decide) dL_law_659 dL_law_660 dL_law_661 dL_law_662 dL_law_663 rfl ?_
  refine jl_M (pc' := 667) (rest := [.int ((xAgrees T (xs (i + 1))).1)]) C (c_Magrees l D cI cO MB t hr.okM (xs (i + 1))) 1 gL_law_X2_agrees rfl (by decide +kernel) (by decide) rfl rfl (Nat.le_of_ble_eq_true rfl) rfl dL_law_664 rfl (fun v u hp => ?_)
  obtain ⟨rfl, rfl⟩ := hp
  show J p l e room_1 s m args below meth c cells slots Q 4 D A 667 [some (.ref b), some (.ref ao), some (.ref (MB 10)), some (.int (nI (i)))] [.int ((mAgrees t (xs (i + 1))).1), .int ((xAgrees T (xs (i + 1))).1)] (wL cI cO ao ta B (xAgrees T (xs (i + 1))).2 MB (mAgrees t (xs (i + 1))).2)
  have hk := ok_agrees hr (xs (i + 1))
  exact j_icmp_eq (tgt := 808) (pc' := 670) C dL_law_667 (by decide) rfl (fun _ => kk _ _ hk.2) (fun h => absurd hk.1 h)
set_option maxRecDepth 100000 in
set_option maxHeartbeats 4000000 in
theorem lc_cost {p : Program} {l : Launch} {e : Env} {s : State} {m : MethodId} {args : Array Value} {below : List Frame} {meth : Method} {c : Code} {cells slots : Nat} {Q : State → Prop} {D : va_G} {A : Nat → Prop} {cI cO : ClassId} {ao ta : Nat} {B : Nat → Nat → Nat} {T : Nat → TS} {MB : Nat → Nat} {t : TS} {b Ln i z tO : Nat} {xs : Nat → Int32} (C : Cx p room_1 s m args meth c cells slots 4 D A cL_law RL wsL_law ret cI cO) (hX : va_X b Ln xs s s.heap ∧ b < s.heap.size ∧ ¬ A b) (hL : Ln ≤ 3072) (hi : i + 6 ≤ Ln) (hA : ∀ q, A q → z ≤ q) (hO : OT z tO s) (hwz : wz z ao ta B) (hr : Rel T t) (kk : ∀ T1 t1, Rel T1 t1 → J p l e room_1 s m args below meth c cells slots Q 4 D A 808 [some (.ref b), some (.ref ao), some (.ref (MB 10)), some (.int (nI (i)))] [] (wL cI cO ao ta B T1 MB t1)) : J p l e room_1 s m args below meth c cells slots Q 4 D A 672 [some (.ref b), some (.ref ao), some (.ref (MB 10)), some (.int (nI (i)))] [] (wL cI cO ao ta B T MB t) := by
  refine j_aload_n (pc' := 673) C dL_law_672 rfl rfl ?_
  refine j_arg (pc' := 678) C hX hL hi 1 (by decide) 1 (by decide) dL_law_673 dL_law_674 dL_law_675 dL_law_676 dL_law_677 rfl ?_
  refine j_arg (pc' := 683) C hX hL hi 2 (by decide) 2 (by decide) dL_law_678 dL_law_679 dL_law_680 dL_law_681 dL_law_682 rfl ?_
  refine j_bool (pc' := 691) C dL_law_683 dL_law_686 dL_law_687 dL_law_690 rfl ?_
  refine jl_X (pc' := 694) (rest := []) C (c_Xcost l D cI cO ao ta B T z tO hwz hr.okX (xs (i + 1)) (bz (xs (i + 2)))) 2 gL_law_X1_cost rfl (by decide +kernel) (by decide) rfl rfl (by decide) (fun a U g mk h => OT_b z tO a U g mk h) (fun H locs U h1 h2 h3 => OT_c hA hO H locs U h1 h2 h3) rfl dL_law_691 rfl (fun v u hp => ?_)
  obtain ⟨rfl, rfl⟩ := hp
  show J p l e room_1 s m args below meth c cells slots Q 4 D A 694 [some (.ref b), some (.ref ao), some (.ref (MB 10)), some (.int (nI (i)))] [.long ((xCost T (xs (i + 1)) (bz (xs (i + 2)))).1)] (wL cI cO ao ta B (xCost T (xs (i + 1)) (bz (xs (i + 2)))).2 MB t)
  refine j_aload_n (pc' := 695) C dL_law_694 rfl rfl ?_
  refine j_arg (pc' := 700) C hX hL hi 1 (by decide) 1 (by decide) dL_law_695 dL_law_696 dL_law_697 dL_law_698 dL_law_699 rfl ?_
  refine j_arg (pc' := 705) C hX hL hi 2 (by decide) 2 (by decide) dL_law_700 dL_law_701 dL_law_702 dL_law_703 dL_law_704 rfl ?_
  refine j_bool (pc' := 713) C dL_law_705 dL_law_708 dL_law_709 dL_law_712 rfl ?_
  refine jl_M (pc' := 716) (rest := [.long ((xCost T (xs (i + 1)) (bz (xs (i + 2)))).1)]) C (c_Mcost l D cI cO MB t hr.okM (xs (i + 1)) (bz (xs (i + 2)))) 2 gL_law_X2_cost rfl (by decide +kernel) (by decide) rfl rfl (Nat.le_of_ble_eq_true rfl) rfl dL_law_713 rfl (fun v u hp => ?_)
  obtain ⟨rfl, rfl⟩ := hp
  show J p l e room_1 s m args below meth c cells slots Q 4 D A 716 [some (.ref b), some (.ref ao), some (.ref (MB 10)), some (.int (nI (i)))] [.long ((mCost t (xs (i + 1)) (bz (xs (i + 2)))).1), .long ((xCost T (xs (i + 1)) (bz (xs (i + 2)))).1)] (wL cI cO ao ta B (xCost T (xs (i + 1)) (bz (xs (i + 2)))).2 MB (mCost t (xs (i + 1)) (bz (xs (i + 2)))).2)
  have hk := ok_cost hr (xs (i + 1)) (bz (xs (i + 2)))
  refine j_lcmp (pc' := 717) C dL_law_716 rfl ?_
  exact j_if_eq (tgt := 808) (pc' := 720) C dL_law_717 (by decide) rfl (fun _ => kk _ _ hk.2) (fun h => absurd ((cmp_eq _ _).mpr (by rw [hk.1])) h)
set_option maxRecDepth 100000 in
set_option maxHeartbeats 4000000 in
theorem lc_plan {p : Program} {l : Launch} {e : Env} {s : State} {m : MethodId} {args : Array Value} {below : List Frame} {meth : Method} {c : Code} {cells slots : Nat} {Q : State → Prop} {D : va_G} {A : Nat → Prop} {cI cO : ClassId} {ao ta : Nat} {B : Nat → Nat → Nat} {T : Nat → TS} {MB : Nat → Nat} {t : TS} {b Ln i z tO : Nat} {xs : Nat → Int32} (C : Cx p room_1 s m args meth c cells slots 4 D A cL_law RL wsL_law ret cI cO) (hX : va_X b Ln xs s s.heap ∧ b < s.heap.size ∧ ¬ A b) (hL : Ln ≤ 3072) (hi : i + 6 ≤ Ln) (hA : ∀ q, A q → z ≤ q) (hO : OT z tO s) (hwz : wz z ao ta B) (hr : Rel T t) (kk : ∀ T1 t1, Rel T1 t1 → J p l e room_1 s m args below meth c cells slots Q 4 D A 808 [some (.ref b), some (.ref ao), some (.ref (MB 10)), some (.int (nI (i)))] [] (wL cI cO ao ta B T1 MB t1)) : J p l e room_1 s m args below meth c cells slots Q 4 D A 722 [some (.ref b), some (.ref ao), some (.ref (MB 10)), some (.int (nI (i)))] [] (wL cI cO ao ta B T MB t) := by
  refine j_aload_n (pc' := 723) C dL_law_722 rfl rfl ?_
  refine j_arg (pc' := 728) C hX hL hi 1 (by decide) 1 (by decide) dL_law_723 dL_law_724 dL_law_725 dL_law_726 dL_law_727 rfl ?_
  refine j_bool (pc' := 736) C dL_law_728 dL_law_731 dL_law_732 dL_law_735 rfl ?_
  refine jl_X (pc' := 739) (rest := []) C (c_Xplan l D cI cO ao ta B T z tO hwz hr.okX (bz (xs (i + 1)))) 1 gL_law_X1_plan rfl (by decide +kernel) (by decide) rfl rfl (by decide) (fun a U g mk h => OT_b z tO a U g mk h) (fun H locs U h1 h2 h3 => OT_c hA hO H locs U h1 h2 h3) rfl dL_law_736 rfl (fun v u hp => ?_)
  obtain ⟨rfl, rfl⟩ := hp
  show J p l e room_1 s m args below meth c cells slots Q 4 D A 739 [some (.ref b), some (.ref ao), some (.ref (MB 10)), some (.int (nI (i)))] [.int ((nI (xplanN (spAll T) (bz (xs (i + 1))))))] (wL cI cO ao ta B (spAll T) MB t)
  refine j_aload_n (pc' := 740) C dL_law_739 rfl rfl ?_
  refine j_arg (pc' := 745) C hX hL hi 1 (by decide) 1 (by decide) dL_law_740 dL_law_741 dL_law_742 dL_law_743 dL_law_744 rfl ?_
  refine j_bool (pc' := 753) C dL_law_745 dL_law_748 dL_law_749 dL_law_752 rfl ?_
  refine jl_M (pc' := 756) (rest := [.int ((nI (xplanN (spAll T) (bz (xs (i + 1))))))]) C (c_Mplan l D cI cO MB t hr.okM (bz (xs (i + 1)))) 1 gL_law_X2_plan rfl (by decide +kernel) (by decide) rfl rfl (Nat.le_of_ble_eq_true rfl) rfl dL_law_753 rfl (fun v u hp => ?_)
  obtain ⟨rfl, rfl⟩ := hp
  show J p l e room_1 s m args below meth c cells slots Q 4 D A 756 [some (.ref b), some (.ref ao), some (.ref (MB 10)), some (.int (nI (i)))] [.int ((nI (planN t (bz (xs (i + 1)))))), .int ((nI (xplanN (spAll T) (bz (xs (i + 1))))))] (wL cI cO ao ta B (spAll T) MB (allG t))
  have hk := ok_plan hr (bz (xs (i + 1)))
  exact j_icmp_eq (tgt := 808) (pc' := 759) C dL_law_756 (by decide) rfl (fun _ => kk _ _ hk.2.2) (fun h => absurd (by rw [hk.1]) h)
set_option maxRecDepth 100000 in
set_option maxHeartbeats 4000000 in
theorem lc_lost {p : Program} {l : Launch} {e : Env} {s : State} {m : MethodId} {args : Array Value} {below : List Frame} {meth : Method} {c : Code} {cells slots : Nat} {Q : State → Prop} {D : va_G} {A : Nat → Prop} {cI cO : ClassId} {ao ta : Nat} {B : Nat → Nat → Nat} {T : Nat → TS} {MB : Nat → Nat} {t : TS} {b Ln i z tO : Nat} {xs : Nat → Int32} (C : Cx p room_1 s m args meth c cells slots 4 D A cL_law RL wsL_law ret cI cO) (hX : va_X b Ln xs s s.heap ∧ b < s.heap.size ∧ ¬ A b) (hL : Ln ≤ 3072) (hi : i + 6 ≤ Ln) (hA : ∀ q, A q → z ≤ q) (hO : OT z tO s) (hwz : wz z ao ta B) (hr : Rel T t) (kk : ∀ T1 t1, Rel T1 t1 → J p l e room_1 s m args below meth c cells slots Q 4 D A 808 [some (.ref b), some (.ref ao), some (.ref (MB 10)), some (.int (nI (i)))] [] (wL cI cO ao ta B T1 MB t1)) : J p l e room_1 s m args below meth c cells slots Q 4 D A 761 [some (.ref b), some (.ref ao), some (.ref (MB 10)), some (.int (nI (i)))] [] (wL cI cO ao ta B T MB t) := by
  refine j_aload_n (pc' := 762) C dL_law_761 rfl rfl ?_
  refine jl_X (pc' := 765) (rest := []) C (c_Xlost l D cI cO ao ta B T z tO hwz hr.okX) 0 gL_law_X1_lost rfl (by decide +kernel) (by decide) rfl rfl (by decide) (fun a U g mk h => OT_b z tO a U g mk h) (fun H locs U h1 h2 h3 => OT_c hA hO H locs U h1 h2 h3) rfl dL_law_762 rfl (fun v u hp => ?_)
  obtain ⟨rfl, rfl⟩ := hp
  show J p l e room_1 s m args below meth c cells slots Q 4 D A 765 [some (.ref b), some (.ref ao), some (.ref (MB 10)), some (.int (nI (i)))] [.long ((xCostOf (spAll T) (xplanN (spAll T) 0) 1 - xCostOf (spAll T) (xplanN (spAll T) 1) 1))] (wL cI cO ao ta B (spAll T) MB t)
  refine j_aload_n (pc' := 766) C dL_law_765 rfl rfl ?_
  refine jl_M (pc' := 769) (rest := [.long ((xCostOf (spAll T) (xplanN (spAll T) 0) 1 - xCostOf (spAll T) (xplanN (spAll T) 1) 1))]) C (c_Mlost l D cI cO MB t hr.okM) 0 gL_law_X2_lost rfl (by decide +kernel) (by decide) rfl rfl (Nat.le_of_ble_eq_true rfl) rfl dL_law_766 rfl (fun v u hp => ?_)
  obtain ⟨rfl, rfl⟩ := hp
  show J p l e room_1 s m args below meth c cells slots Q 4 D A 769 [some (.ref b), some (.ref ao), some (.ref (MB 10)), some (.int (nI (i)))] [.long ((mCostOf (allG (allG t)) (planN t 0) 1 - mCostOf (allG (allG t)) (planN (allG t) 1) 1)), .long ((xCostOf (spAll T) (xplanN (spAll T) 0) 1 - xCostOf (spAll T) (xplanN (spAll T) 1) 1))] (wL cI cO ao ta B (spAll T) MB (allG (allG t)))
  have hk := ok_lost hr
  refine j_lcmp (pc' := 770) C dL_law_769 rfl ?_
  exact j_if_eq (tgt := 808) (pc' := 773) C dL_law_770 (by decide) rfl (fun _ => kk _ _ hk.2) (fun h => absurd ((cmp_eq _ _).mpr (by rw [hk.1])) h)
set_option maxRecDepth 100000 in
set_option maxHeartbeats 4000000 in
theorem lc_table {p : Program} {l : Launch} {e : Env} {s : State} {m : MethodId} {args : Array Value} {below : List Frame} {meth : Method} {c : Code} {cells slots : Nat} {Q : State → Prop} {D : va_G} {A : Nat → Prop} {cI cO : ClassId} {ao ta : Nat} {B : Nat → Nat → Nat} {T : Nat → TS} {MB : Nat → Nat} {t : TS} {b Ln i : Nat} {xs : Nat → Int32} (C : Cx p room_1 s m args meth c cells slots 4 D A cL_law RL wsL_law ret cI cO) (hX : va_X b Ln xs s s.heap ∧ b < s.heap.size ∧ ¬ A b) (hL : Ln ≤ 3072) (hi : i + 6 ≤ Ln) (hr : Rel T t) (kk : ∀ T1 t1, Rel T1 t1 → J p l e room_1 s m args below meth c cells slots Q 4 D A 808 [some (.ref b), some (.ref ao), some (.ref (MB 10)), some (.int (nI (i)))] [] (wL cI cO ao ta B T1 MB t1)) : J p l e room_1 s m args below meth c cells slots Q 4 D A 775 [some (.ref b), some (.ref ao), some (.ref (MB 10)), some (.int (nI (i)))] [] (wL cI cO ao ta B T MB t) := by
  refine j_aload_n (pc' := 776) C dL_law_775 rfl rfl ?_
  refine j_arg (pc' := 781) C hX hL hi 1 (by decide) 1 (by decide) dL_law_776 dL_law_777 dL_law_778 dL_law_779 dL_law_780 rfl ?_
  refine j_arg (pc' := 786) C hX hL hi 2 (by decide) 2 (by decide) dL_law_781 dL_law_782 dL_law_783 dL_law_784 dL_law_785 rfl ?_
  refine jl_X (pc' := 789) (rest := []) C (c_Xtable l D cI cO ao ta B T hr.okX (xs (i + 1)) (xs (i + 2))) 2 gL_law_X1_table rfl (by decide +kernel) (by decide) rfl rfl (by decide) (fun _ _ _ _ _ => trivial) (fun _ _ _ _ _ _ => trivial) rfl dL_law_786 rfl (fun v u hp => ?_)
  obtain ⟨rfl, rfl⟩ := hp
  show J p l e room_1 s m args below meth c cells slots Q 4 D A 789 [some (.ref b), some (.ref ao), some (.ref (MB 10)), some (.int (nI (i)))] [.int ((xTable T (xs (i + 1)) (xs (i + 2))).1)] (wL cI cO ao ta B (xTable T (xs (i + 1)) (xs (i + 2))).2 MB t)
  refine j_aload_n (pc' := 790) C dL_law_789 rfl rfl ?_
  refine j_arg (pc' := 795) C hX hL hi 1 (by decide) 1 (by decide) dL_law_790 dL_law_791 dL_law_792 dL_law_793 dL_law_794 rfl ?_
  refine j_arg (pc' := 800) C hX hL hi 2 (by decide) 2 (by decide) dL_law_795 dL_law_796 dL_law_797 dL_law_798 dL_law_799 rfl ?_
  refine jl_M (pc' := 803) (rest := [.int ((xTable T (xs (i + 1)) (xs (i + 2))).1)]) C (c_Mtable l D cI cO MB t hr.okM (xs (i + 1)) (xs (i + 2))) 2 gL_law_X2_table rfl (by decide +kernel) (by decide) rfl rfl (Nat.le_of_ble_eq_true rfl) rfl dL_law_800 rfl (fun v u hp => ?_)
  obtain ⟨rfl, rfl⟩ := hp
  show J p l e room_1 s m args below meth c cells slots Q 4 D A 803 [some (.ref b), some (.ref ao), some (.ref (MB 10)), some (.int (nI (i)))] [.int ((mTable t (xs (i + 1)) (xs (i + 2))).1), .int ((xTable T (xs (i + 1)) (xs (i + 2))).1)] (wL cI cO ao ta B (xTable T (xs (i + 1)) (xs (i + 2))).2 MB (mTable t (xs (i + 1)) (xs (i + 2))).2)
  have hk := ok_table hr (xs (i + 1)) (xs (i + 2))
  exact j_icmp_eq (tgt := 808) (pc' := 806) C dL_law_803 (by decide) rfl (fun _ => kk _ _ hk.2) (fun h => absurd hk.1 h)
