/-! the law: its cases -/
section
variable {p : Program} {l : Launch} {e : Env} {s : State} {m : MethodId} {args : Array Value} {below : List Frame} {meth : Method} {c : Code} {D : va_G} {t6 : Nat → ClassId} {b : Nat} {Q : State → Prop} {M : Mem} {ret9 : Option FieldType} {a0 N : Nat} {xs : Nat → Int32} {i : Nat}
theorem cs_0 (G : cx p s m meth c code 4 "BridgeClientsLaw" ret9 D t6) (S : sc_ s a0 N xs b) (hi : i + 8 ≤ N) (RL : Rl M) (kk : ∀ M2, Rl M2 → Sl p l e s m args below meth c D t6 b Q M2 999 (LL a0 b i) []) : Sl p l e s m args below meth c D t6 b Q M 140 (LL a0 b i) [] := by
  obtain ⟨nc, nm, hh, R⟩ := RL
  have o9 := st_tick R (xs (i + 1))
  refine sl_aload_n G (i := 1) (x := ad b 0 0) rfl d_law_law_140 ?_
  refine sl_arg G S (q := 1) (by decide) (by omega) d_law_law_141 d_law_law_142 d_law_law_143 d_law_law_144 d_law_law_145 ?_
  refine sl_cvi G (kd := 0) (i := 0) (ci := 5) (T := F_B) (N := 5) (As := [.int (xs (i + 1))]) (rest := []) ⟨by decide, by decide⟩ rfl rfl ki_B_tick kx_B_tick (c_B_tick (by decide) ) kc_B_tick km_law_13 kn_B (k9 := 1) (by decide) rfl (by decide) (by decide) rfl d_law_law_146 ?_
  refine sl_aload_n G (i := 2) (x := ad b 20 0) rfl d_law_law_149 ?_
  refine sl_arg G S (q := 1) (by decide) (by omega) d_law_law_150 d_law_law_151 d_law_law_152 d_law_law_153 d_law_law_154 ?_
  refine sl_cvi G (kd := 20) (i := 0) (ci := 6) (T := F_R) (N := 30) (As := [.int (xs (i + 1))]) (rest := [.int (f_B_tick M (xs (i + 1))).1]) ⟨by decide, by decide⟩ rfl rfl ki_R_tick kx_R_tick (c_R_tick (by decide) o9.1) kc_R_tick km_law_17 kn_R (k9 := 1) (by decide) rfl (by decide) (Nat.le_of_ble_eq_true rfl) rfl d_law_law_155 ?_
  exact sl_icmp_eq G 999 d_law_law_158 (by decide) (fun _ => kk _ o9.2.2) (fun h => absurd o9.2.1.symm h)
theorem cs_1 (G : cx p s m meth c code 4 "BridgeClientsLaw" ret9 D t6) (S : sc_ s a0 N xs b) (hi : i + 8 ≤ N) (RL : Rl M) (kk : ∀ M2, Rl M2 → Sl p l e s m args below meth c D t6 b Q M2 999 (LL a0 b i) []) : Sl p l e s m args below meth c D t6 b Q M 163 (LL a0 b i) [] := by
  obtain ⟨nc, nm, hh, R⟩ := RL
  have o9 := st_follow R (xs (i + 1)) (xs (i + 2)) (xs (i + 3))
  refine sl_aload_n G (i := 1) (x := ad b 0 0) rfl d_law_law_163 ?_
  refine sl_arg G S (q := 1) (by decide) (by omega) d_law_law_164 d_law_law_165 d_law_law_166 d_law_law_167 d_law_law_168 ?_
  refine sl_arg G S (q := 2) (by decide) (by omega) d_law_law_169 d_law_law_170 d_law_law_171 d_law_law_172 d_law_law_173 ?_
  refine sl_arg G S (q := 3) (by decide) (by omega) d_law_law_174 d_law_law_175 d_law_law_176 d_law_law_177 d_law_law_178 ?_
  refine sl_cvi G (kd := 0) (i := 0) (ci := 5) (T := F_B) (N := 5) (As := [.int (xs (i + 1)), .int (xs (i + 2)), .int (xs (i + 3))]) (rest := []) ⟨by decide, by decide⟩ rfl rfl ki_B_follow kx_B_follow (c_B_follow (by decide) ) kc_B_follow km_law_18 kn_B (k9 := 3) (by decide) rfl (by decide) (by decide) rfl d_law_law_179 ?_
  refine sl_aload_n G (i := 2) (x := ad b 20 0) rfl d_law_law_182 ?_
  refine sl_arg G S (q := 1) (by decide) (by omega) d_law_law_183 d_law_law_184 d_law_law_185 d_law_law_186 d_law_law_187 ?_
  refine sl_arg G S (q := 2) (by decide) (by omega) d_law_law_188 d_law_law_189 d_law_law_190 d_law_law_191 d_law_law_192 ?_
  refine sl_arg G S (q := 3) (by decide) (by omega) d_law_law_193 d_law_law_194 d_law_law_195 d_law_law_196 d_law_law_197 ?_
  refine sl_cvi G (kd := 20) (i := 0) (ci := 6) (T := F_R) (N := 30) (As := [.int (xs (i + 1)), .int (xs (i + 2)), .int (xs (i + 3))]) (rest := [.int (f_B_follow M (xs (i + 1)) (xs (i + 2)) (xs (i + 3))).1]) ⟨by decide, by decide⟩ rfl rfl ki_R_follow kx_R_follow (c_R_follow (by decide) o9.1) kc_R_follow km_law_22 kn_R (k9 := 3) (by decide) rfl (by decide) (Nat.le_of_ble_eq_true rfl) rfl d_law_law_198 ?_
  exact sl_icmp_eq G 999 d_law_law_201 (by decide) (fun _ => kk _ o9.2.2) (fun h => absurd o9.2.1.symm h)
theorem cs_2 (G : cx p s m meth c code 4 "BridgeClientsLaw" ret9 D t6) (S : sc_ s a0 N xs b) (hi : i + 8 ≤ N) (RL : Rl M) (kk : ∀ M2, Rl M2 → Sl p l e s m args below meth c D t6 b Q M2 999 (LL a0 b i) []) : Sl p l e s m args below meth c D t6 b Q M 206 (LL a0 b i) [] := by
  obtain ⟨nc, nm, hh, R⟩ := RL
  have o9 := st_renew R (xs (i + 1))
  refine sl_aload_n G (i := 1) (x := ad b 0 0) rfl d_law_law_206 ?_
  refine sl_arg G S (q := 1) (by decide) (by omega) d_law_law_207 d_law_law_208 d_law_law_209 d_law_law_210 d_law_law_211 ?_
  refine sl_cvi G (kd := 0) (i := 0) (ci := 5) (T := F_B) (N := 5) (As := [.int (xs (i + 1))]) (rest := []) ⟨by decide, by decide⟩ rfl rfl ki_B_renew kx_B_renew (c_B_renew (by decide) ) kc_B_renew km_law_23 kn_B (k9 := 1) (by decide) rfl (by decide) (by decide) rfl d_law_law_212 ?_
  refine sl_aload_n G (i := 2) (x := ad b 20 0) rfl d_law_law_215 ?_
  refine sl_arg G S (q := 1) (by decide) (by omega) d_law_law_216 d_law_law_217 d_law_law_218 d_law_law_219 d_law_law_220 ?_
  refine sl_cvi G (kd := 20) (i := 0) (ci := 6) (T := F_R) (N := 30) (As := [.int (xs (i + 1))]) (rest := [.int (f_B_renew M (xs (i + 1))).1]) ⟨by decide, by decide⟩ rfl rfl ki_R_renew kx_R_renew (c_R_renew (by decide) ) kc_R_renew km_law_26 kn_R (k9 := 1) (by decide) rfl (by decide) (Nat.le_of_ble_eq_true rfl) rfl d_law_law_221 ?_
  exact sl_icmp_eq G 999 d_law_law_224 (by decide) (fun _ => kk _ o9.2.2) (fun h => absurd o9.2.1.symm h)
theorem cs_3 (G : cx p s m meth c code 4 "BridgeClientsLaw" ret9 D t6) (S : sc_ s a0 N xs b) (hi : i + 8 ≤ N) (RL : Rl M) (kk : ∀ M2, Rl M2 → Sl p l e s m args below meth c D t6 b Q M2 999 (LL a0 b i) []) : Sl p l e s m args below meth c D t6 b Q M 229 (LL a0 b i) [] := by
  obtain ⟨nc, nm, hh, R⟩ := RL
  have o9 := sm_client R (xs (i + 1)) (xs (i + 2))
  refine sl_aload_n G (i := 1) (x := ad b 0 0) rfl d_law_law_229 ?_
  refine sl_arg G S (q := 1) (by decide) (by omega) d_law_law_230 d_law_law_231 d_law_law_232 d_law_law_233 d_law_law_234 ?_
  refine sl_arg G S (q := 2) (by decide) (by omega) d_law_law_235 d_law_law_236 d_law_law_237 d_law_law_238 d_law_law_239 ?_
  refine sl_cvi G (kd := 0) (i := 0) (ci := 5) (T := F_B) (N := 5) (As := [.int (xs (i + 1)), .int (xs (i + 2))]) (rest := []) ⟨by decide, by decide⟩ rfl rfl ki_B_client kx_B_client (c_B_client (by decide) ) kc_B_client km_law_27 kn_B (k9 := 2) (by decide) rfl (by decide) (by decide) rfl d_law_law_240 ?_
  refine sl_aload_n G (i := 2) (x := ad b 20 0) rfl d_law_law_243 ?_
  refine sl_arg G S (q := 1) (by decide) (by omega) d_law_law_244 d_law_law_245 d_law_law_246 d_law_law_247 d_law_law_248 ?_
  refine sl_arg G S (q := 2) (by decide) (by omega) d_law_law_249 d_law_law_250 d_law_law_251 d_law_law_252 d_law_law_253 ?_
  refine sl_cvi G (kd := 20) (i := 0) (ci := 6) (T := F_R) (N := 30) (As := [.int (xs (i + 1)), .int (xs (i + 2))]) (rest := [.int (f_B_client M (xs (i + 1)) (xs (i + 2)))]) ⟨by decide, by decide⟩ rfl rfl ki_R_client kx_R_client (c_R_client (by decide) ) kc_R_client km_law_31 kn_R (k9 := 2) (by decide) rfl (by decide) (Nat.le_of_ble_eq_true rfl) rfl d_law_law_254 ?_
  exact sl_icmp_eq G 999 d_law_law_257 (by decide) (fun _ => kk _ ⟨nc, nm, hh, R⟩) (fun h => absurd o9 h)
theorem cs_4 (G : cx p s m meth c code 4 "BridgeClientsLaw" ret9 D t6) (S : sc_ s a0 N xs b) (hi : i + 8 ≤ N) (RL : Rl M) (kk : ∀ M2, Rl M2 → Sl p l e s m args below meth c D t6 b Q M2 999 (LL a0 b i) []) : Sl p l e s m args below meth c D t6 b Q M 262 (LL a0 b i) [] := by
  obtain ⟨nc, nm, hh, R⟩ := RL
  have o9 := sm_follows R (xs (i + 1)) (xs (i + 2))
  refine sl_aload_n G (i := 1) (x := ad b 0 0) rfl d_law_law_262 ?_
  refine sl_arg G S (q := 1) (by decide) (by omega) d_law_law_263 d_law_law_264 d_law_law_265 d_law_law_266 d_law_law_267 ?_
  refine sl_arg G S (q := 2) (by decide) (by omega) d_law_law_268 d_law_law_269 d_law_law_270 d_law_law_271 d_law_law_272 ?_
  refine sl_cvi G (kd := 0) (i := 0) (ci := 5) (T := F_B) (N := 5) (As := [.int (xs (i + 1)), .int (xs (i + 2))]) (rest := []) ⟨by decide, by decide⟩ rfl rfl ki_B_follows kx_B_follows (c_B_follows (by decide) ) kc_B_follows km_law_32 kn_B (k9 := 2) (by decide) rfl (by decide) (by decide) rfl d_law_law_273 ?_
  refine sl_aload_n G (i := 2) (x := ad b 20 0) rfl d_law_law_276 ?_
  refine sl_arg G S (q := 1) (by decide) (by omega) d_law_law_277 d_law_law_278 d_law_law_279 d_law_law_280 d_law_law_281 ?_
  refine sl_arg G S (q := 2) (by decide) (by omega) d_law_law_282 d_law_law_283 d_law_law_284 d_law_law_285 d_law_law_286 ?_
  refine sl_cvi G (kd := 20) (i := 0) (ci := 6) (T := F_R) (N := 30) (As := [.int (xs (i + 1)), .int (xs (i + 2))]) (rest := [.int (f_B_follows M (xs (i + 1)) (xs (i + 2)))]) ⟨by decide, by decide⟩ rfl rfl ki_R_follows kx_R_follows (c_R_follows (by decide) ) kc_R_follows km_law_35 kn_R (k9 := 2) (by decide) rfl (by decide) (Nat.le_of_ble_eq_true rfl) rfl d_law_law_287 ?_
  exact sl_icmp_eq G 999 d_law_law_290 (by decide) (fun _ => kk _ ⟨nc, nm, hh, R⟩) (fun h => absurd o9 h)
theorem cs_5_1 (G : cx p s m meth c code 4 "BridgeClientsLaw" ret9 D t6) (S : sc_ s a0 N xs b) (hi : i + 8 ≤ N) (hz : ¬ xs (i + 2) = 0) (RL : Rl M) (kk : ∀ M2, Rl M2 → Sl p l e s m args below meth c D t6 b Q M2 999 (LL a0 b i) []) : Sl p l e s m args below meth c D t6 b Q M 295 (LL a0 b i) [] := by
  obtain ⟨nc, nm, hh, R⟩ := RL
  have o9 := st_init R (xs (i + 1)) (1) (xs (i + 3)) (Or.inr rfl)
  refine sl_aload_n G (i := 1) (x := ad b 0 0) rfl d_law_law_295 ?_
  refine sl_arg G S (q := 1) (by decide) (by omega) d_law_law_296 d_law_law_297 d_law_law_298 d_law_law_299 d_law_law_300 ?_
  refine sl_arg G S (q := 2) (by decide) (by omega) d_law_law_301 d_law_law_302 d_law_law_303 d_law_law_304 d_law_law_305 ?_
  refine sl_if_eq G 313 d_law_law_306 (by decide) (fun h => absurd h hz) (fun _ => ?_)
  refine sl_iconst G (v := 1) (by decide) d_law_law_309 ?_
  refine sl_goto G 314 d_law_law_310 (by decide) ?_
  refine sl_arg G S (q := 3) (by decide) (by omega) d_law_law_314 d_law_law_315 d_law_law_316 d_law_law_317 d_law_law_318 ?_
  refine sl_cvi G (kd := 0) (i := 0) (ci := 5) (T := F_B) (N := 5) (As := [.int (xs (i + 1)), .int (1), .int (xs (i + 3))]) (rest := []) ⟨by decide, by decide⟩ rfl rfl ki_B_init kx_B_init (c_B_init (by decide) (rl_ci R) (Or.inr rfl)) kc_B_init km_law_36 kn_B (k9 := 3) (by decide) rfl (by decide) (by decide) rfl d_law_law_319 ?_
  refine sl_aload_n G (i := 2) (x := ad b 20 0) rfl d_law_law_322 ?_
  refine sl_arg G S (q := 1) (by decide) (by omega) d_law_law_323 d_law_law_324 d_law_law_325 d_law_law_326 d_law_law_327 ?_
  refine sl_arg G S (q := 2) (by decide) (by omega) d_law_law_328 d_law_law_329 d_law_law_330 d_law_law_331 d_law_law_332 ?_
  refine sl_if_eq G 340 d_law_law_333 (by decide) (fun h => absurd h hz) (fun _ => ?_)
  refine sl_iconst G (v := 1) (by decide) d_law_law_336 ?_
  refine sl_goto G 341 d_law_law_337 (by decide) ?_
  refine sl_arg G S (q := 3) (by decide) (by omega) d_law_law_341 d_law_law_342 d_law_law_343 d_law_law_344 d_law_law_345 ?_
  refine sl_cvi G (kd := 20) (i := 0) (ci := 6) (T := F_R) (N := 30) (As := [.int (xs (i + 1)), .int (1), .int (xs (i + 3))]) (rest := [.int (f_B_init M (xs (i + 1)) (1) (xs (i + 3))).1]) ⟨by decide, by decide⟩ rfl rfl ki_R_init kx_R_init (c_R_init (by decide) o9.1 (Or.inr rfl)) kc_R_init km_law_40 kn_R (k9 := 3) (by decide) rfl (by decide) (Nat.le_of_ble_eq_true rfl) rfl d_law_law_346 ?_
  exact sl_icmp_eq G 999 d_law_law_349 (by decide) (fun _ => kk _ o9.2.2) (fun h => absurd o9.2.1.symm h)
theorem cs_5_0 (G : cx p s m meth c code 4 "BridgeClientsLaw" ret9 D t6) (S : sc_ s a0 N xs b) (hi : i + 8 ≤ N) (hz : xs (i + 2) = 0) (RL : Rl M) (kk : ∀ M2, Rl M2 → Sl p l e s m args below meth c D t6 b Q M2 999 (LL a0 b i) []) : Sl p l e s m args below meth c D t6 b Q M 295 (LL a0 b i) [] := by
  obtain ⟨nc, nm, hh, R⟩ := RL
  have o9 := st_init R (xs (i + 1)) (0) (xs (i + 3)) (Or.inl rfl)
  refine sl_aload_n G (i := 1) (x := ad b 0 0) rfl d_law_law_295 ?_
  refine sl_arg G S (q := 1) (by decide) (by omega) d_law_law_296 d_law_law_297 d_law_law_298 d_law_law_299 d_law_law_300 ?_
  refine sl_arg G S (q := 2) (by decide) (by omega) d_law_law_301 d_law_law_302 d_law_law_303 d_law_law_304 d_law_law_305 ?_
  refine sl_if_eq G 313 d_law_law_306 (by decide) (fun _ => ?_) (fun h => absurd hz h)
  refine sl_iconst G (v := 0) (by decide) d_law_law_313 ?_
  refine sl_arg G S (q := 3) (by decide) (by omega) d_law_law_314 d_law_law_315 d_law_law_316 d_law_law_317 d_law_law_318 ?_
  refine sl_cvi G (kd := 0) (i := 0) (ci := 5) (T := F_B) (N := 5) (As := [.int (xs (i + 1)), .int (0), .int (xs (i + 3))]) (rest := []) ⟨by decide, by decide⟩ rfl rfl ki_B_init kx_B_init (c_B_init (by decide) (rl_ci R) (Or.inl rfl)) kc_B_init km_law_36 kn_B (k9 := 3) (by decide) rfl (by decide) (by decide) rfl d_law_law_319 ?_
  refine sl_aload_n G (i := 2) (x := ad b 20 0) rfl d_law_law_322 ?_
  refine sl_arg G S (q := 1) (by decide) (by omega) d_law_law_323 d_law_law_324 d_law_law_325 d_law_law_326 d_law_law_327 ?_
  refine sl_arg G S (q := 2) (by decide) (by omega) d_law_law_328 d_law_law_329 d_law_law_330 d_law_law_331 d_law_law_332 ?_
  refine sl_if_eq G 340 d_law_law_333 (by decide) (fun _ => ?_) (fun h => absurd hz h)
  refine sl_iconst G (v := 0) (by decide) d_law_law_340 ?_
  refine sl_arg G S (q := 3) (by decide) (by omega) d_law_law_341 d_law_law_342 d_law_law_343 d_law_law_344 d_law_law_345 ?_
  refine sl_cvi G (kd := 20) (i := 0) (ci := 6) (T := F_R) (N := 30) (As := [.int (xs (i + 1)), .int (0), .int (xs (i + 3))]) (rest := [.int (f_B_init M (xs (i + 1)) (0) (xs (i + 3))).1]) ⟨by decide, by decide⟩ rfl rfl ki_R_init kx_R_init (c_R_init (by decide) o9.1 (Or.inl rfl)) kc_R_init km_law_40 kn_R (k9 := 3) (by decide) rfl (by decide) (Nat.le_of_ble_eq_true rfl) rfl d_law_law_346 ?_
  exact sl_icmp_eq G 999 d_law_law_349 (by decide) (fun _ => kk _ o9.2.2) (fun h => absurd o9.2.1.symm h)
theorem cs_5 (G : cx p s m meth c code 4 "BridgeClientsLaw" ret9 D t6) (S : sc_ s a0 N xs b) (hi : i + 8 ≤ N) (RL : Rl M) (kk : ∀ M2, Rl M2 → Sl p l e s m args below meth c D t6 b Q M2 999 (LL a0 b i) []) : Sl p l e s m args below meth c D t6 b Q M 295 (LL a0 b i) [] := by
  by_cases hz : xs (i + 2) = 0
  · exact cs_5_0 G S hi hz RL kk
  · exact cs_5_1 G S hi hz RL kk
theorem cs_6 (G : cx p s m meth c code 4 "BridgeClientsLaw" ret9 D t6) (S : sc_ s a0 N xs b) (hi : i + 8 ≤ N) (RL : Rl M) (kk : ∀ M2, Rl M2 → Sl p l e s m args below meth c D t6 b Q M2 999 (LL a0 b i) []) : Sl p l e s m args below meth c D t6 b Q M 354 (LL a0 b i) [] := by
  obtain ⟨nc, nm, hh, R⟩ := RL
  have o9 := st_meet R (xs (i + 1)) (xs (i + 2)) (xs (i + 3))
  refine sl_aload_n G (i := 1) (x := ad b 0 0) rfl d_law_law_354 ?_
  refine sl_arg G S (q := 1) (by decide) (by omega) d_law_law_355 d_law_law_356 d_law_law_357 d_law_law_358 d_law_law_359 ?_
  refine sl_arg G S (q := 2) (by decide) (by omega) d_law_law_360 d_law_law_361 d_law_law_362 d_law_law_363 d_law_law_364 ?_
  refine sl_arg G S (q := 3) (by decide) (by omega) d_law_law_365 d_law_law_366 d_law_law_367 d_law_law_368 d_law_law_369 ?_
  refine sl_cvi G (kd := 0) (i := 0) (ci := 5) (T := F_B) (N := 5) (As := [.int (xs (i + 1)), .int (xs (i + 2)), .int (xs (i + 3))]) (rest := []) ⟨by decide, by decide⟩ rfl rfl ki_B_meet kx_B_meet (c_B_meet (by decide) (rl_ci R)) kc_B_meet km_law_41 kn_B (k9 := 3) (by decide) rfl (by decide) (by decide) rfl d_law_law_370 ?_
  refine sl_aload_n G (i := 2) (x := ad b 20 0) rfl d_law_law_373 ?_
  refine sl_arg G S (q := 1) (by decide) (by omega) d_law_law_374 d_law_law_375 d_law_law_376 d_law_law_377 d_law_law_378 ?_
  refine sl_arg G S (q := 2) (by decide) (by omega) d_law_law_379 d_law_law_380 d_law_law_381 d_law_law_382 d_law_law_383 ?_
  refine sl_arg G S (q := 3) (by decide) (by omega) d_law_law_384 d_law_law_385 d_law_law_386 d_law_law_387 d_law_law_388 ?_
  refine sl_cvi G (kd := 20) (i := 0) (ci := 6) (T := F_R) (N := 30) (As := [.int (xs (i + 1)), .int (xs (i + 2)), .int (xs (i + 3))]) (rest := [.int (f_B_meet M (xs (i + 1)) (xs (i + 2)) (xs (i + 3))).1]) ⟨by decide, by decide⟩ rfl rfl ki_R_meet kx_R_meet (c_R_meet (by decide) o9.1) kc_R_meet km_law_44 kn_R (k9 := 3) (by decide) rfl (by decide) (Nat.le_of_ble_eq_true rfl) rfl d_law_law_389 ?_
  exact sl_icmp_eq G 999 d_law_law_392 (by decide) (fun _ => kk _ o9.2.2) (fun h => absurd o9.2.1.symm h)
theorem cs_7 (G : cx p s m meth c code 4 "BridgeClientsLaw" ret9 D t6) (S : sc_ s a0 N xs b) (hi : i + 8 ≤ N) (RL : Rl M) (kk : ∀ M2, Rl M2 → Sl p l e s m args below meth c D t6 b Q M2 999 (LL a0 b i) []) : Sl p l e s m args below meth c D t6 b Q M 397 (LL a0 b i) [] := by
  obtain ⟨nc, nm, hh, R⟩ := RL
  have o9 := st_agree R (xs (i + 1)) (xs (i + 2))
  refine sl_aload_n G (i := 1) (x := ad b 0 0) rfl d_law_law_397 ?_
  refine sl_arg G S (q := 1) (by decide) (by omega) d_law_law_398 d_law_law_399 d_law_law_400 d_law_law_401 d_law_law_402 ?_
  refine sl_arg G S (q := 2) (by decide) (by omega) d_law_law_403 d_law_law_404 d_law_law_405 d_law_law_406 d_law_law_407 ?_
  refine sl_cvi G (kd := 0) (i := 0) (ci := 5) (T := F_B) (N := 5) (As := [.int (xs (i + 1)), .int (xs (i + 2))]) (rest := []) ⟨by decide, by decide⟩ rfl rfl ki_B_agree kx_B_agree (c_B_agree (by decide) (rl_ci R)) kc_B_agree km_law_45 kn_B (k9 := 2) (by decide) rfl (by decide) (by decide) rfl d_law_law_408 ?_
  refine sl_aload_n G (i := 2) (x := ad b 20 0) rfl d_law_law_411 ?_
  refine sl_arg G S (q := 1) (by decide) (by omega) d_law_law_412 d_law_law_413 d_law_law_414 d_law_law_415 d_law_law_416 ?_
  refine sl_arg G S (q := 2) (by decide) (by omega) d_law_law_417 d_law_law_418 d_law_law_419 d_law_law_420 d_law_law_421 ?_
  refine sl_cvi G (kd := 20) (i := 0) (ci := 6) (T := F_R) (N := 30) (As := [.int (xs (i + 1)), .int (xs (i + 2))]) (rest := [.int (f_B_agree M (xs (i + 1)) (xs (i + 2))).1]) ⟨by decide, by decide⟩ rfl rfl ki_R_agree kx_R_agree (c_R_agree (by decide) o9.1) kc_R_agree km_law_48 kn_R (k9 := 2) (by decide) rfl (by decide) (Nat.le_of_ble_eq_true rfl) rfl d_law_law_422 ?_
  exact sl_icmp_eq G 999 d_law_law_425 (by decide) (fun _ => kk _ o9.2.2) (fun h => absurd o9.2.1.symm h)
theorem cs_8 (G : cx p s m meth c code 4 "BridgeClientsLaw" ret9 D t6) (S : sc_ s a0 N xs b) (hi : i + 8 ≤ N) (RL : Rl M) (kk : ∀ M2, Rl M2 → Sl p l e s m args below meth c D t6 b Q M2 999 (LL a0 b i) []) : Sl p l e s m args below meth c D t6 b Q M 430 (LL a0 b i) [] := by
  obtain ⟨nc, nm, hh, R⟩ := RL
  have o9 := st_confirm R (xs (i + 1)) (xs (i + 2))
  refine sl_aload_n G (i := 1) (x := ad b 0 0) rfl d_law_law_430 ?_
  refine sl_arg G S (q := 1) (by decide) (by omega) d_law_law_431 d_law_law_432 d_law_law_433 d_law_law_434 d_law_law_435 ?_
  refine sl_arg G S (q := 2) (by decide) (by omega) d_law_law_436 d_law_law_437 d_law_law_438 d_law_law_439 d_law_law_440 ?_
  refine sl_cvi G (kd := 0) (i := 0) (ci := 5) (T := F_B) (N := 5) (As := [.int (xs (i + 1)), .int (xs (i + 2))]) (rest := []) ⟨by decide, by decide⟩ rfl rfl ki_B_confirm kx_B_confirm (c_B_confirm (by decide) (rl_ci R)) kc_B_confirm km_law_49 kn_B (k9 := 2) (by decide) rfl (by decide) (by decide) rfl d_law_law_441 ?_
  refine sl_aload_n G (i := 2) (x := ad b 20 0) rfl d_law_law_444 ?_
  refine sl_arg G S (q := 1) (by decide) (by omega) d_law_law_445 d_law_law_446 d_law_law_447 d_law_law_448 d_law_law_449 ?_
  refine sl_arg G S (q := 2) (by decide) (by omega) d_law_law_450 d_law_law_451 d_law_law_452 d_law_law_453 d_law_law_454 ?_
  refine sl_cvi G (kd := 20) (i := 0) (ci := 6) (T := F_R) (N := 30) (As := [.int (xs (i + 1)), .int (xs (i + 2))]) (rest := [.int (f_B_confirm M (xs (i + 1)) (xs (i + 2))).1]) ⟨by decide, by decide⟩ rfl rfl ki_R_confirm kx_R_confirm (c_R_confirm (by decide) o9.1) kc_R_confirm km_law_52 kn_R (k9 := 2) (by decide) rfl (by decide) (Nat.le_of_ble_eq_true rfl) rfl d_law_law_455 ?_
  exact sl_icmp_eq G 999 d_law_law_458 (by decide) (fun _ => kk _ o9.2.2) (fun h => absurd o9.2.1.symm h)
theorem cs_9 (G : cx p s m meth c code 4 "BridgeClientsLaw" ret9 D t6) (S : sc_ s a0 N xs b) (hi : i + 8 ≤ N) (RL : Rl M) (kk : ∀ M2, Rl M2 → Sl p l e s m args below meth c D t6 b Q M2 999 (LL a0 b i) []) : Sl p l e s m args below meth c D t6 b Q M 463 (LL a0 b i) [] := by
  obtain ⟨nc, nm, hh, R⟩ := RL
  have o9 := st_close R (xs (i + 1)) (xs (i + 2))
  refine sl_aload_n G (i := 1) (x := ad b 0 0) rfl d_law_law_463 ?_
  refine sl_arg G S (q := 1) (by decide) (by omega) d_law_law_464 d_law_law_465 d_law_law_466 d_law_law_467 d_law_law_468 ?_
  refine sl_arg G S (q := 2) (by decide) (by omega) d_law_law_469 d_law_law_470 d_law_law_471 d_law_law_472 d_law_law_473 ?_
  refine sl_cvi G (kd := 0) (i := 0) (ci := 5) (T := F_B) (N := 5) (As := [.int (xs (i + 1)), .int (xs (i + 2))]) (rest := []) ⟨by decide, by decide⟩ rfl rfl ki_B_close kx_B_close (c_B_close (by decide) (rl_ci R)) kc_B_close km_law_53 kn_B (k9 := 2) (by decide) rfl (by decide) (by decide) rfl d_law_law_474 ?_
  refine sl_aload_n G (i := 2) (x := ad b 20 0) rfl d_law_law_477 ?_
  refine sl_arg G S (q := 1) (by decide) (by omega) d_law_law_478 d_law_law_479 d_law_law_480 d_law_law_481 d_law_law_482 ?_
  refine sl_arg G S (q := 2) (by decide) (by omega) d_law_law_483 d_law_law_484 d_law_law_485 d_law_law_486 d_law_law_487 ?_
  refine sl_cvi G (kd := 20) (i := 0) (ci := 6) (T := F_R) (N := 30) (As := [.int (xs (i + 1)), .int (xs (i + 2))]) (rest := [.int (f_B_close M (xs (i + 1)) (xs (i + 2))).1]) ⟨by decide, by decide⟩ rfl rfl ki_R_close kx_R_close (c_R_close (by decide) o9.1) kc_R_close km_law_56 kn_R (k9 := 2) (by decide) rfl (by decide) (Nat.le_of_ble_eq_true rfl) rfl d_law_law_488 ?_
  exact sl_icmp_eq G 999 d_law_law_491 (by decide) (fun _ => kk _ o9.2.2) (fun h => absurd o9.2.1.symm h)
theorem cs_10 (G : cx p s m meth c code 4 "BridgeClientsLaw" ret9 D t6) (S : sc_ s a0 N xs b) (hi : i + 8 ≤ N) (RL : Rl M) (kk : ∀ M2, Rl M2 → Sl p l e s m args below meth c D t6 b Q M2 999 (LL a0 b i) []) : Sl p l e s m args below meth c D t6 b Q M 496 (LL a0 b i) [] := by
  obtain ⟨nc, nm, hh, R⟩ := RL
  have o9 := st_shut R (xs (i + 1)) (xs (i + 2)) (xs (i + 3))
  refine sl_aload_n G (i := 1) (x := ad b 0 0) rfl d_law_law_496 ?_
  refine sl_arg G S (q := 1) (by decide) (by omega) d_law_law_497 d_law_law_498 d_law_law_499 d_law_law_500 d_law_law_501 ?_
  refine sl_arg G S (q := 2) (by decide) (by omega) d_law_law_502 d_law_law_503 d_law_law_504 d_law_law_505 d_law_law_506 ?_
  refine sl_arg G S (q := 3) (by decide) (by omega) d_law_law_507 d_law_law_508 d_law_law_509 d_law_law_510 d_law_law_511 ?_
  refine sl_cvi G (kd := 0) (i := 0) (ci := 5) (T := F_B) (N := 5) (As := [.int (xs (i + 1)), .int (xs (i + 2)), .int (xs (i + 3))]) (rest := []) ⟨by decide, by decide⟩ rfl rfl ki_B_shut kx_B_shut (c_B_shut (by decide) (rl_ci R)) kc_B_shut km_law_57 kn_B (k9 := 3) (by decide) rfl (by decide) (by decide) rfl d_law_law_512 ?_
  refine sl_aload_n G (i := 2) (x := ad b 20 0) rfl d_law_law_515 ?_
  refine sl_arg G S (q := 1) (by decide) (by omega) d_law_law_516 d_law_law_517 d_law_law_518 d_law_law_519 d_law_law_520 ?_
  refine sl_arg G S (q := 2) (by decide) (by omega) d_law_law_521 d_law_law_522 d_law_law_523 d_law_law_524 d_law_law_525 ?_
  refine sl_arg G S (q := 3) (by decide) (by omega) d_law_law_526 d_law_law_527 d_law_law_528 d_law_law_529 d_law_law_530 ?_
  refine sl_cvi G (kd := 20) (i := 0) (ci := 6) (T := F_R) (N := 30) (As := [.int (xs (i + 1)), .int (xs (i + 2)), .int (xs (i + 3))]) (rest := [.int (f_B_shut M (xs (i + 1)) (xs (i + 2)) (xs (i + 3))).1]) ⟨by decide, by decide⟩ rfl rfl ki_R_shut kx_R_shut (c_R_shut (by decide) o9.1) kc_R_shut km_law_60 kn_R (k9 := 3) (by decide) rfl (by decide) (Nat.le_of_ble_eq_true rfl) rfl d_law_law_531 ?_
  exact sl_icmp_eq G 999 d_law_law_534 (by decide) (fun _ => kk _ o9.2.2) (fun h => absurd o9.2.1.symm h)
theorem cs_11 (G : cx p s m meth c code 4 "BridgeClientsLaw" ret9 D t6) (S : sc_ s a0 N xs b) (hi : i + 8 ≤ N) (RL : Rl M) (kk : ∀ M2, Rl M2 → Sl p l e s m args below meth c D t6 b Q M2 999 (LL a0 b i) []) : Sl p l e s m args below meth c D t6 b Q M 539 (LL a0 b i) [] := by
  obtain ⟨nc, nm, hh, R⟩ := RL
  have o9 := st_send R (xs (i + 1)) (xs (i + 2)) (xs (i + 3)) (xs (i + 4)) (xs (i + 5)) (xs (i + 6)) (xs (i + 7))
  refine sl_aload_n G (i := 1) (x := ad b 0 0) rfl d_law_law_539 ?_
  refine sl_arg G S (q := 1) (by decide) (by omega) d_law_law_540 d_law_law_541 d_law_law_542 d_law_law_543 d_law_law_544 ?_
  refine sl_arg G S (q := 2) (by decide) (by omega) d_law_law_545 d_law_law_546 d_law_law_547 d_law_law_548 d_law_law_549 ?_
  refine sl_arg G S (q := 3) (by decide) (by omega) d_law_law_550 d_law_law_551 d_law_law_552 d_law_law_553 d_law_law_554 ?_
  refine sl_arg G S (q := 4) (by decide) (by omega) d_law_law_555 d_law_law_556 d_law_law_557 d_law_law_558 d_law_law_559 ?_
  refine sl_arg G S (q := 5) (by decide) (by omega) d_law_law_560 d_law_law_561 d_law_law_562 d_law_law_563 d_law_law_564 ?_
  refine sl_arb G S (q := 6) (by decide) (by omega) d_law_law_565 d_law_law_566 d_law_law_567 d_law_law_569 d_law_law_570 ?_
  refine sl_arb G S (q := 7) (by decide) (by omega) d_law_law_571 d_law_law_572 d_law_law_573 d_law_law_575 d_law_law_576 ?_
  refine sl_cvi G (kd := 0) (i := 0) (ci := 5) (T := F_B) (N := 5) (As := [.int (xs (i + 1)), .int (xs (i + 2)), .int (xs (i + 3)), .int (xs (i + 4)), .int (xs (i + 5)), .int (xs (i + 6)), .int (xs (i + 7))]) (rest := []) ⟨by decide, by decide⟩ rfl rfl ki_B_send kx_B_send (c_B_send (by decide) (rl_ci R)) kc_B_send km_law_61 kn_B (k9 := 7) (by decide) rfl (by decide) (by decide) rfl d_law_law_577 ?_
  refine sl_aload_n G (i := 2) (x := ad b 20 0) rfl d_law_law_580 ?_
  refine sl_arg G S (q := 1) (by decide) (by omega) d_law_law_581 d_law_law_582 d_law_law_583 d_law_law_584 d_law_law_585 ?_
  refine sl_arg G S (q := 2) (by decide) (by omega) d_law_law_586 d_law_law_587 d_law_law_588 d_law_law_589 d_law_law_590 ?_
  refine sl_arg G S (q := 3) (by decide) (by omega) d_law_law_591 d_law_law_592 d_law_law_593 d_law_law_594 d_law_law_595 ?_
  refine sl_arg G S (q := 4) (by decide) (by omega) d_law_law_596 d_law_law_597 d_law_law_598 d_law_law_599 d_law_law_600 ?_
  refine sl_arg G S (q := 5) (by decide) (by omega) d_law_law_601 d_law_law_602 d_law_law_603 d_law_law_604 d_law_law_605 ?_
  refine sl_arb G S (q := 6) (by decide) (by omega) d_law_law_606 d_law_law_607 d_law_law_608 d_law_law_610 d_law_law_611 ?_
  refine sl_arb G S (q := 7) (by decide) (by omega) d_law_law_612 d_law_law_613 d_law_law_614 d_law_law_616 d_law_law_617 ?_
  refine sl_cvi G (kd := 20) (i := 0) (ci := 6) (T := F_R) (N := 30) (As := [.int (xs (i + 1)), .int (xs (i + 2)), .int (xs (i + 3)), .int (xs (i + 4)), .int (xs (i + 5)), .int (xs (i + 6)), .int (xs (i + 7))]) (rest := [.int (f_B_send M (xs (i + 1)) (xs (i + 2)) (xs (i + 3)) (xs (i + 4)) (xs (i + 5)) (xs (i + 6)) (xs (i + 7))).1]) ⟨by decide, by decide⟩ rfl rfl ki_R_send kx_R_send (c_R_send (by decide) o9.1) kc_R_send km_law_65 kn_R (k9 := 7) (by decide) rfl (by decide) (Nat.le_of_ble_eq_true rfl) rfl d_law_law_618 ?_
  exact sl_icmp_eq G 999 d_law_law_621 (by decide) (fun _ => kk _ o9.2.2) (fun h => absurd o9.2.1.symm h)
theorem cs_12 (G : cx p s m meth c code 4 "BridgeClientsLaw" ret9 D t6) (S : sc_ s a0 N xs b) (hi : i + 8 ≤ N) (RL : Rl M) (kk : ∀ M2, Rl M2 → Sl p l e s m args below meth c D t6 b Q M2 999 (LL a0 b i) []) : Sl p l e s m args below meth c D t6 b Q M 626 (LL a0 b i) [] := by
  obtain ⟨nc, nm, hh, R⟩ := RL
  have o9 := st_receive R (xs (i + 1)) (xs (i + 2))
  refine sl_aload_n G (i := 1) (x := ad b 0 0) rfl d_law_law_626 ?_
  refine sl_arg G S (q := 1) (by decide) (by omega) d_law_law_627 d_law_law_628 d_law_law_629 d_law_law_630 d_law_law_631 ?_
  refine sl_arg G S (q := 2) (by decide) (by omega) d_law_law_632 d_law_law_633 d_law_law_634 d_law_law_635 d_law_law_636 ?_
  refine sl_cvi G (kd := 0) (i := 0) (ci := 5) (T := F_B) (N := 5) (As := [.int (xs (i + 1)), .int (xs (i + 2))]) (rest := []) ⟨by decide, by decide⟩ rfl rfl ki_B_receive kx_B_receive (c_B_receive (by decide) (rl_ci R)) kc_B_receive km_law_66 kn_B (k9 := 2) (by decide) rfl (by decide) (by decide) rfl d_law_law_637 ?_
  refine sl_aload_n G (i := 2) (x := ad b 20 0) rfl d_law_law_640 ?_
  refine sl_arg G S (q := 1) (by decide) (by omega) d_law_law_641 d_law_law_642 d_law_law_643 d_law_law_644 d_law_law_645 ?_
  refine sl_arg G S (q := 2) (by decide) (by omega) d_law_law_646 d_law_law_647 d_law_law_648 d_law_law_649 d_law_law_650 ?_
  refine sl_cvi G (kd := 20) (i := 0) (ci := 6) (T := F_R) (N := 30) (As := [.int (xs (i + 1)), .int (xs (i + 2))]) (rest := [.int (f_B_receive M (xs (i + 1)) (xs (i + 2))).1]) ⟨by decide, by decide⟩ rfl rfl ki_R_receive kx_R_receive (c_R_receive (by decide) o9.1) kc_R_receive km_law_69 kn_R (k9 := 2) (by decide) rfl (by decide) (Nat.le_of_ble_eq_true rfl) rfl d_law_law_651 ?_
  exact sl_icmp_eq G 999 d_law_law_654 (by decide) (fun _ => kk _ o9.2.2) (fun h => absurd o9.2.1.symm h)
theorem cs_13 (G : cx p s m meth c code 4 "BridgeClientsLaw" ret9 D t6) (S : sc_ s a0 N xs b) (hi : i + 8 ≤ N) (RL : Rl M) (kk : ∀ M2, Rl M2 → Sl p l e s m args below meth c D t6 b Q M2 999 (LL a0 b i) []) : Sl p l e s m args below meth c D t6 b Q M 659 (LL a0 b i) [] := by
  obtain ⟨nc, nm, hh, R⟩ := RL
  have o9 := st_ack R (xs (i + 1)) (xs (i + 2))
  refine sl_aload_n G (i := 1) (x := ad b 0 0) rfl d_law_law_659 ?_
  refine sl_arg G S (q := 1) (by decide) (by omega) d_law_law_660 d_law_law_661 d_law_law_662 d_law_law_663 d_law_law_664 ?_
  refine sl_arg G S (q := 2) (by decide) (by omega) d_law_law_665 d_law_law_666 d_law_law_667 d_law_law_668 d_law_law_669 ?_
  refine sl_cvi G (kd := 0) (i := 0) (ci := 5) (T := F_B) (N := 5) (As := [.int (xs (i + 1)), .int (xs (i + 2))]) (rest := []) ⟨by decide, by decide⟩ rfl rfl ki_B_acknowledge kx_B_acknowledge (c_B_acknowledge (by decide) (rl_ci R)) kc_B_acknowledge km_law_70 kn_B (k9 := 2) (by decide) rfl (by decide) (by decide) rfl d_law_law_670 ?_
  refine sl_aload_n G (i := 2) (x := ad b 20 0) rfl d_law_law_673 ?_
  refine sl_arg G S (q := 1) (by decide) (by omega) d_law_law_674 d_law_law_675 d_law_law_676 d_law_law_677 d_law_law_678 ?_
  refine sl_arg G S (q := 2) (by decide) (by omega) d_law_law_679 d_law_law_680 d_law_law_681 d_law_law_682 d_law_law_683 ?_
  refine sl_cvi G (kd := 20) (i := 0) (ci := 6) (T := F_R) (N := 30) (As := [.int (xs (i + 1)), .int (xs (i + 2))]) (rest := [.int (f_B_acknowledge M (xs (i + 1)) (xs (i + 2))).1]) ⟨by decide, by decide⟩ rfl rfl ki_R_acknowledge kx_R_acknowledge (c_R_acknowledge (by decide) o9.1) kc_R_acknowledge km_law_73 kn_R (k9 := 2) (by decide) rfl (by decide) (Nat.le_of_ble_eq_true rfl) rfl d_law_law_684 ?_
  exact sl_icmp_eq G 999 d_law_law_687 (by decide) (fun _ => kk _ o9.2.2) (fun h => absurd o9.2.1.symm h)
theorem cs_14 (G : cx p s m meth c code 4 "BridgeClientsLaw" ret9 D t6) (S : sc_ s a0 N xs b) (hi : i + 8 ≤ N) (RL : Rl M) (kk : ∀ M2, Rl M2 → Sl p l e s m args below meth c D t6 b Q M2 999 (LL a0 b i) []) : Sl p l e s m args below meth c D t6 b Q M 692 (LL a0 b i) [] := by
  obtain ⟨nc, nm, hh, R⟩ := RL
  have o9 := st_timeout R (xs (i + 1)) (xs (i + 2))
  refine sl_aload_n G (i := 1) (x := ad b 0 0) rfl d_law_law_692 ?_
  refine sl_arg G S (q := 1) (by decide) (by omega) d_law_law_693 d_law_law_694 d_law_law_695 d_law_law_696 d_law_law_697 ?_
  refine sl_arg G S (q := 2) (by decide) (by omega) d_law_law_698 d_law_law_699 d_law_law_700 d_law_law_701 d_law_law_702 ?_
  refine sl_cvi G (kd := 0) (i := 0) (ci := 5) (T := F_B) (N := 5) (As := [.int (xs (i + 1)), .int (xs (i + 2))]) (rest := []) ⟨by decide, by decide⟩ rfl rfl ki_B_timeout kx_B_timeout (c_B_timeout (by decide) (rl_ci R)) kc_B_timeout km_law_74 kn_B (k9 := 2) (by decide) rfl (by decide) (by decide) rfl d_law_law_703 ?_
  refine sl_aload_n G (i := 2) (x := ad b 20 0) rfl d_law_law_706 ?_
  refine sl_arg G S (q := 1) (by decide) (by omega) d_law_law_707 d_law_law_708 d_law_law_709 d_law_law_710 d_law_law_711 ?_
  refine sl_arg G S (q := 2) (by decide) (by omega) d_law_law_712 d_law_law_713 d_law_law_714 d_law_law_715 d_law_law_716 ?_
  refine sl_cvi G (kd := 20) (i := 0) (ci := 6) (T := F_R) (N := 30) (As := [.int (xs (i + 1)), .int (xs (i + 2))]) (rest := [.int (f_B_timeout M (xs (i + 1)) (xs (i + 2))).1]) ⟨by decide, by decide⟩ rfl rfl ki_R_timeout kx_R_timeout (c_R_timeout (by decide) o9.1) kc_R_timeout km_law_77 kn_R (k9 := 2) (by decide) rfl (by decide) (Nat.le_of_ble_eq_true rfl) rfl d_law_law_717 ?_
  exact sl_icmp_eq G 999 d_law_law_720 (by decide) (fun _ => kk _ o9.2.2) (fun h => absurd o9.2.1.symm h)
theorem cs_15 (G : cx p s m meth c code 4 "BridgeClientsLaw" ret9 D t6) (S : sc_ s a0 N xs b) (hi : i + 8 ≤ N) (RL : Rl M) (kk : ∀ M2, Rl M2 → Sl p l e s m args below meth c D t6 b Q M2 999 (LL a0 b i) []) : Sl p l e s m args below meth c D t6 b Q M 725 (LL a0 b i) [] := by
  obtain ⟨nc, nm, hh, R⟩ := RL
  have o9 := sm_end R (xs (i + 1)) (xs (i + 2)) (xs (i + 3))
  refine sl_aload_n G (i := 1) (x := ad b 0 0) rfl d_law_law_725 ?_
  refine sl_arg G S (q := 1) (by decide) (by omega) d_law_law_726 d_law_law_727 d_law_law_728 d_law_law_729 d_law_law_730 ?_
  refine sl_arg G S (q := 2) (by decide) (by omega) d_law_law_731 d_law_law_732 d_law_law_733 d_law_law_734 d_law_law_735 ?_
  refine sl_arg G S (q := 3) (by decide) (by omega) d_law_law_736 d_law_law_737 d_law_law_738 d_law_law_739 d_law_law_740 ?_
  refine sl_cvi G (kd := 0) (i := 0) (ci := 5) (T := F_B) (N := 5) (As := [.int (xs (i + 1)), .int (xs (i + 2)), .int (xs (i + 3))]) (rest := []) ⟨by decide, by decide⟩ rfl rfl ki_B_end kx_B_end (c_B_end (by decide) (rl_ci R)) kc_B_end km_law_78 kn_B (k9 := 3) (by decide) rfl (by decide) (by decide) rfl d_law_law_741 ?_
  refine sl_aload_n G (i := 2) (x := ad b 20 0) rfl d_law_law_744 ?_
  refine sl_arg G S (q := 1) (by decide) (by omega) d_law_law_745 d_law_law_746 d_law_law_747 d_law_law_748 d_law_law_749 ?_
  refine sl_arg G S (q := 2) (by decide) (by omega) d_law_law_750 d_law_law_751 d_law_law_752 d_law_law_753 d_law_law_754 ?_
  refine sl_arg G S (q := 3) (by decide) (by omega) d_law_law_755 d_law_law_756 d_law_law_757 d_law_law_758 d_law_law_759 ?_
  refine sl_cvi G (kd := 20) (i := 0) (ci := 6) (T := F_R) (N := 30) (As := [.int (xs (i + 1)), .int (xs (i + 2)), .int (xs (i + 3))]) (rest := [.int (f_B_end M (xs (i + 1)) (xs (i + 2)) (xs (i + 3)))]) ⟨by decide, by decide⟩ rfl rfl ki_R_end kx_R_end (c_R_end (by decide) (rl_ri R)) kc_R_end km_law_81 kn_R (k9 := 3) (by decide) rfl (by decide) (Nat.le_of_ble_eq_true rfl) rfl d_law_law_760 ?_
  exact sl_icmp_eq G 999 d_law_law_763 (by decide) (fun _ => kk _ ⟨nc, nm, hh, R⟩) (fun h => absurd o9 h)
theorem cs_16 (G : cx p s m meth c code 4 "BridgeClientsLaw" ret9 D t6) (S : sc_ s a0 N xs b) (hi : i + 8 ≤ N) (RL : Rl M) (kk : ∀ M2, Rl M2 → Sl p l e s m args below meth c D t6 b Q M2 999 (LL a0 b i) []) : Sl p l e s m args below meth c D t6 b Q M 768 (LL a0 b i) [] := by
  obtain ⟨nc, nm, hh, R⟩ := RL
  have o9 := sm_stepAt R (xs (i + 1)) (xs (i + 2)) (xs (i + 3))
  refine sl_aload_n G (i := 1) (x := ad b 0 0) rfl d_law_law_768 ?_
  refine sl_arg G S (q := 1) (by decide) (by omega) d_law_law_769 d_law_law_770 d_law_law_771 d_law_law_772 d_law_law_773 ?_
  refine sl_arg G S (q := 2) (by decide) (by omega) d_law_law_774 d_law_law_775 d_law_law_776 d_law_law_777 d_law_law_778 ?_
  refine sl_arg G S (q := 3) (by decide) (by omega) d_law_law_779 d_law_law_780 d_law_law_781 d_law_law_782 d_law_law_783 ?_
  refine sl_cvi G (kd := 0) (i := 0) (ci := 5) (T := F_B) (N := 5) (As := [.int (xs (i + 1)), .int (xs (i + 2)), .int (xs (i + 3))]) (rest := []) ⟨by decide, by decide⟩ rfl rfl ki_B_stepAt kx_B_stepAt (c_B_stepAt (by decide) (rl_ci R)) kc_B_stepAt km_law_82 kn_B (k9 := 3) (by decide) rfl (by decide) (by decide) rfl d_law_law_784 ?_
  refine sl_aload_n G (i := 2) (x := ad b 20 0) rfl d_law_law_787 ?_
  refine sl_arg G S (q := 1) (by decide) (by omega) d_law_law_788 d_law_law_789 d_law_law_790 d_law_law_791 d_law_law_792 ?_
  refine sl_arg G S (q := 2) (by decide) (by omega) d_law_law_793 d_law_law_794 d_law_law_795 d_law_law_796 d_law_law_797 ?_
  refine sl_arg G S (q := 3) (by decide) (by omega) d_law_law_798 d_law_law_799 d_law_law_800 d_law_law_801 d_law_law_802 ?_
  refine sl_cvi G (kd := 20) (i := 0) (ci := 6) (T := F_R) (N := 30) (As := [.int (xs (i + 1)), .int (xs (i + 2)), .int (xs (i + 3))]) (rest := [.int (f_B_stepAt M (xs (i + 1)) (xs (i + 2)) (xs (i + 3)))]) ⟨by decide, by decide⟩ rfl rfl ki_R_stepAt kx_R_stepAt (c_R_stepAt (by decide) (rl_ri R)) kc_R_stepAt km_law_85 kn_R (k9 := 3) (by decide) rfl (by decide) (Nat.le_of_ble_eq_true rfl) rfl d_law_law_803 ?_
  exact sl_icmp_eq G 999 d_law_law_806 (by decide) (fun _ => kk _ ⟨nc, nm, hh, R⟩) (fun h => absurd o9 h)
theorem cs_17 (G : cx p s m meth c code 4 "BridgeClientsLaw" ret9 D t6) (S : sc_ s a0 N xs b) (hi : i + 8 ≤ N) (RL : Rl M) (kk : ∀ M2, Rl M2 → Sl p l e s m args below meth c D t6 b Q M2 999 (LL a0 b i) []) : Sl p l e s m args below meth c D t6 b Q M 811 (LL a0 b i) [] := by
  obtain ⟨nc, nm, hh, R⟩ := RL
  have o9 := sm_message R (xs (i + 1)) (xs (i + 2))
  refine sl_aload_n G (i := 1) (x := ad b 0 0) rfl d_law_law_811 ?_
  refine sl_arg G S (q := 1) (by decide) (by omega) d_law_law_812 d_law_law_813 d_law_law_814 d_law_law_815 d_law_law_816 ?_
  refine sl_arg G S (q := 2) (by decide) (by omega) d_law_law_817 d_law_law_818 d_law_law_819 d_law_law_820 d_law_law_821 ?_
  refine sl_cvi G (kd := 0) (i := 0) (ci := 5) (T := F_B) (N := 5) (As := [.int (xs (i + 1)), .int (xs (i + 2))]) (rest := []) ⟨by decide, by decide⟩ rfl rfl ki_B_message kx_B_message (c_B_message (by decide) (rl_ci R)) kc_B_message km_law_86 kn_B (k9 := 2) (by decide) rfl (by decide) (by decide) rfl d_law_law_822 ?_
  refine sl_aload_n G (i := 2) (x := ad b 20 0) rfl d_law_law_825 ?_
  refine sl_arg G S (q := 1) (by decide) (by omega) d_law_law_826 d_law_law_827 d_law_law_828 d_law_law_829 d_law_law_830 ?_
  refine sl_arg G S (q := 2) (by decide) (by omega) d_law_law_831 d_law_law_832 d_law_law_833 d_law_law_834 d_law_law_835 ?_
  refine sl_cvi G (kd := 20) (i := 0) (ci := 6) (T := F_R) (N := 30) (As := [.int (xs (i + 1)), .int (xs (i + 2))]) (rest := [.int (f_B_message M (xs (i + 1)) (xs (i + 2)))]) ⟨by decide, by decide⟩ rfl rfl ki_R_message kx_R_message (c_R_message (by decide) (rl_ri R)) kc_R_message km_law_89 kn_R (k9 := 2) (by decide) rfl (by decide) (Nat.le_of_ble_eq_true rfl) rfl d_law_law_836 ?_
  exact sl_icmp_eq G 999 d_law_law_839 (by decide) (fun _ => kk _ ⟨nc, nm, hh, R⟩) (fun h => absurd o9 h)
theorem cs_18 (G : cx p s m meth c code 4 "BridgeClientsLaw" ret9 D t6) (S : sc_ s a0 N xs b) (hi : i + 8 ≤ N) (RL : Rl M) (kk : ∀ M2, Rl M2 → Sl p l e s m args below meth c D t6 b Q M2 999 (LL a0 b i) []) : Sl p l e s m args below meth c D t6 b Q M 844 (LL a0 b i) [] := by
  obtain ⟨nc, nm, hh, R⟩ := RL
  have o9 := sm_balance R (xs (i + 1)) (xs (i + 2)) (xs (i + 3))
  refine sl_aload_n G (i := 1) (x := ad b 0 0) rfl d_law_law_844 ?_
  refine sl_arg G S (q := 1) (by decide) (by omega) d_law_law_845 d_law_law_846 d_law_law_847 d_law_law_848 d_law_law_849 ?_
  refine sl_arg G S (q := 2) (by decide) (by omega) d_law_law_850 d_law_law_851 d_law_law_852 d_law_law_853 d_law_law_854 ?_
  refine sl_arg G S (q := 3) (by decide) (by omega) d_law_law_855 d_law_law_856 d_law_law_857 d_law_law_858 d_law_law_859 ?_
  refine sl_cvi G (kd := 0) (i := 0) (ci := 5) (T := F_B) (N := 5) (As := [.int (xs (i + 1)), .int (xs (i + 2)), .int (xs (i + 3))]) (rest := []) ⟨by decide, by decide⟩ rfl rfl ki_B_balance kx_B_balance (c_B_balance (by decide) (rl_ci R)) kc_B_balance km_law_90 kn_B (k9 := 3) (by decide) rfl (by decide) (by decide) rfl d_law_law_860 ?_
  refine sl_aload_n G (i := 2) (x := ad b 20 0) rfl d_law_law_863 ?_
  refine sl_arg G S (q := 1) (by decide) (by omega) d_law_law_864 d_law_law_865 d_law_law_866 d_law_law_867 d_law_law_868 ?_
  refine sl_arg G S (q := 2) (by decide) (by omega) d_law_law_869 d_law_law_870 d_law_law_871 d_law_law_872 d_law_law_873 ?_
  refine sl_arg G S (q := 3) (by decide) (by omega) d_law_law_874 d_law_law_875 d_law_law_876 d_law_law_877 d_law_law_878 ?_
  refine sl_cvi G (kd := 20) (i := 0) (ci := 6) (T := F_R) (N := 30) (As := [.int (xs (i + 1)), .int (xs (i + 2)), .int (xs (i + 3))]) (rest := [.int (f_B_balance M (xs (i + 1)) (xs (i + 2)) (xs (i + 3)))]) ⟨by decide, by decide⟩ rfl rfl ki_R_balance kx_R_balance (c_R_balance (by decide) (rl_ri R)) kc_R_balance km_law_93 kn_R (k9 := 3) (by decide) rfl (by decide) (Nat.le_of_ble_eq_true rfl) rfl d_law_law_879 ?_
  exact sl_icmp_eq G 999 d_law_law_882 (by decide) (fun _ => kk _ ⟨nc, nm, hh, R⟩) (fun h => absurd o9 h)
theorem cs_19 (G : cx p s m meth c code 4 "BridgeClientsLaw" ret9 D t6) (S : sc_ s a0 N xs b) (hi : i + 8 ≤ N) (RL : Rl M) (kk : ∀ M2, Rl M2 → Sl p l e s m args below meth c D t6 b Q M2 999 (LL a0 b i) []) : Sl p l e s m args below meth c D t6 b Q M 887 (LL a0 b i) [] := by
  obtain ⟨nc, nm, hh, R⟩ := RL
  have o9 := sm_vouchers R (xs (i + 1)) (xs (i + 2)) (xs (i + 3))
  refine sl_aload_n G (i := 1) (x := ad b 0 0) rfl d_law_law_887 ?_
  refine sl_arg G S (q := 1) (by decide) (by omega) d_law_law_888 d_law_law_889 d_law_law_890 d_law_law_891 d_law_law_892 ?_
  refine sl_arg G S (q := 2) (by decide) (by omega) d_law_law_893 d_law_law_894 d_law_law_895 d_law_law_896 d_law_law_897 ?_
  refine sl_arg G S (q := 3) (by decide) (by omega) d_law_law_898 d_law_law_899 d_law_law_900 d_law_law_901 d_law_law_902 ?_
  refine sl_cvi G (kd := 0) (i := 0) (ci := 5) (T := F_B) (N := 5) (As := [.int (xs (i + 1)), .int (xs (i + 2)), .int (xs (i + 3))]) (rest := []) ⟨by decide, by decide⟩ rfl rfl ki_B_vouchers kx_B_vouchers (c_B_vouchers (by decide) (rl_ci R)) kc_B_vouchers km_law_94 kn_B (k9 := 3) (by decide) rfl (by decide) (by decide) rfl d_law_law_903 ?_
  refine sl_aload_n G (i := 2) (x := ad b 20 0) rfl d_law_law_906 ?_
  refine sl_arg G S (q := 1) (by decide) (by omega) d_law_law_907 d_law_law_908 d_law_law_909 d_law_law_910 d_law_law_911 ?_
  refine sl_arg G S (q := 2) (by decide) (by omega) d_law_law_912 d_law_law_913 d_law_law_914 d_law_law_915 d_law_law_916 ?_
  refine sl_arg G S (q := 3) (by decide) (by omega) d_law_law_917 d_law_law_918 d_law_law_919 d_law_law_920 d_law_law_921 ?_
  refine sl_cvi G (kd := 20) (i := 0) (ci := 6) (T := F_R) (N := 30) (As := [.int (xs (i + 1)), .int (xs (i + 2)), .int (xs (i + 3))]) (rest := [.int (f_B_vouchers M (xs (i + 1)) (xs (i + 2)) (xs (i + 3)))]) ⟨by decide, by decide⟩ rfl rfl ki_R_vouchers kx_R_vouchers (c_R_vouchers (by decide) (rl_ri R)) kc_R_vouchers km_law_97 kn_R (k9 := 3) (by decide) rfl (by decide) (Nat.le_of_ble_eq_true rfl) rfl d_law_law_922 ?_
  exact sl_icmp_eq G 999 d_law_law_925 (by decide) (fun _ => kk _ ⟨nc, nm, hh, R⟩) (fun h => absurd o9 h)
theorem cs_20 (G : cx p s m meth c code 4 "BridgeClientsLaw" ret9 D t6) (S : sc_ s a0 N xs b) (hi : i + 8 ≤ N) (RL : Rl M) (kk : ∀ M2, Rl M2 → Sl p l e s m args below meth c D t6 b Q M2 999 (LL a0 b i) []) : Sl p l e s m args below meth c D t6 b Q M 930 (LL a0 b i) [] := by
  obtain ⟨nc, nm, hh, R⟩ := RL
  have o9 := sm_sum R (xs (i + 1)) (xs (i + 2))
  refine sl_aload_n G (i := 1) (x := ad b 0 0) rfl d_law_law_930 ?_
  refine sl_arg G S (q := 1) (by decide) (by omega) d_law_law_931 d_law_law_932 d_law_law_933 d_law_law_934 d_law_law_935 ?_
  refine sl_arg G S (q := 2) (by decide) (by omega) d_law_law_936 d_law_law_937 d_law_law_938 d_law_law_939 d_law_law_940 ?_
  refine sl_cvi G (kd := 0) (i := 0) (ci := 5) (T := F_B) (N := 5) (As := [.int (xs (i + 1)), .int (xs (i + 2))]) (rest := []) ⟨by decide, by decide⟩ rfl rfl ki_B_sum kx_B_sum (c_B_sum (by decide) (rl_ci R)) kc_B_sum km_law_98 kn_B (k9 := 2) (by decide) rfl (by decide) (by decide) rfl d_law_law_941 ?_
  refine sl_aload_n G (i := 2) (x := ad b 20 0) rfl d_law_law_944 ?_
  refine sl_arg G S (q := 1) (by decide) (by omega) d_law_law_945 d_law_law_946 d_law_law_947 d_law_law_948 d_law_law_949 ?_
  refine sl_arg G S (q := 2) (by decide) (by omega) d_law_law_950 d_law_law_951 d_law_law_952 d_law_law_953 d_law_law_954 ?_
  refine sl_cvi G (kd := 20) (i := 0) (ci := 6) (T := F_R) (N := 30) (As := [.int (xs (i + 1)), .int (xs (i + 2))]) (rest := [.int (f_B_sum M (xs (i + 1)) (xs (i + 2)))]) ⟨by decide, by decide⟩ rfl rfl ki_R_sum kx_R_sum (c_R_sum (by decide) (rl_ri R)) kc_R_sum km_law_101 kn_R (k9 := 2) (by decide) rfl (by decide) (Nat.le_of_ble_eq_true rfl) rfl d_law_law_955 ?_
  exact sl_icmp_eq G 999 d_law_law_958 (by decide) (fun _ => kk _ ⟨nc, nm, hh, R⟩) (fun h => absurd o9 h)
theorem cs_21 (G : cx p s m meth c code 4 "BridgeClientsLaw" ret9 D t6) (S : sc_ s a0 N xs b) (hi : i + 8 ≤ N) (RL : Rl M) (kk : ∀ M2, Rl M2 → Sl p l e s m args below meth c D t6 b Q M2 999 (LL a0 b i) []) : Sl p l e s m args below meth c D t6 b Q M 963 (LL a0 b i) [] := by
  obtain ⟨nc, nm, hh, R⟩ := RL
  have o9 := sm_count R (xs (i + 1))
  refine sl_aload_n G (i := 1) (x := ad b 0 0) rfl d_law_law_963 ?_
  refine sl_arg G S (q := 1) (by decide) (by omega) d_law_law_964 d_law_law_965 d_law_law_966 d_law_law_967 d_law_law_968 ?_
  refine sl_cvi G (kd := 0) (i := 0) (ci := 5) (T := F_B) (N := 5) (As := [.int (xs (i + 1))]) (rest := []) ⟨by decide, by decide⟩ rfl rfl ki_B_count kx_B_count (c_B_count (by decide) (rl_ci R)) kc_B_count km_law_102 kn_B (k9 := 1) (by decide) rfl (by decide) (by decide) rfl d_law_law_969 ?_
  refine sl_aload_n G (i := 2) (x := ad b 20 0) rfl d_law_law_972 ?_
  refine sl_arg G S (q := 1) (by decide) (by omega) d_law_law_973 d_law_law_974 d_law_law_975 d_law_law_976 d_law_law_977 ?_
  refine sl_cvi G (kd := 20) (i := 0) (ci := 6) (T := F_R) (N := 30) (As := [.int (xs (i + 1))]) (rest := [.int (f_B_count M (xs (i + 1)))]) ⟨by decide, by decide⟩ rfl rfl ki_R_count kx_R_count (c_R_count (by decide) (rl_ri R)) kc_R_count km_law_105 kn_R (k9 := 1) (by decide) rfl (by decide) (Nat.le_of_ble_eq_true rfl) rfl d_law_law_978 ?_
  exact sl_icmp_eq G 999 d_law_law_981 (by decide) (fun _ => kk _ ⟨nc, nm, hh, R⟩) (fun h => absurd o9 h)
theorem cs_22 (G : cx p s m meth c code 4 "BridgeClientsLaw" ret9 D t6) (S : sc_ s a0 N xs b) (hi : i + 8 ≤ N) (RL : Rl M) (kk : ∀ M2, Rl M2 → Sl p l e s m args below meth c D t6 b Q M2 999 (LL a0 b i) []) : Sl p l e s m args below meth c D t6 b Q M 986 (LL a0 b i) [] := by
  obtain ⟨nc, nm, hh, R⟩ := RL
  have o9 := st_clear R
  refine sl_aload_n G (i := 1) (x := ad b 0 0) rfl d_law_law_986 ?_
  refine sl_cvi G (kd := 0) (i := 0) (ci := 5) (T := F_B) (N := 5) (As := []) (rest := []) ⟨by decide, by decide⟩ rfl rfl ki_B_clear kx_B_clear (c_B_clear (by decide) ) kc_B_clear km_law_106 kn_B (k9 := 0) (by decide) rfl (by decide) (by decide) rfl d_law_law_987 ?_
  refine sl_aload_n G (i := 2) (x := ad b 20 0) rfl d_law_law_990 ?_
  refine sl_cvi G (kd := 20) (i := 0) (ci := 6) (T := F_R) (N := 30) (As := []) (rest := [.int (f_B_clear M).1]) ⟨by decide, by decide⟩ rfl rfl ki_R_clear kx_R_clear (c_R_clear (by decide) ) kc_R_clear km_law_110 kn_R (k9 := 0) (by decide) rfl (by decide) (Nat.le_of_ble_eq_true rfl) rfl d_law_law_991 ?_
  exact sl_icmp_eq G 999 d_law_law_994 (by decide) (fun _ => kk _ o9.2.2) (fun h => absurd o9.2.1.symm h)
end
