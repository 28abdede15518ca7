set_option maxRecDepth 20000 in
theorem g_unit {l : Launch} {G : jG} {h : jH} {Q : Option Value → jH → Prop} {k L nc ns : Nat} {xs : Nat → Int32} (hk : k < 512) (hLq : 5 * k + 5 ≤ L) (hL : L ≤ 2560) (hG : j_gok G) (hX : jX0 G L xs) (hI : iV k h) (hn1 : nc + 100 ≤ 600000) (hn2 : ns + 1000 ≤ 7302250) (K : ∀ (h2 : jH) (nc2 ns2 : Nat), iV (k + 1) h2 → nc2 ≤ nc + 20 → ns2 ≤ ns + 200 → J l G mL_law nc2 ns2 823 (jLV k) [] h2 Q) : J l G mL_law nc ns 128 (jLV k) [] h Q := by
  refine j_aload_n (pc := 128) dL_law_128 rfl ?_
  refine jg_i (pc := 129) (q := 5 * k + 1) dL_law_129 dL_law_130 dL_law_131 dL_law_132 dL_law_133 hX rfl rfl (n_k5 k 1) (by omega) (by omega) ?_
  obtain ⟨fx, hx0⟩ := iV_0 hI
  refine j_V1 (rm' := rmX7_unit) (pc := 134) dL_law_134 jlL_13 hx0 rfl ⟨Nat.le_of_ble_eq_true rfl, Nat.le_of_ble_eq_true rfl, by show nc + 0 ≤ 600000; omega, by show ns + 0 ≤ 7302250; omega, Nat.le_of_ble_eq_true rfl, Nat.le_of_ble_eq_true rfl⟩ ?_
  refine r_unit hk hG hI (fun v h1 hm KK => ?_)
  obtain ⟨fm, hm⟩ := hm
  show J l G mL_law (nc + 0) (ns + 0) 137 (jLV k) [.int v] h1 Q
  refine j_aload_n (pc := 137) dL_law_137 rfl ?_
  refine jg_i (pc := 138) (q := 5 * k + 1) dL_law_138 dL_law_139 dL_law_140 dL_law_141 dL_law_142 hX rfl rfl (n_k5 k 1) (by omega) (by omega) ?_
  refine j_V1 (rm' := rmX8_unit) (pc := 143) dL_law_143 jlL_17 hm rfl ⟨Nat.le_of_ble_eq_true rfl, Nat.le_of_ble_eq_true rfl, by show nc + 0 + 0 ≤ 600000; omega, by show ns + 0 + 0 ≤ 7302250; omega, Nat.le_of_ble_eq_true rfl, Nat.le_of_ble_eq_true rfl⟩ ?_
  refine KK _ (fun h2 hI2 => ?_)
  show J l G mL_law (nc + 0 + 0) (ns + 0 + 0) 146 (jLV k) [.int v, .int v] h2 Q
  refine j_icmp_eq (pc := 146) (tgt := 823) dL_law_146 (by decide) (fun _ => ?_) (fun z => absurd rfl z)
  exact K h2 _ _ hI2 (by omega) (by omega)

set_option maxRecDepth 20000 in
theorem g_read {l : Launch} {G : jG} {h : jH} {Q : Option Value → jH → Prop} {k L nc ns : Nat} {xs : Nat → Int32} (hk : k < 512) (hLq : 5 * k + 5 ≤ L) (hL : L ≤ 2560) (hG : j_gok G) (hX : jX0 G L xs) (hI : iV k h) (hn1 : nc + 100 ≤ 600000) (hn2 : ns + 1000 ≤ 7302250) (K : ∀ (h2 : jH) (nc2 ns2 : Nat), iV (k + 1) h2 → nc2 ≤ nc + 20 → ns2 ≤ ns + 200 → J l G mL_law nc2 ns2 823 (jLV k) [] h2 Q) : J l G mL_law nc ns 151 (jLV k) [] h Q := by
  refine j_aload_n (pc := 151) dL_law_151 rfl ?_
  obtain ⟨fx, hx0⟩ := iV_0 hI
  refine j_V0 (rm' := rmX7_read) (pc := 152) dL_law_152 jlL_18 hx0 rfl ⟨Nat.le_of_ble_eq_true rfl, Nat.le_of_ble_eq_true rfl, by show nc + 0 ≤ 600000; omega, by show ns + 0 ≤ 7302250; omega, Nat.le_of_ble_eq_true rfl, Nat.le_of_ble_eq_true rfl⟩ ?_
  refine r_read hk hG hI (fun v h1 hm KK => ?_)
  obtain ⟨fm, hm⟩ := hm
  show J l G mL_law (nc + 0) (ns + 0) 155 (jLV k) [.int v] h1 Q
  refine j_aload_n (pc := 155) dL_law_155 rfl ?_
  refine j_V0 (rm' := rmX8_read) (pc := 156) dL_law_156 jlL_22 hm rfl ⟨Nat.le_of_ble_eq_true rfl, Nat.le_of_ble_eq_true rfl, by show nc + 0 + 0 ≤ 600000; omega, by show ns + 0 + 0 ≤ 7302250; omega, Nat.le_of_ble_eq_true rfl, Nat.le_of_ble_eq_true rfl⟩ ?_
  refine KK _ (fun h2 hI2 => ?_)
  show J l G mL_law (nc + 0 + 0) (ns + 0 + 0) 159 (jLV k) [.int v, .int v] h2 Q
  refine j_icmp_eq (pc := 159) (tgt := 823) dL_law_159 (by decide) (fun _ => ?_) (fun z => absurd rfl z)
  exact K h2 _ _ hI2 (by omega) (by omega)

set_option maxRecDepth 20000 in
theorem g_person {l : Launch} {G : jG} {h : jH} {Q : Option Value → jH → Prop} {k L nc ns : Nat} {xs : Nat → Int32} (hk : k < 512) (hLq : 5 * k + 5 ≤ L) (hL : L ≤ 2560) (hG : j_gok G) (hX : jX0 G L xs) (hI : iV k h) (hn1 : nc + 100 ≤ 600000) (hn2 : ns + 1000 ≤ 7302250) (K : ∀ (h2 : jH) (nc2 ns2 : Nat), iV (k + 1) h2 → nc2 ≤ nc + 20 → ns2 ≤ ns + 200 → J l G mL_law nc2 ns2 823 (jLV k) [] h2 Q) : J l G mL_law nc ns 164 (jLV k) [] h Q := by
  refine j_aload_n (pc := 164) dL_law_164 rfl ?_
  refine jg_i (pc := 165) (q := 5 * k + 1) dL_law_165 dL_law_166 dL_law_167 dL_law_168 dL_law_169 hX rfl rfl (n_k5 k 1) (by omega) (by omega) ?_
  obtain ⟨fx, hx0⟩ := iV_0 hI
  refine j_V1 (rm' := rmX7_person) (pc := 170) dL_law_170 jlL_23 hx0 rfl ⟨Nat.le_of_ble_eq_true rfl, Nat.le_of_ble_eq_true rfl, by show nc + 0 ≤ 600000; omega, by show ns + 0 ≤ 7302250; omega, Nat.le_of_ble_eq_true rfl, Nat.le_of_ble_eq_true rfl⟩ ?_
  refine r_person hk hG hI (fun v h1 hm KK => ?_)
  obtain ⟨fm, hm⟩ := hm
  show J l G mL_law (nc + 0) (ns + 0) 173 (jLV k) [.int v] h1 Q
  refine j_aload_n (pc := 173) dL_law_173 rfl ?_
  refine jg_i (pc := 174) (q := 5 * k + 1) dL_law_174 dL_law_175 dL_law_176 dL_law_177 dL_law_178 hX rfl rfl (n_k5 k 1) (by omega) (by omega) ?_
  refine j_V1 (rm' := rmX8_person) (pc := 179) dL_law_179 jlL_27 hm rfl ⟨Nat.le_of_ble_eq_true rfl, Nat.le_of_ble_eq_true rfl, by show nc + 0 + 0 ≤ 600000; omega, by show ns + 0 + 0 ≤ 7302250; omega, Nat.le_of_ble_eq_true rfl, Nat.le_of_ble_eq_true rfl⟩ ?_
  refine KK _ (fun h2 hI2 => ?_)
  show J l G mL_law (nc + 0 + 0) (ns + 0 + 0) 182 (jLV k) [.int v, .int v] h2 Q
  refine j_icmp_eq (pc := 182) (tgt := 823) dL_law_182 (by decide) (fun _ => ?_) (fun z => absurd rfl z)
  exact K h2 _ _ hI2 (by omega) (by omega)

set_option maxRecDepth 20000 in
theorem g_advance {l : Launch} {G : jG} {h : jH} {Q : Option Value → jH → Prop} {k L nc ns : Nat} {xs : Nat → Int32} (hk : k < 512) (hLq : 5 * k + 5 ≤ L) (hL : L ≤ 2560) (hG : j_gok G) (hX : jX0 G L xs) (hI : iV k h) (hn1 : nc + 100 ≤ 600000) (hn2 : ns + 1000 ≤ 7302250) (K : ∀ (h2 : jH) (nc2 ns2 : Nat), iV (k + 1) h2 → nc2 ≤ nc + 20 → ns2 ≤ ns + 200 → J l G mL_law nc2 ns2 823 (jLV k) [] h2 Q) : J l G mL_law nc ns 187 (jLV k) [] h Q := by
  refine j_aload_n (pc := 187) dL_law_187 rfl ?_
  refine jg_i (pc := 188) (q := 5 * k + 1) dL_law_188 dL_law_189 dL_law_190 dL_law_191 dL_law_192 hX rfl rfl (n_k5 k 1) (by omega) (by omega) ?_
  refine jg_l (pc := 193) (q := 5 * k + 2) (q' := 5 * k + 3) dL_law_193 dL_law_194 dL_law_195 dL_law_196 dL_law_197 dL_law_198 dL_law_199 dL_law_201 dL_law_202 dL_law_203 dL_law_204 dL_law_205 dL_law_206 dL_law_207 dL_law_208 dL_law_211 dL_law_212 rfl hX rfl rfl (n_k5 k 2) (n_k5 k 3) (by omega) (by omega) (by omega) (by omega) ?_
  obtain ⟨fx, hx0⟩ := iV_0 hI
  refine j_V2 (rm' := rmX7_advance) (pc := 213) dL_law_213 jlL_30 hx0 rfl ⟨Nat.le_of_ble_eq_true rfl, Nat.le_of_ble_eq_true rfl, by show nc + 0 ≤ 600000; omega, by show ns + 0 ≤ 7302250; omega, Nat.le_of_ble_eq_true rfl, Nat.le_of_ble_eq_true rfl⟩ ?_
  refine r_advance hk hG hI (fun v h1 hm KK => ?_)
  obtain ⟨fm, hm⟩ := hm
  show J l G mL_law (nc + 0) (ns + 0) 216 (jLV k) [.int v] h1 Q
  refine j_aload_n (pc := 216) dL_law_216 rfl ?_
  refine jg_i (pc := 217) (q := 5 * k + 1) dL_law_217 dL_law_218 dL_law_219 dL_law_220 dL_law_221 hX rfl rfl (n_k5 k 1) (by omega) (by omega) ?_
  refine jg_l (pc := 222) (q := 5 * k + 2) (q' := 5 * k + 3) dL_law_222 dL_law_223 dL_law_224 dL_law_225 dL_law_226 dL_law_227 dL_law_228 dL_law_230 dL_law_231 dL_law_232 dL_law_233 dL_law_234 dL_law_235 dL_law_236 dL_law_237 dL_law_240 dL_law_241 rfl hX rfl rfl (n_k5 k 2) (n_k5 k 3) (by omega) (by omega) (by omega) (by omega) ?_
  refine j_V2 (rm' := rmX8_advance) (pc := 242) dL_law_242 jlL_34 hm rfl ⟨Nat.le_of_ble_eq_true rfl, Nat.le_of_ble_eq_true rfl, by show nc + 0 + 0 ≤ 600000; omega, by show ns + 0 + 0 ≤ 7302250; omega, Nat.le_of_ble_eq_true rfl, Nat.le_of_ble_eq_true rfl⟩ ?_
  refine KK _ (fun h2 hI2 => ?_)
  show J l G mL_law (nc + 0 + 0) (ns + 0 + 0) 245 (jLV k) [.int v, .int v] h2 Q
  refine j_icmp_eq (pc := 245) (tgt := 823) dL_law_245 (by decide) (fun _ => ?_) (fun z => absurd rfl z)
  exact K h2 _ _ hI2 (by omega) (by omega)

set_option maxRecDepth 20000 in
theorem g_trip {l : Launch} {G : jG} {h : jH} {Q : Option Value → jH → Prop} {k L nc ns : Nat} {xs : Nat → Int32} (hk : k < 512) (hLq : 5 * k + 5 ≤ L) (hL : L ≤ 2560) (hG : j_gok G) (hX : jX0 G L xs) (hI : iV k h) (hn1 : nc + 100 ≤ 600000) (hn2 : ns + 1000 ≤ 7302250) (K : ∀ (h2 : jH) (nc2 ns2 : Nat), iV (k + 1) h2 → nc2 ≤ nc + 20 → ns2 ≤ ns + 200 → J l G mL_law nc2 ns2 823 (jLV k) [] h2 Q) : J l G mL_law nc ns 250 (jLV k) [] h Q := by
  refine j_aload_n (pc := 250) dL_law_250 rfl ?_
  refine jg_i (pc := 251) (q := 5 * k + 1) dL_law_251 dL_law_252 dL_law_253 dL_law_254 dL_law_255 hX rfl rfl (n_k5 k 1) (by omega) (by omega) ?_
  refine jg_l (pc := 256) (q := 5 * k + 2) (q' := 5 * k + 3) dL_law_256 dL_law_257 dL_law_258 dL_law_259 dL_law_260 dL_law_261 dL_law_262 dL_law_264 dL_law_265 dL_law_266 dL_law_267 dL_law_268 dL_law_269 dL_law_270 dL_law_271 dL_law_274 dL_law_275 rfl hX rfl rfl (n_k5 k 2) (n_k5 k 3) (by omega) (by omega) (by omega) (by omega) ?_
  obtain ⟨fx, hx0⟩ := iV_0 hI
  refine j_V2 (rm' := rmX7_trip) (pc := 276) dL_law_276 jlL_35 hx0 rfl ⟨Nat.le_of_ble_eq_true rfl, Nat.le_of_ble_eq_true rfl, by show nc + 9 ≤ 600000; omega, by show ns + 87 ≤ 7302250; omega, Nat.le_of_ble_eq_true rfl, Nat.le_of_ble_eq_true rfl⟩ ?_
  refine r_trip hk hG hI (fun v h1 hm KK => ?_)
  obtain ⟨fm, hm⟩ := hm
  show J l G mL_law (nc + 9) (ns + 87) 279 (jLV k) [.int v] h1 Q
  refine j_aload_n (pc := 279) dL_law_279 rfl ?_
  refine jg_i (pc := 280) (q := 5 * k + 1) dL_law_280 dL_law_281 dL_law_282 dL_law_283 dL_law_284 hX rfl rfl (n_k5 k 1) (by omega) (by omega) ?_
  refine jg_l (pc := 285) (q := 5 * k + 2) (q' := 5 * k + 3) dL_law_285 dL_law_286 dL_law_287 dL_law_288 dL_law_289 dL_law_290 dL_law_291 dL_law_293 dL_law_294 dL_law_295 dL_law_296 dL_law_297 dL_law_298 dL_law_299 dL_law_300 dL_law_303 dL_law_304 rfl hX rfl rfl (n_k5 k 2) (n_k5 k 3) (by omega) (by omega) (by omega) (by omega) ?_
  refine j_V2 (rm' := rmX8_trip) (pc := 305) dL_law_305 jlL_39 hm rfl ⟨Nat.le_of_ble_eq_true rfl, Nat.le_of_ble_eq_true rfl, by show nc + 9 + 0 ≤ 600000; omega, by show ns + 87 + 0 ≤ 7302250; omega, Nat.le_of_ble_eq_true rfl, Nat.le_of_ble_eq_true rfl⟩ ?_
  refine KK _ (fun h2 hI2 => ?_)
  show J l G mL_law (nc + 9 + 0) (ns + 87 + 0) 308 (jLV k) [.int v, .int v] h2 Q
  refine j_icmp_eq (pc := 308) (tgt := 823) dL_law_308 (by decide) (fun _ => ?_) (fun z => absurd rfl z)
  exact K h2 _ _ hI2 (by omega) (by omega)

set_option maxRecDepth 20000 in
theorem g_cost {l : Launch} {G : jG} {h : jH} {Q : Option Value → jH → Prop} {k L nc ns : Nat} {xs : Nat → Int32} (hk : k < 512) (hLq : 5 * k + 5 ≤ L) (hL : L ≤ 2560) (hG : j_gok G) (hX : jX0 G L xs) (hI : iV k h) (hn1 : nc + 100 ≤ 600000) (hn2 : ns + 1000 ≤ 7302250) (K : ∀ (h2 : jH) (nc2 ns2 : Nat), iV (k + 1) h2 → nc2 ≤ nc + 20 → ns2 ≤ ns + 200 → J l G mL_law nc2 ns2 823 (jLV k) [] h2 Q) : J l G mL_law nc ns 313 (jLV k) [] h Q := by
  refine j_aload_n (pc := 313) dL_law_313 rfl ?_
  refine jg_i (pc := 314) (q := 5 * k + 1) dL_law_314 dL_law_315 dL_law_316 dL_law_317 dL_law_318 hX rfl rfl (n_k5 k 1) (by omega) (by omega) ?_
  refine jg_i (pc := 319) (q := 5 * k + 2) dL_law_319 dL_law_320 dL_law_321 dL_law_322 dL_law_323 hX rfl rfl (n_k5 k 2) (by omega) (by omega) ?_
  refine jg_l (pc := 324) (q := 5 * k + 3) (q' := 5 * k + 4) dL_law_324 dL_law_325 dL_law_326 dL_law_327 dL_law_328 dL_law_329 dL_law_330 dL_law_332 dL_law_333 dL_law_334 dL_law_335 dL_law_336 dL_law_337 dL_law_338 dL_law_339 dL_law_342 dL_law_343 rfl hX rfl rfl (n_k5 k 3) (n_k5 k 4) (by omega) (by omega) (by omega) (by omega) ?_
  obtain ⟨fx, hx0⟩ := iV_0 hI
  refine j_V3 (rm' := rmX7_cost) (pc := 344) dL_law_344 jlL_40 hx0 rfl ⟨Nat.le_of_ble_eq_true rfl, Nat.le_of_ble_eq_true rfl, by show nc + 0 ≤ 600000; omega, by show ns + 0 ≤ 7302250; omega, Nat.le_of_ble_eq_true rfl, Nat.le_of_ble_eq_true rfl⟩ ?_
  refine r_cost hk hG hI (fun v h1 hm KK => ?_)
  obtain ⟨fm, hm⟩ := hm
  show J l G mL_law (nc + 0) (ns + 0) 347 (jLV k) [.int v] h1 Q
  refine j_aload_n (pc := 347) dL_law_347 rfl ?_
  refine jg_i (pc := 348) (q := 5 * k + 1) dL_law_348 dL_law_349 dL_law_350 dL_law_351 dL_law_352 hX rfl rfl (n_k5 k 1) (by omega) (by omega) ?_
  refine jg_i (pc := 353) (q := 5 * k + 2) dL_law_353 dL_law_354 dL_law_355 dL_law_356 dL_law_357 hX rfl rfl (n_k5 k 2) (by omega) (by omega) ?_
  refine jg_l (pc := 358) (q := 5 * k + 3) (q' := 5 * k + 4) dL_law_358 dL_law_359 dL_law_360 dL_law_361 dL_law_362 dL_law_363 dL_law_364 dL_law_366 dL_law_367 dL_law_368 dL_law_369 dL_law_370 dL_law_371 dL_law_372 dL_law_373 dL_law_376 dL_law_377 rfl hX rfl rfl (n_k5 k 3) (n_k5 k 4) (by omega) (by omega) (by omega) (by omega) ?_
  refine j_V3 (rm' := rmX8_cost) (pc := 378) dL_law_378 jlL_44 hm rfl ⟨Nat.le_of_ble_eq_true rfl, Nat.le_of_ble_eq_true rfl, by show nc + 0 + 0 ≤ 600000; omega, by show ns + 0 + 0 ≤ 7302250; omega, Nat.le_of_ble_eq_true rfl, Nat.le_of_ble_eq_true rfl⟩ ?_
  refine KK _ (fun h2 hI2 => ?_)
  show J l G mL_law (nc + 0 + 0) (ns + 0 + 0) 381 (jLV k) [.int v, .int v] h2 Q
  refine j_icmp_eq (pc := 381) (tgt := 823) dL_law_381 (by decide) (fun _ => ?_) (fun z => absurd rfl z)
  exact K h2 _ _ hI2 (by omega) (by omega)

set_option maxRecDepth 20000 in
theorem g_days {l : Launch} {G : jG} {h : jH} {Q : Option Value → jH → Prop} {k L nc ns : Nat} {xs : Nat → Int32} (hk : k < 512) (hLq : 5 * k + 5 ≤ L) (hL : L ≤ 2560) (hG : j_gok G) (hX : jX0 G L xs) (hI : iV k h) (hn1 : nc + 100 ≤ 600000) (hn2 : ns + 1000 ≤ 7302250) (K : ∀ (h2 : jH) (nc2 ns2 : Nat), iV (k + 1) h2 → nc2 ≤ nc + 20 → ns2 ≤ ns + 200 → J l G mL_law nc2 ns2 823 (jLV k) [] h2 Q) : J l G mL_law nc ns 386 (jLV k) [] h Q := by
  refine j_aload_n (pc := 386) dL_law_386 rfl ?_
  refine jg_i (pc := 387) (q := 5 * k + 1) dL_law_387 dL_law_388 dL_law_389 dL_law_390 dL_law_391 hX rfl rfl (n_k5 k 1) (by omega) (by omega) ?_
  refine jg_i (pc := 392) (q := 5 * k + 2) dL_law_392 dL_law_393 dL_law_394 dL_law_395 dL_law_396 hX rfl rfl (n_k5 k 2) (by omega) (by omega) ?_
  refine jg_i (pc := 397) (q := 5 * k + 3) dL_law_397 dL_law_398 dL_law_399 dL_law_400 dL_law_401 hX rfl rfl (n_k5 k 3) (by omega) (by omega) ?_
  obtain ⟨fx, hx0⟩ := iV_0 hI
  refine j_V3 (rm' := rmX7_days) (pc := 402) dL_law_402 jlL_45 hx0 rfl ⟨Nat.le_of_ble_eq_true rfl, Nat.le_of_ble_eq_true rfl, by show nc + 0 ≤ 600000; omega, by show ns + 0 ≤ 7302250; omega, Nat.le_of_ble_eq_true rfl, Nat.le_of_ble_eq_true rfl⟩ ?_
  refine r_days hk hG hI (fun v h1 hm KK => ?_)
  obtain ⟨fm, hm⟩ := hm
  show J l G mL_law (nc + 0) (ns + 0) 405 (jLV k) [.int v] h1 Q
  refine j_aload_n (pc := 405) dL_law_405 rfl ?_
  refine jg_i (pc := 406) (q := 5 * k + 1) dL_law_406 dL_law_407 dL_law_408 dL_law_409 dL_law_410 hX rfl rfl (n_k5 k 1) (by omega) (by omega) ?_
  refine jg_i (pc := 411) (q := 5 * k + 2) dL_law_411 dL_law_412 dL_law_413 dL_law_414 dL_law_415 hX rfl rfl (n_k5 k 2) (by omega) (by omega) ?_
  refine jg_i (pc := 416) (q := 5 * k + 3) dL_law_416 dL_law_417 dL_law_418 dL_law_419 dL_law_420 hX rfl rfl (n_k5 k 3) (by omega) (by omega) ?_
  refine j_V3 (rm' := rmX8_days) (pc := 421) dL_law_421 jlL_49 hm rfl ⟨Nat.le_of_ble_eq_true rfl, Nat.le_of_ble_eq_true rfl, by show nc + 0 + 0 ≤ 600000; omega, by show ns + 0 + 0 ≤ 7302250; omega, Nat.le_of_ble_eq_true rfl, Nat.le_of_ble_eq_true rfl⟩ ?_
  refine KK _ (fun h2 hI2 => ?_)
  show J l G mL_law (nc + 0 + 0) (ns + 0 + 0) 424 (jLV k) [.int v, .int v] h2 Q
  refine j_icmp_eq (pc := 424) (tgt := 823) dL_law_424 (by decide) (fun _ => ?_) (fun z => absurd rfl z)
  exact K h2 _ _ hI2 (by omega) (by omega)

set_option maxRecDepth 20000 in
theorem g_settle {l : Launch} {G : jG} {h : jH} {Q : Option Value → jH → Prop} {k L nc ns : Nat} {xs : Nat → Int32} (hk : k < 512) (hLq : 5 * k + 5 ≤ L) (hL : L ≤ 2560) (hG : j_gok G) (hX : jX0 G L xs) (hI : iV k h) (hn1 : nc + 100 ≤ 600000) (hn2 : ns + 1000 ≤ 7302250) (K : ∀ (h2 : jH) (nc2 ns2 : Nat), iV (k + 1) h2 → nc2 ≤ nc + 20 → ns2 ≤ ns + 200 → J l G mL_law nc2 ns2 823 (jLV k) [] h2 Q) : J l G mL_law nc ns 429 (jLV k) [] h Q := by
  refine j_aload_n (pc := 429) dL_law_429 rfl ?_
  refine jg_i (pc := 430) (q := 5 * k + 1) dL_law_430 dL_law_431 dL_law_432 dL_law_433 dL_law_434 hX rfl rfl (n_k5 k 1) (by omega) (by omega) ?_
  obtain ⟨fx, hx0⟩ := iV_0 hI
  refine j_V1 (rm' := rmX7_settle) (pc := 435) dL_law_435 jlL_50 hx0 rfl ⟨Nat.le_of_ble_eq_true rfl, Nat.le_of_ble_eq_true rfl, by show nc + 0 ≤ 600000; omega, by show ns + 0 ≤ 7302250; omega, Nat.le_of_ble_eq_true rfl, Nat.le_of_ble_eq_true rfl⟩ ?_
  refine r_settle hk hG hI (fun v h1 hm KK => ?_)
  obtain ⟨fm, hm⟩ := hm
  show J l G mL_law (nc + 0) (ns + 0) 438 (jLV k) [.int v] h1 Q
  refine j_aload_n (pc := 438) dL_law_438 rfl ?_
  refine jg_i (pc := 439) (q := 5 * k + 1) dL_law_439 dL_law_440 dL_law_441 dL_law_442 dL_law_443 hX rfl rfl (n_k5 k 1) (by omega) (by omega) ?_
  refine j_V1 (rm' := rmX8_settle) (pc := 444) dL_law_444 jlL_53 hm rfl ⟨Nat.le_of_ble_eq_true rfl, Nat.le_of_ble_eq_true rfl, by show nc + 0 + 0 ≤ 600000; omega, by show ns + 0 + 0 ≤ 7302250; omega, Nat.le_of_ble_eq_true rfl, Nat.le_of_ble_eq_true rfl⟩ ?_
  refine KK _ (fun h2 hI2 => ?_)
  show J l G mL_law (nc + 0 + 0) (ns + 0 + 0) 447 (jLV k) [.int v, .int v] h2 Q
  refine j_icmp_eq (pc := 447) (tgt := 823) dL_law_447 (by decide) (fun _ => ?_) (fun z => absurd rfl z)
  exact K h2 _ _ hI2 (by omega) (by omega)

set_option maxRecDepth 20000 in
theorem g_part {l : Launch} {G : jG} {h : jH} {Q : Option Value → jH → Prop} {k L nc ns : Nat} {xs : Nat → Int32} (hk : k < 512) (hLq : 5 * k + 5 ≤ L) (hL : L ≤ 2560) (hG : j_gok G) (hX : jX0 G L xs) (hI : iV k h) (hn1 : nc + 100 ≤ 600000) (hn2 : ns + 1000 ≤ 7302250) (K : ∀ (h2 : jH) (nc2 ns2 : Nat), iV (k + 1) h2 → nc2 ≤ nc + 20 → ns2 ≤ ns + 200 → J l G mL_law nc2 ns2 823 (jLV k) [] h2 Q) : J l G mL_law nc ns 452 (jLV k) [] h Q := by
  refine j_aload_n (pc := 452) dL_law_452 rfl ?_
  refine jg_i (pc := 453) (q := 5 * k + 1) dL_law_453 dL_law_454 dL_law_455 dL_law_456 dL_law_457 hX rfl rfl (n_k5 k 1) (by omega) (by omega) ?_
  refine jg_i (pc := 458) (q := 5 * k + 2) dL_law_458 dL_law_459 dL_law_460 dL_law_461 dL_law_462 hX rfl rfl (n_k5 k 2) (by omega) (by omega) ?_
  obtain ⟨fx, hx0⟩ := iV_0 hI
  refine j_V2 (rm' := rmX7_part) (pc := 463) dL_law_463 jlL_54 hx0 rfl ⟨Nat.le_of_ble_eq_true rfl, Nat.le_of_ble_eq_true rfl, by show nc + 0 ≤ 600000; omega, by show ns + 0 ≤ 7302250; omega, Nat.le_of_ble_eq_true rfl, Nat.le_of_ble_eq_true rfl⟩ ?_
  refine r_part hk hG hI (fun v h1 hm KK => ?_)
  obtain ⟨fm, hm⟩ := hm
  show J l G mL_law (nc + 0) (ns + 0) 466 (jLV k) [.long v] h1 Q
  refine j_aload_n (pc := 466) dL_law_466 rfl ?_
  refine jg_i (pc := 467) (q := 5 * k + 1) dL_law_467 dL_law_468 dL_law_469 dL_law_470 dL_law_471 hX rfl rfl (n_k5 k 1) (by omega) (by omega) ?_
  refine jg_i (pc := 472) (q := 5 * k + 2) dL_law_472 dL_law_473 dL_law_474 dL_law_475 dL_law_476 hX rfl rfl (n_k5 k 2) (by omega) (by omega) ?_
  refine j_V2 (rm' := rmX8_part) (pc := 477) dL_law_477 jlL_58 hm rfl ⟨Nat.le_of_ble_eq_true rfl, Nat.le_of_ble_eq_true rfl, by show nc + 0 + 0 ≤ 600000; omega, by show ns + 0 + 0 ≤ 7302250; omega, Nat.le_of_ble_eq_true rfl, Nat.le_of_ble_eq_true rfl⟩ ?_
  refine KK _ (fun h2 hI2 => ?_)
  show J l G mL_law (nc + 0 + 0) (ns + 0 + 0) 480 (jLV k) [.long v, .long v] h2 Q
  refine j_lc_eq (pc := 480) (tgt := 823) dL_law_480 dL_law_481 (by decide) (fun _ => ?_) (fun z => absurd rfl z)
  exact K h2 _ _ hI2 (by omega) (by omega)

set_option maxRecDepth 20000 in
theorem g_share {l : Launch} {G : jG} {h : jH} {Q : Option Value → jH → Prop} {k L nc ns : Nat} {xs : Nat → Int32} (hk : k < 512) (hLq : 5 * k + 5 ≤ L) (hL : L ≤ 2560) (hG : j_gok G) (hX : jX0 G L xs) (hI : iV k h) (hn1 : nc + 100 ≤ 600000) (hn2 : ns + 1000 ≤ 7302250) (K : ∀ (h2 : jH) (nc2 ns2 : Nat), iV (k + 1) h2 → nc2 ≤ nc + 20 → ns2 ≤ ns + 200 → J l G mL_law nc2 ns2 823 (jLV k) [] h2 Q) : J l G mL_law nc ns 486 (jLV k) [] h Q := by
  refine j_aload_n (pc := 486) dL_law_486 rfl ?_
  refine jg_i (pc := 487) (q := 5 * k + 1) dL_law_487 dL_law_488 dL_law_489 dL_law_490 dL_law_491 hX rfl rfl (n_k5 k 1) (by omega) (by omega) ?_
  refine jg_i (pc := 492) (q := 5 * k + 2) dL_law_492 dL_law_493 dL_law_494 dL_law_495 dL_law_496 hX rfl rfl (n_k5 k 2) (by omega) (by omega) ?_
  refine jg_i (pc := 497) (q := 5 * k + 3) dL_law_497 dL_law_498 dL_law_499 dL_law_500 dL_law_501 hX rfl rfl (n_k5 k 3) (by omega) (by omega) ?_
  obtain ⟨fx, hx0⟩ := iV_0 hI
  refine j_V3 (rm' := rmX7_share) (pc := 502) dL_law_502 jlL_59 hx0 rfl ⟨Nat.le_of_ble_eq_true rfl, Nat.le_of_ble_eq_true rfl, by show nc + 0 ≤ 600000; omega, by show ns + 0 ≤ 7302250; omega, Nat.le_of_ble_eq_true rfl, Nat.le_of_ble_eq_true rfl⟩ ?_
  refine r_share hk hG hI (fun v h1 hm KK => ?_)
  obtain ⟨fm, hm⟩ := hm
  show J l G mL_law (nc + 0) (ns + 0) 505 (jLV k) [.long v] h1 Q
  refine j_aload_n (pc := 505) dL_law_505 rfl ?_
  refine jg_i (pc := 506) (q := 5 * k + 1) dL_law_506 dL_law_507 dL_law_508 dL_law_509 dL_law_510 hX rfl rfl (n_k5 k 1) (by omega) (by omega) ?_
  refine jg_i (pc := 511) (q := 5 * k + 2) dL_law_511 dL_law_512 dL_law_513 dL_law_514 dL_law_515 hX rfl rfl (n_k5 k 2) (by omega) (by omega) ?_
  refine jg_i (pc := 516) (q := 5 * k + 3) dL_law_516 dL_law_517 dL_law_518 dL_law_519 dL_law_520 hX rfl rfl (n_k5 k 3) (by omega) (by omega) ?_
  refine j_V3 (rm' := rmX8_share) (pc := 521) dL_law_521 jlL_63 hm rfl ⟨Nat.le_of_ble_eq_true rfl, Nat.le_of_ble_eq_true rfl, by show nc + 0 + 0 ≤ 600000; omega, by show ns + 0 + 0 ≤ 7302250; omega, Nat.le_of_ble_eq_true rfl, Nat.le_of_ble_eq_true rfl⟩ ?_
  refine KK _ (fun h2 hI2 => ?_)
  show J l G mL_law (nc + 0 + 0) (ns + 0 + 0) 524 (jLV k) [.long v, .long v] h2 Q
  refine j_lc_eq (pc := 524) (tgt := 823) dL_law_524 dL_law_525 (by decide) (fun _ => ?_) (fun z => absurd rfl z)
  exact K h2 _ _ hI2 (by omega) (by omega)

set_option maxRecDepth 20000 in
theorem g_carried {l : Launch} {G : jG} {h : jH} {Q : Option Value → jH → Prop} {k L nc ns : Nat} {xs : Nat → Int32} (hk : k < 512) (hLq : 5 * k + 5 ≤ L) (hL : L ≤ 2560) (hG : j_gok G) (hX : jX0 G L xs) (hI : iV k h) (hn1 : nc + 100 ≤ 600000) (hn2 : ns + 1000 ≤ 7302250) (K : ∀ (h2 : jH) (nc2 ns2 : Nat), iV (k + 1) h2 → nc2 ≤ nc + 20 → ns2 ≤ ns + 200 → J l G mL_law nc2 ns2 823 (jLV k) [] h2 Q) : J l G mL_law nc ns 530 (jLV k) [] h Q := by
  refine j_aload_n (pc := 530) dL_law_530 rfl ?_
  refine jg_i (pc := 531) (q := 5 * k + 1) dL_law_531 dL_law_532 dL_law_533 dL_law_534 dL_law_535 hX rfl rfl (n_k5 k 1) (by omega) (by omega) ?_
  obtain ⟨fx, hx0⟩ := iV_0 hI
  refine j_V1 (rm' := rmX7_carried) (pc := 536) dL_law_536 jlL_64 hx0 rfl ⟨Nat.le_of_ble_eq_true rfl, Nat.le_of_ble_eq_true rfl, by show nc + 0 ≤ 600000; omega, by show ns + 0 ≤ 7302250; omega, Nat.le_of_ble_eq_true rfl, Nat.le_of_ble_eq_true rfl⟩ ?_
  refine r_carried hk hG hI (fun v h1 hm KK => ?_)
  obtain ⟨fm, hm⟩ := hm
  show J l G mL_law (nc + 0) (ns + 0) 539 (jLV k) [.long v] h1 Q
  refine j_aload_n (pc := 539) dL_law_539 rfl ?_
  refine jg_i (pc := 540) (q := 5 * k + 1) dL_law_540 dL_law_541 dL_law_542 dL_law_543 dL_law_544 hX rfl rfl (n_k5 k 1) (by omega) (by omega) ?_
  refine j_V1 (rm' := rmX8_carried) (pc := 545) dL_law_545 jlL_68 hm rfl ⟨Nat.le_of_ble_eq_true rfl, Nat.le_of_ble_eq_true rfl, by show nc + 0 + 0 ≤ 600000; omega, by show ns + 0 + 0 ≤ 7302250; omega, Nat.le_of_ble_eq_true rfl, Nat.le_of_ble_eq_true rfl⟩ ?_
  refine KK _ (fun h2 hI2 => ?_)
  show J l G mL_law (nc + 0 + 0) (ns + 0 + 0) 548 (jLV k) [.long v, .long v] h2 Q
  refine j_lc_eq (pc := 548) (tgt := 823) dL_law_548 dL_law_549 (by decide) (fun _ => ?_) (fun z => absurd rfl z)
  exact K h2 _ _ hI2 (by omega) (by omega)

set_option maxRecDepth 20000 in
theorem g_sums {l : Launch} {G : jG} {h : jH} {Q : Option Value → jH → Prop} {k L nc ns : Nat} {xs : Nat → Int32} (hk : k < 512) (hLq : 5 * k + 5 ≤ L) (hL : L ≤ 2560) (hG : j_gok G) (hX : jX0 G L xs) (hI : iV k h) (hn1 : nc + 100 ≤ 600000) (hn2 : ns + 1000 ≤ 7302250) (K : ∀ (h2 : jH) (nc2 ns2 : Nat), iV (k + 1) h2 → nc2 ≤ nc + 20 → ns2 ≤ ns + 200 → J l G mL_law nc2 ns2 823 (jLV k) [] h2 Q) : J l G mL_law nc ns 554 (jLV k) [] h Q := by
  refine j_aload_n (pc := 554) dL_law_554 rfl ?_
  refine jg_i (pc := 555) (q := 5 * k + 1) dL_law_555 dL_law_556 dL_law_557 dL_law_558 dL_law_559 hX rfl rfl (n_k5 k 1) (by omega) (by omega) ?_
  obtain ⟨fx, hx0⟩ := iV_0 hI
  refine j_V1 (rm' := rmX7_sums) (pc := 560) dL_law_560 jlL_69 hx0 rfl ⟨Nat.le_of_ble_eq_true rfl, Nat.le_of_ble_eq_true rfl, by show nc + 0 ≤ 600000; omega, by show ns + 0 ≤ 7302250; omega, Nat.le_of_ble_eq_true rfl, Nat.le_of_ble_eq_true rfl⟩ ?_
  refine r_sums hk hG hI (fun v h1 hm KK => ?_)
  obtain ⟨fm, hm⟩ := hm
  show J l G mL_law (nc + 0) (ns + 0) 563 (jLV k) [.int v] h1 Q
  refine j_aload_n (pc := 563) dL_law_563 rfl ?_
  refine jg_i (pc := 564) (q := 5 * k + 1) dL_law_564 dL_law_565 dL_law_566 dL_law_567 dL_law_568 hX rfl rfl (n_k5 k 1) (by omega) (by omega) ?_
  refine j_V1 (rm' := rmX8_sums) (pc := 569) dL_law_569 jlL_72 hm rfl ⟨Nat.le_of_ble_eq_true rfl, Nat.le_of_ble_eq_true rfl, by show nc + 0 + 0 ≤ 600000; omega, by show ns + 0 + 0 ≤ 7302250; omega, Nat.le_of_ble_eq_true rfl, Nat.le_of_ble_eq_true rfl⟩ ?_
  refine KK _ (fun h2 hI2 => ?_)
  show J l G mL_law (nc + 0 + 0) (ns + 0 + 0) 572 (jLV k) [.int v, .int v] h2 Q
  refine j_icmp_eq (pc := 572) (tgt := 823) dL_law_572 (by decide) (fun _ => ?_) (fun z => absurd rfl z)
  exact K h2 _ _ hI2 (by omega) (by omega)

set_option maxRecDepth 20000 in
theorem g_open {l : Launch} {G : jG} {h : jH} {Q : Option Value → jH → Prop} {k L nc ns : Nat} {xs : Nat → Int32} (hk : k < 512) (hLq : 5 * k + 5 ≤ L) (hL : L ≤ 2560) (hG : j_gok G) (hX : jX0 G L xs) (hI : iV k h) (hn1 : nc + 100 ≤ 600000) (hn2 : ns + 1000 ≤ 7302250) (K : ∀ (h2 : jH) (nc2 ns2 : Nat), iV (k + 1) h2 → nc2 ≤ nc + 20 → ns2 ≤ ns + 200 → J l G mL_law nc2 ns2 823 (jLV k) [] h2 Q) : J l G mL_law nc ns 577 (jLV k) [] h Q := by
  refine j_aload_n (pc := 577) dL_law_577 rfl ?_
  refine jg_i (pc := 578) (q := 5 * k + 1) dL_law_578 dL_law_579 dL_law_580 dL_law_581 dL_law_582 hX rfl rfl (n_k5 k 1) (by omega) (by omega) ?_
  obtain ⟨fx, hx0⟩ := iV_0 hI
  refine j_V1 (rm' := rmX7_open) (pc := 583) dL_law_583 jlL_73 hx0 rfl ⟨Nat.le_of_ble_eq_true rfl, Nat.le_of_ble_eq_true rfl, by show nc + 0 ≤ 600000; omega, by show ns + 0 ≤ 7302250; omega, Nat.le_of_ble_eq_true rfl, Nat.le_of_ble_eq_true rfl⟩ ?_
  refine r_open hk hG hI (fun v h1 hm KK => ?_)
  obtain ⟨fm, hm⟩ := hm
  show J l G mL_law (nc + 0) (ns + 0) 586 (jLV k) [.int v] h1 Q
  refine j_aload_n (pc := 586) dL_law_586 rfl ?_
  refine jg_i (pc := 587) (q := 5 * k + 1) dL_law_587 dL_law_588 dL_law_589 dL_law_590 dL_law_591 hX rfl rfl (n_k5 k 1) (by omega) (by omega) ?_
  refine j_V1 (rm' := rmX8_open) (pc := 592) dL_law_592 jlL_76 hm rfl ⟨Nat.le_of_ble_eq_true rfl, Nat.le_of_ble_eq_true rfl, by show nc + 0 + 0 ≤ 600000; omega, by show ns + 0 + 0 ≤ 7302250; omega, Nat.le_of_ble_eq_true rfl, Nat.le_of_ble_eq_true rfl⟩ ?_
  refine KK _ (fun h2 hI2 => ?_)
  show J l G mL_law (nc + 0 + 0) (ns + 0 + 0) 595 (jLV k) [.int v, .int v] h2 Q
  refine j_icmp_eq (pc := 595) (tgt := 823) dL_law_595 (by decide) (fun _ => ?_) (fun z => absurd rfl z)
  exact K h2 _ _ hI2 (by omega) (by omega)

set_option maxRecDepth 20000 in
theorem g_row {l : Launch} {G : jG} {h : jH} {Q : Option Value → jH → Prop} {k L nc ns : Nat} {xs : Nat → Int32} (hk : k < 512) (hLq : 5 * k + 5 ≤ L) (hL : L ≤ 2560) (hG : j_gok G) (hX : jX0 G L xs) (hI : iV k h) (hn1 : nc + 100 ≤ 600000) (hn2 : ns + 1000 ≤ 7302250) (K : ∀ (h2 : jH) (nc2 ns2 : Nat), iV (k + 1) h2 → nc2 ≤ nc + 20 → ns2 ≤ ns + 200 → J l G mL_law nc2 ns2 823 (jLV k) [] h2 Q) : J l G mL_law nc ns 600 (jLV k) [] h Q := by
  refine j_aload_n (pc := 600) dL_law_600 rfl ?_
  refine jg_i (pc := 601) (q := 5 * k + 1) dL_law_601 dL_law_602 dL_law_603 dL_law_604 dL_law_605 hX rfl rfl (n_k5 k 1) (by omega) (by omega) ?_
  refine jg_l (pc := 606) (q := 5 * k + 2) (q' := 5 * k + 3) dL_law_606 dL_law_607 dL_law_608 dL_law_609 dL_law_610 dL_law_611 dL_law_612 dL_law_614 dL_law_615 dL_law_616 dL_law_617 dL_law_618 dL_law_619 dL_law_620 dL_law_621 dL_law_624 dL_law_625 rfl hX rfl rfl (n_k5 k 2) (n_k5 k 3) (by omega) (by omega) (by omega) (by omega) ?_
  obtain ⟨fx, hx0⟩ := iV_0 hI
  refine j_V2 (rm' := rmX7_row) (pc := 626) dL_law_626 jlL_77 hx0 rfl ⟨Nat.le_of_ble_eq_true rfl, Nat.le_of_ble_eq_true rfl, by show nc + 0 ≤ 600000; omega, by show ns + 0 ≤ 7302250; omega, Nat.le_of_ble_eq_true rfl, Nat.le_of_ble_eq_true rfl⟩ ?_
  refine r_row hk hG hI (fun v h1 hm KK => ?_)
  obtain ⟨fm, hm⟩ := hm
  show J l G mL_law (nc + 0) (ns + 0) 629 (jLV k) [.int v] h1 Q
  refine j_aload_n (pc := 629) dL_law_629 rfl ?_
  refine jg_i (pc := 630) (q := 5 * k + 1) dL_law_630 dL_law_631 dL_law_632 dL_law_633 dL_law_634 hX rfl rfl (n_k5 k 1) (by omega) (by omega) ?_
  refine jg_l (pc := 635) (q := 5 * k + 2) (q' := 5 * k + 3) dL_law_635 dL_law_636 dL_law_637 dL_law_638 dL_law_639 dL_law_640 dL_law_641 dL_law_643 dL_law_644 dL_law_645 dL_law_646 dL_law_647 dL_law_648 dL_law_649 dL_law_650 dL_law_653 dL_law_654 rfl hX rfl rfl (n_k5 k 2) (n_k5 k 3) (by omega) (by omega) (by omega) (by omega) ?_
  refine j_V2 (rm' := rmX8_row) (pc := 655) dL_law_655 jlL_80 hm rfl ⟨Nat.le_of_ble_eq_true rfl, Nat.le_of_ble_eq_true rfl, by show nc + 0 + 0 ≤ 600000; omega, by show ns + 0 + 0 ≤ 7302250; omega, Nat.le_of_ble_eq_true rfl, Nat.le_of_ble_eq_true rfl⟩ ?_
  refine KK _ (fun h2 hI2 => ?_)
  show J l G mL_law (nc + 0 + 0) (ns + 0 + 0) 658 (jLV k) [.int v, .int v] h2 Q
  refine j_icmp_eq (pc := 658) (tgt := 823) dL_law_658 (by decide) (fun _ => ?_) (fun z => absurd rfl z)
  exact K h2 _ _ hI2 (by omega) (by omega)

set_option maxRecDepth 20000 in
theorem g_enter {l : Launch} {G : jG} {h : jH} {Q : Option Value → jH → Prop} {k L nc ns : Nat} {xs : Nat → Int32} (hk : k < 512) (hLq : 5 * k + 5 ≤ L) (hL : L ≤ 2560) (hG : j_gok G) (hX : jX0 G L xs) (hI : iV k h) (hn1 : nc + 100 ≤ 600000) (hn2 : ns + 1000 ≤ 7302250) (K : ∀ (h2 : jH) (nc2 ns2 : Nat), iV (k + 1) h2 → nc2 ≤ nc + 20 → ns2 ≤ ns + 200 → J l G mL_law nc2 ns2 823 (jLV k) [] h2 Q) : J l G mL_law nc ns 663 (jLV k) [] h Q := by
  refine j_aload_n (pc := 663) dL_law_663 rfl ?_
  obtain ⟨fx, hx0⟩ := iV_0 hI
  refine j_V0 (rm' := rmX7_enter) (pc := 664) dL_law_664 jlL_81 hx0 rfl ⟨Nat.le_of_ble_eq_true rfl, Nat.le_of_ble_eq_true rfl, by show nc + 3 ≤ 600000; omega, by show ns + 22 ≤ 7302250; omega, Nat.le_of_ble_eq_true rfl, Nat.le_of_ble_eq_true rfl⟩ ?_
  refine r_enter hk hG hI (fun v h1 hm KK => ?_)
  obtain ⟨fm, hm⟩ := hm
  show J l G mL_law (nc + 3) (ns + 22) 667 (jLV k) [.int v] h1 Q
  refine j_aload_n (pc := 667) dL_law_667 rfl ?_
  refine j_V0 (rm' := rmX8_enter) (pc := 668) dL_law_668 jlL_84 hm rfl ⟨Nat.le_of_ble_eq_true rfl, Nat.le_of_ble_eq_true rfl, by show nc + 3 + 0 ≤ 600000; omega, by show ns + 22 + 0 ≤ 7302250; omega, Nat.le_of_ble_eq_true rfl, Nat.le_of_ble_eq_true rfl⟩ ?_
  refine KK _ (fun h2 hI2 => ?_)
  show J l G mL_law (nc + 3 + 0) (ns + 22 + 0) 671 (jLV k) [.int v, .int v] h2 Q
  refine j_icmp_eq (pc := 671) (tgt := 823) dL_law_671 (by decide) (fun _ => ?_) (fun z => absurd rfl z)
  exact K h2 _ _ hI2 (by omega) (by omega)

set_option maxRecDepth 20000 in
theorem g_drop {l : Launch} {G : jG} {h : jH} {Q : Option Value → jH → Prop} {k L nc ns : Nat} {xs : Nat → Int32} (hk : k < 512) (hLq : 5 * k + 5 ≤ L) (hL : L ≤ 2560) (hG : j_gok G) (hX : jX0 G L xs) (hI : iV k h) (hn1 : nc + 100 ≤ 600000) (hn2 : ns + 1000 ≤ 7302250) (K : ∀ (h2 : jH) (nc2 ns2 : Nat), iV (k + 1) h2 → nc2 ≤ nc + 20 → ns2 ≤ ns + 200 → J l G mL_law nc2 ns2 823 (jLV k) [] h2 Q) : J l G mL_law nc ns 676 (jLV k) [] h Q := by
  refine j_aload_n (pc := 676) dL_law_676 rfl ?_
  obtain ⟨fx, hx0⟩ := iV_0 hI
  refine j_V0 (rm' := rmX7_drop) (pc := 677) dL_law_677 jlL_85 hx0 rfl ⟨Nat.le_of_ble_eq_true rfl, Nat.le_of_ble_eq_true rfl, by show nc + 0 ≤ 600000; omega, by show ns + 0 ≤ 7302250; omega, Nat.le_of_ble_eq_true rfl, Nat.le_of_ble_eq_true rfl⟩ ?_
  refine r_drop hk hG hI (fun v h1 hm KK => ?_)
  obtain ⟨fm, hm⟩ := hm
  show J l G mL_law (nc + 0) (ns + 0) 680 (jLV k) [.int v] h1 Q
  refine j_aload_n (pc := 680) dL_law_680 rfl ?_
  refine j_V0 (rm' := rmX8_drop) (pc := 681) dL_law_681 jlL_88 hm rfl ⟨Nat.le_of_ble_eq_true rfl, Nat.le_of_ble_eq_true rfl, by show nc + 0 + 0 ≤ 600000; omega, by show ns + 0 + 0 ≤ 7302250; omega, Nat.le_of_ble_eq_true rfl, Nat.le_of_ble_eq_true rfl⟩ ?_
  refine KK _ (fun h2 hI2 => ?_)
  show J l G mL_law (nc + 0 + 0) (ns + 0 + 0) 684 (jLV k) [.int v, .int v] h2 Q
  refine j_icmp_eq (pc := 684) (tgt := 823) dL_law_684 (by decide) (fun _ => ?_) (fun z => absurd rfl z)
  exact K h2 _ _ hI2 (by omega) (by omega)

set_option maxRecDepth 20000 in
theorem g_closeMonth {l : Launch} {G : jG} {h : jH} {Q : Option Value → jH → Prop} {k L nc ns : Nat} {xs : Nat → Int32} (hk : k < 512) (hLq : 5 * k + 5 ≤ L) (hL : L ≤ 2560) (hG : j_gok G) (hX : jX0 G L xs) (hI : iV k h) (hn1 : nc + 100 ≤ 600000) (hn2 : ns + 1000 ≤ 7302250) (K : ∀ (h2 : jH) (nc2 ns2 : Nat), iV (k + 1) h2 → nc2 ≤ nc + 20 → ns2 ≤ ns + 200 → J l G mL_law nc2 ns2 823 (jLV k) [] h2 Q) : J l G mL_law nc ns 689 (jLV k) [] h Q := by
  refine j_aload_n (pc := 689) dL_law_689 rfl ?_
  refine jg_i (pc := 690) (q := 5 * k + 1) dL_law_690 dL_law_691 dL_law_692 dL_law_693 dL_law_694 hX rfl rfl (n_k5 k 1) (by omega) (by omega) ?_
  obtain ⟨fx, hx0⟩ := iV_0 hI
  refine j_V1 (rm' := rmX7_closeMonth) (pc := 695) dL_law_695 jlL_89 hx0 rfl ⟨Nat.le_of_ble_eq_true rfl, Nat.le_of_ble_eq_true rfl, by show nc + 0 ≤ 600000; omega, by show ns + 0 ≤ 7302250; omega, Nat.le_of_ble_eq_true rfl, Nat.le_of_ble_eq_true rfl⟩ ?_
  refine r_closeMonth hk hG hI (fun v h1 hm KK => ?_)
  obtain ⟨fm, hm⟩ := hm
  show J l G mL_law (nc + 0) (ns + 0) 698 (jLV k) [.int v] h1 Q
  refine j_aload_n (pc := 698) dL_law_698 rfl ?_
  refine jg_i (pc := 699) (q := 5 * k + 1) dL_law_699 dL_law_700 dL_law_701 dL_law_702 dL_law_703 hX rfl rfl (n_k5 k 1) (by omega) (by omega) ?_
  refine j_V1 (rm' := rmX8_closeMonth) (pc := 704) dL_law_704 jlL_92 hm rfl ⟨Nat.le_of_ble_eq_true rfl, Nat.le_of_ble_eq_true rfl, by show nc + 0 + 0 ≤ 600000; omega, by show ns + 0 + 0 ≤ 7302250; omega, Nat.le_of_ble_eq_true rfl, Nat.le_of_ble_eq_true rfl⟩ ?_
  refine KK _ (fun h2 hI2 => ?_)
  show J l G mL_law (nc + 0 + 0) (ns + 0 + 0) 707 (jLV k) [.int v, .int v] h2 Q
  refine j_icmp_eq (pc := 707) (tgt := 823) dL_law_707 (by decide) (fun _ => ?_) (fun z => absurd rfl z)
  exact K h2 _ _ hI2 (by omega) (by omega)

set_option maxRecDepth 20000 in
theorem g_correct {l : Launch} {G : jG} {h : jH} {Q : Option Value → jH → Prop} {k L nc ns : Nat} {xs : Nat → Int32} (hk : k < 512) (hLq : 5 * k + 5 ≤ L) (hL : L ≤ 2560) (hG : j_gok G) (hX : jX0 G L xs) (hI : iV k h) (hn1 : nc + 100 ≤ 600000) (hn2 : ns + 1000 ≤ 7302250) (K : ∀ (h2 : jH) (nc2 ns2 : Nat), iV (k + 1) h2 → nc2 ≤ nc + 20 → ns2 ≤ ns + 200 → J l G mL_law nc2 ns2 823 (jLV k) [] h2 Q) : J l G mL_law nc ns 712 (jLV k) [] h Q := by
  refine j_aload_n (pc := 712) dL_law_712 rfl ?_
  refine jg_i (pc := 713) (q := 5 * k + 1) dL_law_713 dL_law_714 dL_law_715 dL_law_716 dL_law_717 hX rfl rfl (n_k5 k 1) (by omega) (by omega) ?_
  refine jg_i (pc := 718) (q := 5 * k + 2) dL_law_718 dL_law_719 dL_law_720 dL_law_721 dL_law_722 hX rfl rfl (n_k5 k 2) (by omega) (by omega) ?_
  obtain ⟨fx, hx0⟩ := iV_0 hI
  refine j_V2 (rm' := rmX7_correct) (pc := 723) dL_law_723 jlL_93 hx0 rfl ⟨Nat.le_of_ble_eq_true rfl, Nat.le_of_ble_eq_true rfl, by show nc + 3 ≤ 600000; omega, by show ns + 22 ≤ 7302250; omega, Nat.le_of_ble_eq_true rfl, Nat.le_of_ble_eq_true rfl⟩ ?_
  refine r_correct hk hG hI (fun v h1 hm KK => ?_)
  obtain ⟨fm, hm⟩ := hm
  show J l G mL_law (nc + 3) (ns + 22) 726 (jLV k) [.int v] h1 Q
  refine j_aload_n (pc := 726) dL_law_726 rfl ?_
  refine jg_i (pc := 727) (q := 5 * k + 1) dL_law_727 dL_law_728 dL_law_729 dL_law_730 dL_law_731 hX rfl rfl (n_k5 k 1) (by omega) (by omega) ?_
  refine jg_i (pc := 732) (q := 5 * k + 2) dL_law_732 dL_law_733 dL_law_734 dL_law_735 dL_law_736 hX rfl rfl (n_k5 k 2) (by omega) (by omega) ?_
  refine j_V2 (rm' := rmX8_correct) (pc := 737) dL_law_737 jlL_97 hm rfl ⟨Nat.le_of_ble_eq_true rfl, Nat.le_of_ble_eq_true rfl, by show nc + 3 + 0 ≤ 600000; omega, by show ns + 22 + 0 ≤ 7302250; omega, Nat.le_of_ble_eq_true rfl, Nat.le_of_ble_eq_true rfl⟩ ?_
  refine KK _ (fun h2 hI2 => ?_)
  show J l G mL_law (nc + 3 + 0) (ns + 22 + 0) 740 (jLV k) [.int v, .int v] h2 Q
  refine j_icmp_eq (pc := 740) (tgt := 823) dL_law_740 (by decide) (fun _ => ?_) (fun z => absurd rfl z)
  exact K h2 _ _ hI2 (by omega) (by omega)

set_option maxRecDepth 20000 in
theorem g_balance {l : Launch} {G : jG} {h : jH} {Q : Option Value → jH → Prop} {k L nc ns : Nat} {xs : Nat → Int32} (hk : k < 512) (hLq : 5 * k + 5 ≤ L) (hL : L ≤ 2560) (hG : j_gok G) (hX : jX0 G L xs) (hI : iV k h) (hn1 : nc + 100 ≤ 600000) (hn2 : ns + 1000 ≤ 7302250) (K : ∀ (h2 : jH) (nc2 ns2 : Nat), iV (k + 1) h2 → nc2 ≤ nc + 20 → ns2 ≤ ns + 200 → J l G mL_law nc2 ns2 823 (jLV k) [] h2 Q) : J l G mL_law nc ns 745 (jLV k) [] h Q := by
  refine j_aload_n (pc := 745) dL_law_745 rfl ?_
  refine jg_i (pc := 746) (q := 5 * k + 1) dL_law_746 dL_law_747 dL_law_748 dL_law_749 dL_law_750 hX rfl rfl (n_k5 k 1) (by omega) (by omega) ?_
  refine jg_i (pc := 751) (q := 5 * k + 2) dL_law_751 dL_law_752 dL_law_753 dL_law_754 dL_law_755 hX rfl rfl (n_k5 k 2) (by omega) (by omega) ?_
  obtain ⟨fx, hx0⟩ := iV_0 hI
  refine j_V2 (rm' := rmX7_balance) (pc := 756) dL_law_756 jlL_98 hx0 rfl ⟨Nat.le_of_ble_eq_true rfl, Nat.le_of_ble_eq_true rfl, by show nc + 0 ≤ 600000; omega, by show ns + 0 ≤ 7302250; omega, Nat.le_of_ble_eq_true rfl, Nat.le_of_ble_eq_true rfl⟩ ?_
  refine r_balance hk hG hI (fun v h1 hm KK => ?_)
  obtain ⟨fm, hm⟩ := hm
  show J l G mL_law (nc + 0) (ns + 0) 759 (jLV k) [.long v] h1 Q
  refine j_aload_n (pc := 759) dL_law_759 rfl ?_
  refine jg_i (pc := 760) (q := 5 * k + 1) dL_law_760 dL_law_761 dL_law_762 dL_law_763 dL_law_764 hX rfl rfl (n_k5 k 1) (by omega) (by omega) ?_
  refine jg_i (pc := 765) (q := 5 * k + 2) dL_law_765 dL_law_766 dL_law_767 dL_law_768 dL_law_769 hX rfl rfl (n_k5 k 2) (by omega) (by omega) ?_
  refine j_V2 (rm' := rmX8_balance) (pc := 770) dL_law_770 jlL_101 hm rfl ⟨Nat.le_of_ble_eq_true rfl, Nat.le_of_ble_eq_true rfl, by show nc + 0 + 0 ≤ 600000; omega, by show ns + 0 + 0 ≤ 7302250; omega, Nat.le_of_ble_eq_true rfl, Nat.le_of_ble_eq_true rfl⟩ ?_
  refine KK _ (fun h2 hI2 => ?_)
  show J l G mL_law (nc + 0 + 0) (ns + 0 + 0) 773 (jLV k) [.long v, .long v] h2 Q
  refine j_lc_eq (pc := 773) (tgt := 823) dL_law_773 dL_law_774 (by decide) (fun _ => ?_) (fun z => absurd rfl z)
  exact K h2 _ _ hI2 (by omega) (by omega)

set_option maxRecDepth 20000 in
theorem g_entry {l : Launch} {G : jG} {h : jH} {Q : Option Value → jH → Prop} {k L nc ns : Nat} {xs : Nat → Int32} (hk : k < 512) (hLq : 5 * k + 5 ≤ L) (hL : L ≤ 2560) (hG : j_gok G) (hX : jX0 G L xs) (hI : iV k h) (hn1 : nc + 100 ≤ 600000) (hn2 : ns + 1000 ≤ 7302250) (K : ∀ (h2 : jH) (nc2 ns2 : Nat), iV (k + 1) h2 → nc2 ≤ nc + 20 → ns2 ≤ ns + 200 → J l G mL_law nc2 ns2 823 (jLV k) [] h2 Q) : J l G mL_law nc ns 779 (jLV k) [] h Q := by
  refine j_aload_n (pc := 779) dL_law_779 rfl ?_
  refine jg_i (pc := 780) (q := 5 * k + 1) dL_law_780 dL_law_781 dL_law_782 dL_law_783 dL_law_784 hX rfl rfl (n_k5 k 1) (by omega) (by omega) ?_
  refine jg_i (pc := 785) (q := 5 * k + 2) dL_law_785 dL_law_786 dL_law_787 dL_law_788 dL_law_789 hX rfl rfl (n_k5 k 2) (by omega) (by omega) ?_
  refine jg_i (pc := 790) (q := 5 * k + 3) dL_law_790 dL_law_791 dL_law_792 dL_law_793 dL_law_794 hX rfl rfl (n_k5 k 3) (by omega) (by omega) ?_
  obtain ⟨fx, hx0⟩ := iV_0 hI
  refine j_V3 (rm' := rmX7_entry) (pc := 795) dL_law_795 jlL_102 hx0 rfl ⟨Nat.le_of_ble_eq_true rfl, Nat.le_of_ble_eq_true rfl, by show nc + 0 ≤ 600000; omega, by show ns + 0 ≤ 7302250; omega, Nat.le_of_ble_eq_true rfl, Nat.le_of_ble_eq_true rfl⟩ ?_
  refine r_entry hk hG hI (fun v h1 hm KK => ?_)
  obtain ⟨fm, hm⟩ := hm
  show J l G mL_law (nc + 0) (ns + 0) 798 (jLV k) [.long v] h1 Q
  refine j_aload_n (pc := 798) dL_law_798 rfl ?_
  refine jg_i (pc := 799) (q := 5 * k + 1) dL_law_799 dL_law_800 dL_law_801 dL_law_802 dL_law_803 hX rfl rfl (n_k5 k 1) (by omega) (by omega) ?_
  refine jg_i (pc := 804) (q := 5 * k + 2) dL_law_804 dL_law_805 dL_law_806 dL_law_807 dL_law_808 hX rfl rfl (n_k5 k 2) (by omega) (by omega) ?_
  refine jg_i (pc := 809) (q := 5 * k + 3) dL_law_809 dL_law_810 dL_law_811 dL_law_812 dL_law_813 hX rfl rfl (n_k5 k 3) (by omega) (by omega) ?_
  refine j_V3 (rm' := rmX8_entry) (pc := 814) dL_law_814 jlL_105 hm rfl ⟨Nat.le_of_ble_eq_true rfl, Nat.le_of_ble_eq_true rfl, by show nc + 0 + 0 ≤ 600000; omega, by show ns + 0 + 0 ≤ 7302250; omega, Nat.le_of_ble_eq_true rfl, Nat.le_of_ble_eq_true rfl⟩ ?_
  refine KK _ (fun h2 hI2 => ?_)
  show J l G mL_law (nc + 0 + 0) (ns + 0 + 0) 817 (jLV k) [.long v, .long v] h2 Q
  refine j_lc_eq (pc := 817) (tgt := 823) dL_law_817 dL_law_818 (by decide) (fun _ => ?_) (fun z => absurd rfl z)
  exact K h2 _ _ hI2 (by omega) (by omega)
