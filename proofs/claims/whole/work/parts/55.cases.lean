set_option maxHeartbeats 1000000 in
theorem lc_told {O : OmT} {F : PhT} {rt : Option FieldType} (C : cL O F rt) {L i : Nat} {xs : Nat → Int32} (S : scr O F L xs) (hi : i + 3 < L) (k : ∀ (V : Mem) (s : St), CR V s → MR V s → okS s → JL O F V 771 (LV i) []) {V : Mem} {g : Nat → Int} {r : Rt} (hR : CR V (g, r)) (hM : MR V (g, r)) (os : okS (g, r)) : JL O F V 132 (LV i) [] := by
  refine l_aload_n C dL_law_132 rfl ?_
  refine l_arg (k := 1) C S dL_law_133 dL_law_134 dL_law_135 dL_law_136 dL_law_137 (by omega) ?_
  refine l_call (st := []) (as := [si (xs (i + 1)).toInt]) (b := 0) C (kX5_told hR os (xs (i + 1)).toInt (i32_rg _)) gv_X5_told sgX5_told rfl ⟨Nat.le_of_ble_eq_true rfl, Nat.le_of_ble_eq_true rfl⟩ (by decide) (en_0 _ _) rfl rfl rfl (Nat.le_of_ble_eq_true rfl) dL_law_138 (fun z1 V1 h1 => ?_)
  obtain ⟨hR1, hh, hz1⟩ := h1
  have hM := MR_hi hM hh
  refine l_aload_n C dL_law_141 rfl ?_
  refine l_arg (k := 1) C S dL_law_142 dL_law_143 dL_law_144 dL_law_145 dL_law_146 (by omega) ?_
  refine l_call (st := [si z1]) (as := [si (xs (i + 1)).toInt]) (b := 72) C (kX6_told hM os (xs (i + 1)).toInt (i32_rg _)) gv_X6_told sgX6_told rfl ⟨Nat.le_of_ble_eq_true rfl, Nat.le_of_ble_eq_true rfl⟩ (by decide) (en_72 _ _) rfl rfl rfl (Nat.le_of_ble_eq_true rfl) dL_law_147 (fun z2 V2 h2 => ?_)
  obtain ⟨hM1, hl2, hz2⟩ := h2
  refine l_same (tgt := 771) C dL_law_150 (by decide) (hz1.trans hz2.symm) ?_
  exact k V2 _ (CR_lo hR1 hl2) hM1 (os)
set_option maxHeartbeats 1000000 in
theorem lc_at {O : OmT} {F : PhT} {rt : Option FieldType} (C : cL O F rt) {L i : Nat} {xs : Nat → Int32} (S : scr O F L xs) (hi : i + 3 < L) (k : ∀ (V : Mem) (s : St), CR V s → MR V s → okS s → JL O F V 771 (LV i) []) {V : Mem} {g : Nat → Int} {r : Rt} (hR : CR V (g, r)) (hM : MR V (g, r)) (os : okS (g, r)) : JL O F V 155 (LV i) [] := by
  refine l_aload_n C dL_law_155 rfl ?_
  refine l_arg (k := 1) C S dL_law_156 dL_law_157 dL_law_158 dL_law_159 dL_law_160 (by omega) ?_
  refine l_arg (k := 2) C S dL_law_161 dL_law_162 dL_law_163 dL_law_164 dL_law_165 (by omega) ?_
  refine l_call (st := []) (as := [si (xs (i + 1)).toInt, si (xs (i + 2)).toInt]) (b := 0) C (kX5_at hR.1 os.1 (xs (i + 1)).toInt (xs (i + 2)).toInt (i32_rg _) (i32_rg _)) gv_X5_at sgX5_at rfl ⟨Nat.le_of_ble_eq_true rfl, Nat.le_of_ble_eq_true rfl⟩ (by decide) (en_0 _ _) rfl rfl rfl (Nat.le_of_ble_eq_true rfl) dL_law_166 (fun z1 V1 h1 => ?_)
  obtain ⟨hf1, hz1⟩ := h1
  obtain ⟨hR1, hh⟩ := q5e hR hf1
  have hM := MR_hi hM hh
  refine l_aload_n C dL_law_169 rfl ?_
  refine l_arg (k := 1) C S dL_law_170 dL_law_171 dL_law_172 dL_law_173 dL_law_174 (by omega) ?_
  refine l_arg (k := 2) C S dL_law_175 dL_law_176 dL_law_177 dL_law_178 dL_law_179 (by omega) ?_
  refine l_call (st := [si z1]) (as := [si (xs (i + 1)).toInt, si (xs (i + 2)).toInt]) (b := 72) C (kX6_at hM.1 os.1 (xs (i + 1)).toInt (xs (i + 2)).toInt (i32_rg _) (i32_rg _)) gv_X6_at sgX6_at rfl ⟨Nat.le_of_ble_eq_true rfl, Nat.le_of_ble_eq_true rfl⟩ (by decide) (en_72 _ _) rfl rfl rfl (Nat.le_of_ble_eq_true rfl) dL_law_180 (fun z2 V2 h2 => ?_)
  obtain ⟨hf2, hz2⟩ := h2
  obtain ⟨hM1, hl2⟩ := q6e hM hf2
  refine l_same (tgt := 771) C dL_law_183 (by decide) (hz1.trans hz2.symm) ?_
  exact k V2 _ (CR_lo hR1 hl2) hM1 (os)
set_option maxHeartbeats 1000000 in
theorem lc_far {O : OmT} {F : PhT} {rt : Option FieldType} (C : cL O F rt) {L i : Nat} {xs : Nat → Int32} (S : scr O F L xs) (hi : i + 3 < L) (k : ∀ (V : Mem) (s : St), CR V s → MR V s → okS s → JL O F V 771 (LV i) []) {V : Mem} {g : Nat → Int} {r : Rt} (hR : CR V (g, r)) (hM : MR V (g, r)) (os : okS (g, r)) : JL O F V 188 (LV i) [] := by
  refine l_aload_n C dL_law_188 rfl ?_
  refine l_arg (k := 1) C S dL_law_189 dL_law_190 dL_law_191 dL_law_192 dL_law_193 (by omega) ?_
  refine l_arg (k := 2) C S dL_law_194 dL_law_195 dL_law_196 dL_law_197 dL_law_198 (by omega) ?_
  refine l_call (st := []) (as := [si (xs (i + 1)).toInt, si (xs (i + 2)).toInt]) (b := 0) C (kX5_far hR.1.1 os.1 (xs (i + 1)).toInt (xs (i + 2)).toInt (i32_rg _) (i32_rg _)) gv_X5_far sgX5_far rfl ⟨Nat.le_of_ble_eq_true rfl, Nat.le_of_ble_eq_true rfl⟩ (by decide) (en_0 _ _) rfl rfl rfl (Nat.le_of_ble_eq_true rfl) dL_law_199 (fun z1 V1 h1 => ?_)
  obtain ⟨hf1, hz1⟩ := h1
  obtain ⟨hR1, hh⟩ := q5e hR hf1
  have hM := MR_hi hM hh
  refine l_aload_n C dL_law_202 rfl ?_
  refine l_arg (k := 1) C S dL_law_203 dL_law_204 dL_law_205 dL_law_206 dL_law_207 (by omega) ?_
  refine l_arg (k := 2) C S dL_law_208 dL_law_209 dL_law_210 dL_law_211 dL_law_212 (by omega) ?_
  refine l_call (st := [si z1]) (as := [si (xs (i + 1)).toInt, si (xs (i + 2)).toInt]) (b := 72) C (kX6_far hM.1 os.1 (xs (i + 1)).toInt (xs (i + 2)).toInt (i32_rg _) (i32_rg _)) gv_X6_far sgX6_far rfl ⟨Nat.le_of_ble_eq_true rfl, Nat.le_of_ble_eq_true rfl⟩ (by decide) (en_72 _ _) rfl rfl rfl (Nat.le_of_ble_eq_true rfl) dL_law_213 (fun z2 V2 h2 => ?_)
  obtain ⟨hf2, hz2⟩ := h2
  obtain ⟨hM1, hl2⟩ := q6e hM hf2
  refine l_same (tgt := 771) C dL_law_216 (by decide) (hz1.trans hz2.symm) ?_
  exact k V2 _ (CR_lo hR1 hl2) hM1 (os)
set_option maxHeartbeats 1000000 in
theorem lc_turning {O : OmT} {F : PhT} {rt : Option FieldType} (C : cL O F rt) {L i : Nat} {xs : Nat → Int32} (S : scr O F L xs) (hi : i + 3 < L) (k : ∀ (V : Mem) (s : St), CR V s → MR V s → okS s → JL O F V 771 (LV i) []) {V : Mem} {g : Nat → Int} {r : Rt} (hR : CR V (g, r)) (hM : MR V (g, r)) (os : okS (g, r)) : JL O F V 221 (LV i) [] := by
  refine l_aload_n C dL_law_221 rfl ?_
  refine l_arg (k := 1) C S dL_law_222 dL_law_223 dL_law_224 dL_law_225 dL_law_226 (by omega) ?_
  refine l_arg (k := 2) C S dL_law_227 dL_law_228 dL_law_229 dL_law_230 dL_law_231 (by omega) ?_
  refine l_call (st := []) (as := [si (xs (i + 1)).toInt, si (xs (i + 2)).toInt]) (b := 0) C (kX5_turning hR.1 os.1 (xs (i + 1)).toInt (xs (i + 2)).toInt (i32_rg _) (i32_rg _)) gv_X5_turning sgX5_turning rfl ⟨Nat.le_of_ble_eq_true rfl, Nat.le_of_ble_eq_true rfl⟩ (by decide) (en_0 _ _) rfl rfl rfl (Nat.le_of_ble_eq_true rfl) dL_law_232 (fun z1 V1 h1 => ?_)
  obtain ⟨hf1, hz1⟩ := h1
  obtain ⟨hR1, hh⟩ := q5e hR hf1
  have hM := MR_hi hM hh
  refine l_aload_n C dL_law_235 rfl ?_
  refine l_arg (k := 1) C S dL_law_236 dL_law_237 dL_law_238 dL_law_239 dL_law_240 (by omega) ?_
  refine l_arg (k := 2) C S dL_law_241 dL_law_242 dL_law_243 dL_law_244 dL_law_245 (by omega) ?_
  refine l_call (st := [si z1]) (as := [si (xs (i + 1)).toInt, si (xs (i + 2)).toInt]) (b := 72) C (kX6_turning hM.1 os.1 (xs (i + 1)).toInt (xs (i + 2)).toInt (i32_rg _) (i32_rg _)) gv_X6_turning sgX6_turning rfl ⟨Nat.le_of_ble_eq_true rfl, Nat.le_of_ble_eq_true rfl⟩ (by decide) (en_72 _ _) rfl rfl rfl (Nat.le_of_ble_eq_true rfl) dL_law_246 (fun z2 V2 h2 => ?_)
  obtain ⟨hf2, hz2⟩ := h2
  obtain ⟨hM1, hl2⟩ := q6e hM hf2
  refine l_same (tgt := 771) C dL_law_249 (by decide) (hz1.trans hz2.symm) ?_
  exact k V2 _ (CR_lo hR1 hl2) hM1 (os)
set_option maxHeartbeats 1000000 in
theorem lc_face {O : OmT} {F : PhT} {rt : Option FieldType} (C : cL O F rt) {L i : Nat} {xs : Nat → Int32} (S : scr O F L xs) (hi : i + 3 < L) (k : ∀ (V : Mem) (s : St), CR V s → MR V s → okS s → JL O F V 771 (LV i) []) {V : Mem} {g : Nat → Int} {r : Rt} (hR : CR V (g, r)) (hM : MR V (g, r)) (os : okS (g, r)) : JL O F V 254 (LV i) [] := by
  refine l_aload_n C dL_law_254 rfl ?_
  refine l_arg (k := 1) C S dL_law_255 dL_law_256 dL_law_257 dL_law_258 dL_law_259 (by omega) ?_
  refine l_arg (k := 2) C S dL_law_260 dL_law_261 dL_law_262 dL_law_263 dL_law_264 (by omega) ?_
  refine l_call (st := []) (as := [si (xs (i + 1)).toInt, si (xs (i + 2)).toInt]) (b := 0) C (kX5_face hR.1 os.1 hR.2.2.2.1 (xs (i + 1)).toInt (xs (i + 2)).toInt (i32_rg _) (i32_rg _)) gv_X5_face sgX5_face rfl ⟨Nat.le_of_ble_eq_true rfl, Nat.le_of_ble_eq_true rfl⟩ (by decide) (en_0 _ _) rfl rfl rfl (Nat.le_of_ble_eq_true rfl) dL_law_265 (fun z1 V1 h1 => ?_)
  obtain ⟨hf1, hz1⟩ := h1
  obtain ⟨hR1, hh⟩ := q5s hR hf1
  have hM := MR_hi hM hh
  refine l_aload_n C dL_law_268 rfl ?_
  refine l_arg (k := 1) C S dL_law_269 dL_law_270 dL_law_271 dL_law_272 dL_law_273 (by omega) ?_
  refine l_arg (k := 2) C S dL_law_274 dL_law_275 dL_law_276 dL_law_277 dL_law_278 (by omega) ?_
  refine l_call (st := [si z1]) (as := [si (xs (i + 1)).toInt, si (xs (i + 2)).toInt]) (b := 72) C (kX6_face hM.1 os.1 (xs (i + 1)).toInt (xs (i + 2)).toInt (i32_rg _) (i32_rg _)) gv_X6_face sgX6_face rfl ⟨Nat.le_of_ble_eq_true rfl, Nat.le_of_ble_eq_true rfl⟩ (by decide) (en_72 _ _) rfl rfl rfl (Nat.le_of_ble_eq_true rfl) dL_law_279 (fun z2 V2 h2 => ?_)
  obtain ⟨hf2, hz2⟩ := h2
  obtain ⟨hM1, hl2⟩ := q6e hM hf2
  refine l_same (tgt := 771) C dL_law_282 (by decide) (hz1.trans hz2.symm) ?_
  exact k V2 _ (CR_lo hR1 hl2) hM1 (os)
set_option maxHeartbeats 1000000 in
theorem lc_way {O : OmT} {F : PhT} {rt : Option FieldType} (C : cL O F rt) {L i : Nat} {xs : Nat → Int32} (S : scr O F L xs) (hi : i + 3 < L) (k : ∀ (V : Mem) (s : St), CR V s → MR V s → okS s → JL O F V 771 (LV i) []) {V : Mem} {g : Nat → Int} {r : Rt} (hR : CR V (g, r)) (hM : MR V (g, r)) (os : okS (g, r)) : JL O F V 287 (LV i) [] := by
  refine l_aload_n C dL_law_287 rfl ?_
  refine l_arg (k := 1) C S dL_law_288 dL_law_289 dL_law_290 dL_law_291 dL_law_292 (by omega) ?_
  refine l_arg (k := 2) C S dL_law_293 dL_law_294 dL_law_295 dL_law_296 dL_law_297 (by omega) ?_
  refine l_arg (k := 3) C S dL_law_298 dL_law_299 dL_law_300 dL_law_301 dL_law_302 (by omega) ?_
  refine l_call (st := []) (as := [si (xs (i + 1)).toInt, si (xs (i + 2)).toInt, si (xs (i + 3)).toInt]) (b := 0) C (kX5_way hR.1 os.1 (xs (i + 1)).toInt (xs (i + 2)).toInt (xs (i + 3)).toInt (i32_rg _) (i32_rg _) (i32_rg _)) gv_X5_way sgX5_way rfl ⟨Nat.le_of_ble_eq_true rfl, Nat.le_of_ble_eq_true rfl⟩ (by decide) (en_0 _ _) rfl rfl rfl (Nat.le_of_ble_eq_true rfl) dL_law_303 (fun z1 V1 h1 => ?_)
  obtain ⟨hf1, hz1⟩ := h1
  obtain ⟨hR1, hh⟩ := q5r hR hf1
  have hM := MR_hi hM hh
  refine l_aload_n C dL_law_306 rfl ?_
  refine l_arg (k := 1) C S dL_law_307 dL_law_308 dL_law_309 dL_law_310 dL_law_311 (by omega) ?_
  refine l_arg (k := 2) C S dL_law_312 dL_law_313 dL_law_314 dL_law_315 dL_law_316 (by omega) ?_
  refine l_arg (k := 3) C S dL_law_317 dL_law_318 dL_law_319 dL_law_320 dL_law_321 (by omega) ?_
  refine l_call (st := [si z1]) (as := [si (xs (i + 1)).toInt, si (xs (i + 2)).toInt, si (xs (i + 3)).toInt]) (b := 72) C (kX6_way hM.1 os.1 (xs (i + 1)).toInt (xs (i + 2)).toInt (xs (i + 3)).toInt (i32_rg _) (i32_rg _) (i32_rg _)) gv_X6_way sgX6_way rfl ⟨Nat.le_of_ble_eq_true rfl, Nat.le_of_ble_eq_true rfl⟩ (by decide) (en_72 _ _) rfl rfl rfl (Nat.le_of_ble_eq_true rfl) dL_law_322 (fun z2 V2 h2 => ?_)
  obtain ⟨hf2, hz2⟩ := h2
  obtain ⟨hM1, hl2⟩ := q6r hM hf2
  refine l_same (tgt := 771) C dL_law_325 (by decide) (hz1.trans hz2.symm) ?_
  exact k V2 _ (CR_lo hR1 hl2) hM1 (os)
set_option maxHeartbeats 1000000 in
theorem lc_step {O : OmT} {F : PhT} {rt : Option FieldType} (C : cL O F rt) {L i : Nat} {xs : Nat → Int32} (S : scr O F L xs) (hi : i + 3 < L) (k : ∀ (V : Mem) (s : St), CR V s → MR V s → okS s → JL O F V 771 (LV i) []) {V : Mem} {g : Nat → Int} {r : Rt} (hR : CR V (g, r)) (hM : MR V (g, r)) (os : okS (g, r)) : JL O F V 330 (LV i) [] := by
  refine l_aload_n C dL_law_330 rfl ?_
  refine l_arg (k := 1) C S dL_law_331 dL_law_332 dL_law_333 dL_law_334 dL_law_335 (by omega) ?_
  refine l_arg (k := 2) C S dL_law_336 dL_law_337 dL_law_338 dL_law_339 dL_law_340 (by omega) ?_
  refine l_arg (k := 3) C S dL_law_341 dL_law_342 dL_law_343 dL_law_344 dL_law_345 (by omega) ?_
  refine l_call (st := []) (as := [si (xs (i + 1)).toInt, si (xs (i + 2)).toInt, si (xs (i + 3)).toInt]) (b := 0) C (kX5_step hR.1 os.1 (xs (i + 1)).toInt (xs (i + 2)).toInt (xs (i + 3)).toInt (i32_rg _) (i32_rg _) (i32_rg _)) gv_X5_step sgX5_step rfl ⟨Nat.le_of_ble_eq_true rfl, Nat.le_of_ble_eq_true rfl⟩ (by decide) (en_0 _ _) rfl rfl rfl (Nat.le_of_ble_eq_true rfl) dL_law_346 (fun z1 V1 h1 => ?_)
  obtain ⟨hf1, hz1⟩ := h1
  obtain ⟨hR1, hh⟩ := q5r hR hf1
  have hM := MR_hi hM hh
  refine l_aload_n C dL_law_349 rfl ?_
  refine l_arg (k := 1) C S dL_law_350 dL_law_351 dL_law_352 dL_law_353 dL_law_354 (by omega) ?_
  refine l_arg (k := 2) C S dL_law_355 dL_law_356 dL_law_357 dL_law_358 dL_law_359 (by omega) ?_
  refine l_arg (k := 3) C S dL_law_360 dL_law_361 dL_law_362 dL_law_363 dL_law_364 (by omega) ?_
  refine l_call (st := [si z1]) (as := [si (xs (i + 1)).toInt, si (xs (i + 2)).toInt, si (xs (i + 3)).toInt]) (b := 72) C (kX6_step hM.1 os.1 (xs (i + 1)).toInt (xs (i + 2)).toInt (xs (i + 3)).toInt (i32_rg _) (i32_rg _) (i32_rg _)) gv_X6_step sgX6_step rfl ⟨Nat.le_of_ble_eq_true rfl, Nat.le_of_ble_eq_true rfl⟩ (by decide) (en_72 _ _) rfl rfl rfl (Nat.le_of_ble_eq_true rfl) dL_law_365 (fun z2 V2 h2 => ?_)
  obtain ⟨hf2, hz2⟩ := h2
  obtain ⟨hM1, hl2⟩ := q6r hM hf2
  refine l_same (tgt := 771) C dL_law_368 (by decide) (hz1.trans hz2.symm) ?_
  exact k V2 _ (CR_lo hR1 hl2) hM1 (os)
set_option maxHeartbeats 1000000 in
theorem lc_hops {O : OmT} {F : PhT} {rt : Option FieldType} (C : cL O F rt) {L i : Nat} {xs : Nat → Int32} (S : scr O F L xs) (hi : i + 3 < L) (k : ∀ (V : Mem) (s : St), CR V s → MR V s → okS s → JL O F V 771 (LV i) []) {V : Mem} {g : Nat → Int} {r : Rt} (hR : CR V (g, r)) (hM : MR V (g, r)) (os : okS (g, r)) : JL O F V 373 (LV i) [] := by
  refine l_aload_n C dL_law_373 rfl ?_
  refine l_arg (k := 1) C S dL_law_374 dL_law_375 dL_law_376 dL_law_377 dL_law_378 (by omega) ?_
  refine l_arg (k := 2) C S dL_law_379 dL_law_380 dL_law_381 dL_law_382 dL_law_383 (by omega) ?_
  refine l_call (st := []) (as := [si (xs (i + 1)).toInt, si (xs (i + 2)).toInt]) (b := 0) C (kX5_hops hR.1 os.1 (xs (i + 1)).toInt (xs (i + 2)).toInt (i32_rg _) (i32_rg _)) gv_X5_hops sgX5_hops rfl ⟨Nat.le_of_ble_eq_true rfl, Nat.le_of_ble_eq_true rfl⟩ (by decide) (en_0 _ _) rfl rfl rfl (Nat.le_of_ble_eq_true rfl) dL_law_384 (fun z1 V1 h1 => ?_)
  obtain ⟨hf1, hz1⟩ := h1
  obtain ⟨hR1, hh⟩ := q5e hR hf1
  have hM := MR_hi hM hh
  refine l_aload_n C dL_law_387 rfl ?_
  refine l_arg (k := 1) C S dL_law_388 dL_law_389 dL_law_390 dL_law_391 dL_law_392 (by omega) ?_
  refine l_arg (k := 2) C S dL_law_393 dL_law_394 dL_law_395 dL_law_396 dL_law_397 (by omega) ?_
  refine l_call (st := [si z1]) (as := [si (xs (i + 1)).toInt, si (xs (i + 2)).toInt]) (b := 72) C (kX6_hops hM.1 os.1 (xs (i + 1)).toInt (xs (i + 2)).toInt (i32_rg _) (i32_rg _)) gv_X6_hops sgX6_hops rfl ⟨Nat.le_of_ble_eq_true rfl, Nat.le_of_ble_eq_true rfl⟩ (by decide) (en_72 _ _) rfl rfl rfl (Nat.le_of_ble_eq_true rfl) dL_law_398 (fun z2 V2 h2 => ?_)
  obtain ⟨hf2, hz2⟩ := h2
  obtain ⟨hM1, hl2⟩ := q6e hM hf2
  refine l_same (tgt := 771) C dL_law_401 (by decide) (hz1.trans hz2.symm) ?_
  exact k V2 _ (CR_lo hR1 hl2) hM1 (os)
set_option maxHeartbeats 1000000 in
theorem lc_node {O : OmT} {F : PhT} {rt : Option FieldType} (C : cL O F rt) {L i : Nat} {xs : Nat → Int32} (S : scr O F L xs) (hi : i + 3 < L) (k : ∀ (V : Mem) (s : St), CR V s → MR V s → okS s → JL O F V 771 (LV i) []) {V : Mem} {g : Nat → Int} {r : Rt} (hR : CR V (g, r)) (hM : MR V (g, r)) (os : okS (g, r)) : JL O F V 406 (LV i) [] := by
  refine l_aload_n C dL_law_406 rfl ?_
  refine l_arg (k := 1) C S dL_law_407 dL_law_408 dL_law_409 dL_law_410 dL_law_411 (by omega) ?_
  refine l_arg (k := 2) C S dL_law_412 dL_law_413 dL_law_414 dL_law_415 dL_law_416 (by omega) ?_
  refine l_call (st := []) (as := [si (xs (i + 1)).toInt, si (xs (i + 2)).toInt]) (b := 0) C (kX5_node hR os (xs (i + 1)).toInt (xs (i + 2)).toInt (i32_rg _) (i32_rg _)) gv_X5_node sgX5_node rfl ⟨Nat.le_of_ble_eq_true rfl, Nat.le_of_ble_eq_true rfl⟩ (by decide) (en_0 _ _) rfl rfl rfl (Nat.le_of_ble_eq_true rfl) dL_law_417 (fun z1 V1 h1 => ?_)
  obtain ⟨hR1, hh, hz1⟩ := h1
  have hM := MR_hi hM hh
  refine l_aload_n C dL_law_420 rfl ?_
  refine l_arg (k := 1) C S dL_law_421 dL_law_422 dL_law_423 dL_law_424 dL_law_425 (by omega) ?_
  refine l_arg (k := 2) C S dL_law_426 dL_law_427 dL_law_428 dL_law_429 dL_law_430 (by omega) ?_
  refine l_call (st := [si z1]) (as := [si (xs (i + 1)).toInt, si (xs (i + 2)).toInt]) (b := 72) C (kX6_node hM os (xs (i + 1)).toInt (xs (i + 2)).toInt (i32_rg _) (i32_rg _)) gv_X6_node sgX6_node rfl ⟨Nat.le_of_ble_eq_true rfl, Nat.le_of_ble_eq_true rfl⟩ (by decide) (en_72 _ _) rfl rfl rfl (Nat.le_of_ble_eq_true rfl) dL_law_431 (fun z2 V2 h2 => ?_)
  obtain ⟨hM1, hl2, hz2⟩ := h2
  refine l_same (tgt := 771) C dL_law_434 (by decide) (hz1.trans hz2.symm) ?_
  exact k V2 _ (CR_lo hR1 hl2) hM1 (dNode_ok os (xs (i + 1)).toInt (xs (i + 2)).toInt)
set_option maxHeartbeats 1000000 in
theorem lc_move {O : OmT} {F : PhT} {rt : Option FieldType} (C : cL O F rt) {L i : Nat} {xs : Nat → Int32} (S : scr O F L xs) (hi : i + 3 < L) (k : ∀ (V : Mem) (s : St), CR V s → MR V s → okS s → JL O F V 771 (LV i) []) {V : Mem} {g : Nat → Int} {r : Rt} (hR : CR V (g, r)) (hM : MR V (g, r)) (os : okS (g, r)) : JL O F V 439 (LV i) [] := by
  refine l_aload_n C dL_law_439 rfl ?_
  refine l_arg (k := 1) C S dL_law_440 dL_law_441 dL_law_442 dL_law_443 dL_law_444 (by omega) ?_
  refine l_arg (k := 2) C S dL_law_445 dL_law_446 dL_law_447 dL_law_448 dL_law_449 (by omega) ?_
  refine l_arg (k := 3) C S dL_law_450 dL_law_451 dL_law_452 dL_law_453 dL_law_454 (by omega) ?_
  refine l_call (st := []) (as := [si (xs (i + 1)).toInt, si (xs (i + 2)).toInt, si (xs (i + 3)).toInt]) (b := 0) C (kX5_move hR os (xs (i + 1)).toInt (xs (i + 2)).toInt (xs (i + 3)).toInt (i32_rg _) (i32_rg _) (i32_rg _)) gv_X5_move sgX5_move rfl ⟨Nat.le_of_ble_eq_true rfl, Nat.le_of_ble_eq_true rfl⟩ (by decide) (en_0 _ _) rfl rfl rfl (Nat.le_of_ble_eq_true rfl) dL_law_455 (fun z1 V1 h1 => ?_)
  obtain ⟨hR1, hh, hz1⟩ := h1
  have hM := MR_hi hM hh
  refine l_aload_n C dL_law_458 rfl ?_
  refine l_arg (k := 1) C S dL_law_459 dL_law_460 dL_law_461 dL_law_462 dL_law_463 (by omega) ?_
  refine l_arg (k := 2) C S dL_law_464 dL_law_465 dL_law_466 dL_law_467 dL_law_468 (by omega) ?_
  refine l_arg (k := 3) C S dL_law_469 dL_law_470 dL_law_471 dL_law_472 dL_law_473 (by omega) ?_
  refine l_call (st := [si z1]) (as := [si (xs (i + 1)).toInt, si (xs (i + 2)).toInt, si (xs (i + 3)).toInt]) (b := 72) C (kX6_move hM os (xs (i + 1)).toInt (xs (i + 2)).toInt (xs (i + 3)).toInt (i32_rg _) (i32_rg _) (i32_rg _)) gv_X6_move sgX6_move rfl ⟨Nat.le_of_ble_eq_true rfl, Nat.le_of_ble_eq_true rfl⟩ (by decide) (en_72 _ _) rfl rfl rfl (Nat.le_of_ble_eq_true rfl) dL_law_474 (fun z2 V2 h2 => ?_)
  obtain ⟨hM1, hl2, hz2⟩ := h2
  refine l_same (tgt := 771) C dL_law_477 (by decide) (hz1.trans hz2.symm) ?_
  exact k V2 _ (CR_lo hR1 hl2) hM1 (dMove_ok os (xs (i + 1)).toInt (xs (i + 2)).toInt (xs (i + 3)).toInt)
set_option maxHeartbeats 1000000 in
theorem lc_wake {O : OmT} {F : PhT} {rt : Option FieldType} (C : cL O F rt) {L i : Nat} {xs : Nat → Int32} (S : scr O F L xs) (hi : i + 3 < L) (k : ∀ (V : Mem) (s : St), CR V s → MR V s → okS s → JL O F V 771 (LV i) []) {V : Mem} {g : Nat → Int} {r : Rt} (hR : CR V (g, r)) (hM : MR V (g, r)) (os : okS (g, r)) : JL O F V 482 (LV i) [] := by
  refine l_aload_n C dL_law_482 rfl ?_
  refine l_arg (k := 1) C S dL_law_483 dL_law_484 dL_law_485 dL_law_486 dL_law_487 (by omega) ?_
  refine l_argb C S dL_law_488 dL_law_489 dL_law_490 dL_law_491 dL_law_492 dL_law_493 dL_law_496 dL_law_497 dL_law_500 (by omega) ?_
  refine l_call (st := []) (as := [si (xs (i + 1)).toInt, si (bI (decide (¬ (xs (i + 2)).toInt = 0)))]) (b := 0) C (kX5_wake hR os (xs (i + 1)).toInt (decide (¬ (xs (i + 2)).toInt = 0)) (i32_rg _)) gv_X5_wake sgX5_wake rfl ⟨Nat.le_of_ble_eq_true rfl, Nat.le_of_ble_eq_true rfl⟩ (by decide) (en_0 _ _) rfl rfl rfl (Nat.le_of_ble_eq_true rfl) dL_law_501 (fun z1 V1 h1 => ?_)
  obtain ⟨hR1, hh, hz1⟩ := h1
  have hM := MR_hi hM hh
  refine l_aload_n C dL_law_504 rfl ?_
  refine l_arg (k := 1) C S dL_law_505 dL_law_506 dL_law_507 dL_law_508 dL_law_509 (by omega) ?_
  refine l_argb C S dL_law_510 dL_law_511 dL_law_512 dL_law_513 dL_law_514 dL_law_515 dL_law_518 dL_law_519 dL_law_522 (by omega) ?_
  refine l_call (st := [si z1]) (as := [si (xs (i + 1)).toInt, si (bI (decide (¬ (xs (i + 2)).toInt = 0)))]) (b := 72) C (kX6_wake hM os (xs (i + 1)).toInt (decide (¬ (xs (i + 2)).toInt = 0)) (i32_rg _)) gv_X6_wake sgX6_wake rfl ⟨Nat.le_of_ble_eq_true rfl, Nat.le_of_ble_eq_true rfl⟩ (by decide) (en_72 _ _) rfl rfl rfl (Nat.le_of_ble_eq_true rfl) dL_law_523 (fun z2 V2 h2 => ?_)
  obtain ⟨hM1, hl2, hz2⟩ := h2
  refine l_same (tgt := 771) C dL_law_526 (by decide) (hz1.trans hz2.symm) ?_
  exact k V2 _ (CR_lo hR1 hl2) hM1 (dWake_ok os (xs (i + 1)).toInt (decide (¬ (xs (i + 2)).toInt = 0)))
set_option maxHeartbeats 1000000 in
theorem lc_take {O : OmT} {F : PhT} {rt : Option FieldType} (C : cL O F rt) {L i : Nat} {xs : Nat → Int32} (S : scr O F L xs) (hi : i + 3 < L) (k : ∀ (V : Mem) (s : St), CR V s → MR V s → okS s → JL O F V 771 (LV i) []) {V : Mem} {g : Nat → Int} {r : Rt} (hR : CR V (g, r)) (hM : MR V (g, r)) (os : okS (g, r)) : JL O F V 531 (LV i) [] := by
  refine l_aload_n C dL_law_531 rfl ?_
  refine l_arg (k := 1) C S dL_law_532 dL_law_533 dL_law_534 dL_law_535 dL_law_536 (by omega) ?_
  refine l_call (st := []) (as := [si (xs (i + 1)).toInt]) (b := 0) C (kX5_take hR os (xs (i + 1)).toInt (i32_rg _)) gv_X5_take sgX5_take rfl ⟨Nat.le_of_ble_eq_true rfl, Nat.le_of_ble_eq_true rfl⟩ (by decide) (en_0 _ _) rfl rfl rfl (Nat.le_of_ble_eq_true rfl) dL_law_537 (fun z1 V1 h1 => ?_)
  obtain ⟨hR1, hh, hz1⟩ := h1
  have hM := MR_hi hM hh
  refine l_aload_n C dL_law_540 rfl ?_
  refine l_arg (k := 1) C S dL_law_541 dL_law_542 dL_law_543 dL_law_544 dL_law_545 (by omega) ?_
  refine l_call (st := [si z1]) (as := [si (xs (i + 1)).toInt]) (b := 72) C (kX6_take hM os (xs (i + 1)).toInt (i32_rg _)) gv_X6_take sgX6_take rfl ⟨Nat.le_of_ble_eq_true rfl, Nat.le_of_ble_eq_true rfl⟩ (by decide) (en_72 _ _) rfl rfl rfl (Nat.le_of_ble_eq_true rfl) dL_law_546 (fun z2 V2 h2 => ?_)
  obtain ⟨hM1, hl2, hz2⟩ := h2
  refine l_same (tgt := 771) C dL_law_549 (by decide) (hz1.trans hz2.symm) ?_
  exact k V2 _ (CR_lo hR1 hl2) hM1 (dTake_ok os (xs (i + 1)).toInt)
set_option maxHeartbeats 1000000 in
theorem lc_reach {O : OmT} {F : PhT} {rt : Option FieldType} (C : cL O F rt) {L i : Nat} {xs : Nat → Int32} (S : scr O F L xs) (hi : i + 3 < L) (k : ∀ (V : Mem) (s : St), CR V s → MR V s → okS s → JL O F V 771 (LV i) []) {V : Mem} {g : Nat → Int} {r : Rt} (hR : CR V (g, r)) (hM : MR V (g, r)) (os : okS (g, r)) : JL O F V 554 (LV i) [] := by
  refine l_aload_n C dL_law_554 rfl ?_
  refine l_arg (k := 1) C S dL_law_555 dL_law_556 dL_law_557 dL_law_558 dL_law_559 (by omega) ?_
  refine l_call (st := []) (as := [si (xs (i + 1)).toInt]) (b := 0) C (kX5_reach hR os (xs (i + 1)).toInt (i32_rg _)) gv_X5_reach sgX5_reach rfl ⟨Nat.le_of_ble_eq_true rfl, Nat.le_of_ble_eq_true rfl⟩ (by decide) (en_0 _ _) rfl rfl rfl (Nat.le_of_ble_eq_true rfl) dL_law_560 (fun z1 V1 h1 => ?_)
  obtain ⟨hR1, hh, hz1⟩ := h1
  have hM := MR_hi hM hh
  refine l_aload_n C dL_law_563 rfl ?_
  refine l_arg (k := 1) C S dL_law_564 dL_law_565 dL_law_566 dL_law_567 dL_law_568 (by omega) ?_
  refine l_call (st := [si z1]) (as := [si (xs (i + 1)).toInt]) (b := 72) C (kX6_reach hM os (xs (i + 1)).toInt (i32_rg _)) gv_X6_reach sgX6_reach rfl ⟨Nat.le_of_ble_eq_true rfl, Nat.le_of_ble_eq_true rfl⟩ (by decide) (en_72 _ _) rfl rfl rfl (Nat.le_of_ble_eq_true rfl) dL_law_569 (fun z2 V2 h2 => ?_)
  obtain ⟨hM1, hl2, hz2⟩ := h2
  refine l_same (tgt := 771) C dL_law_572 (by decide) (hz1.trans hz2.symm) ?_
  exact k V2 _ (CR_lo hR1 hl2) hM1 (dReach_ok os (xs (i + 1)).toInt)
set_option maxHeartbeats 1000000 in
theorem lc_rule {O : OmT} {F : PhT} {rt : Option FieldType} (C : cL O F rt) {L i : Nat} {xs : Nat → Int32} (S : scr O F L xs) (hi : i + 3 < L) (k : ∀ (V : Mem) (s : St), CR V s → MR V s → okS s → JL O F V 771 (LV i) []) {V : Mem} {g : Nat → Int} {r : Rt} (hR : CR V (g, r)) (hM : MR V (g, r)) (os : okS (g, r)) : JL O F V 577 (LV i) [] := by
  refine l_aload_n C dL_law_577 rfl ?_
  refine l_arg (k := 1) C S dL_law_578 dL_law_579 dL_law_580 dL_law_581 dL_law_582 (by omega) ?_
  refine l_call (st := []) (as := [si (xs (i + 1)).toInt]) (b := 0) C (kX5_rule hR os (xs (i + 1)).toInt (i32_rg _)) gv_X5_rule sgX5_rule rfl ⟨Nat.le_of_ble_eq_true rfl, Nat.le_of_ble_eq_true rfl⟩ (by decide) (en_0 _ _) rfl rfl rfl (Nat.le_of_ble_eq_true rfl) dL_law_583 (fun z1 V1 h1 => ?_)
  obtain ⟨hR1, hh, hz1⟩ := h1
  have hM := MR_hi hM hh
  refine l_aload_n C dL_law_586 rfl ?_
  refine l_arg (k := 1) C S dL_law_587 dL_law_588 dL_law_589 dL_law_590 dL_law_591 (by omega) ?_
  refine l_call (st := [si z1]) (as := [si (xs (i + 1)).toInt]) (b := 72) C (kX6_rule hM os (xs (i + 1)).toInt (i32_rg _)) gv_X6_rule sgX6_rule rfl ⟨Nat.le_of_ble_eq_true rfl, Nat.le_of_ble_eq_true rfl⟩ (by decide) (en_72 _ _) rfl rfl rfl (Nat.le_of_ble_eq_true rfl) dL_law_592 (fun z2 V2 h2 => ?_)
  obtain ⟨hM1, hl2, hz2⟩ := h2
  refine l_same (tgt := 771) C dL_law_595 (by decide) (hz1.trans hz2.symm) ?_
  exact k V2 _ (CR_lo hR1 hl2) hM1 (dRule_ok os (xs (i + 1)).toInt)
set_option maxHeartbeats 1000000 in
theorem lc_drift {O : OmT} {F : PhT} {rt : Option FieldType} (C : cL O F rt) {L i : Nat} {xs : Nat → Int32} (S : scr O F L xs) (hi : i + 3 < L) (k : ∀ (V : Mem) (s : St), CR V s → MR V s → okS s → JL O F V 771 (LV i) []) {V : Mem} {g : Nat → Int} {r : Rt} (hR : CR V (g, r)) (hM : MR V (g, r)) (os : okS (g, r)) : JL O F V 600 (LV i) [] := by
  refine l_aload_n C dL_law_600 rfl ?_
  refine l_arg (k := 1) C S dL_law_601 dL_law_602 dL_law_603 dL_law_604 dL_law_605 (by omega) ?_
  refine l_call (st := []) (as := [si (xs (i + 1)).toInt]) (b := 0) C (kX5_drift hR os (xs (i + 1)).toInt (i32_rg _)) gv_X5_drift sgX5_drift rfl ⟨Nat.le_of_ble_eq_true rfl, Nat.le_of_ble_eq_true rfl⟩ (by decide) (en_0 _ _) rfl rfl rfl (Nat.le_of_ble_eq_true rfl) dL_law_606 (fun z1 V1 h1 => ?_)
  obtain ⟨hR1, hh, hz1⟩ := h1
  have hM := MR_hi hM hh
  refine l_aload_n C dL_law_609 rfl ?_
  refine l_arg (k := 1) C S dL_law_610 dL_law_611 dL_law_612 dL_law_613 dL_law_614 (by omega) ?_
  refine l_call (st := [si z1]) (as := [si (xs (i + 1)).toInt]) (b := 72) C (kX6_drift hM os (xs (i + 1)).toInt (i32_rg _)) gv_X6_drift sgX6_drift rfl ⟨Nat.le_of_ble_eq_true rfl, Nat.le_of_ble_eq_true rfl⟩ (by decide) (en_72 _ _) rfl rfl rfl (Nat.le_of_ble_eq_true rfl) dL_law_615 (fun z2 V2 h2 => ?_)
  obtain ⟨hM1, hl2, hz2⟩ := h2
  refine l_same (tgt := 771) C dL_law_618 (by decide) (hz1.trans hz2.symm) ?_
  exact k V2 _ (CR_lo hR1 hl2) hM1 (dDrift_ok os (xs (i + 1)).toInt)
set_option maxHeartbeats 1000000 in
theorem lc_undo {O : OmT} {F : PhT} {rt : Option FieldType} (C : cL O F rt) {L i : Nat} {xs : Nat → Int32} (S : scr O F L xs) (hi : i + 3 < L) (k : ∀ (V : Mem) (s : St), CR V s → MR V s → okS s → JL O F V 771 (LV i) []) {V : Mem} {g : Nat → Int} {r : Rt} (hR : CR V (g, r)) (hM : MR V (g, r)) (os : okS (g, r)) : JL O F V 623 (LV i) [] := by
  refine l_aload_n C dL_law_623 rfl ?_
  refine l_arg (k := 1) C S dL_law_624 dL_law_625 dL_law_626 dL_law_627 dL_law_628 (by omega) ?_
  refine l_call (st := []) (as := [si (xs (i + 1)).toInt]) (b := 0) C (kX5_undo hR os (xs (i + 1)).toInt (i32_rg _)) gv_X5_undo sgX5_undo rfl ⟨Nat.le_of_ble_eq_true rfl, Nat.le_of_ble_eq_true rfl⟩ (by decide) (en_0 _ _) rfl rfl rfl (Nat.le_of_ble_eq_true rfl) dL_law_629 (fun z1 V1 h1 => ?_)
  obtain ⟨hR1, hh, hz1⟩ := h1
  have hM := MR_hi hM hh
  refine l_aload_n C dL_law_632 rfl ?_
  refine l_arg (k := 1) C S dL_law_633 dL_law_634 dL_law_635 dL_law_636 dL_law_637 (by omega) ?_
  refine l_call (st := [si z1]) (as := [si (xs (i + 1)).toInt]) (b := 72) C (kX6_undo hM os (xs (i + 1)).toInt (i32_rg _)) gv_X6_undo sgX6_undo rfl ⟨Nat.le_of_ble_eq_true rfl, Nat.le_of_ble_eq_true rfl⟩ (by decide) (en_72 _ _) rfl rfl rfl (Nat.le_of_ble_eq_true rfl) dL_law_638 (fun z2 V2 h2 => ?_)
  obtain ⟨hM1, hl2, hz2⟩ := h2
  refine l_same (tgt := 771) C dL_law_641 (by decide) (hz1.trans hz2.symm) ?_
  exact k V2 _ (CR_lo hR1 hl2) hM1 (dUndo_ok os (xs (i + 1)).toInt)
set_option maxHeartbeats 1000000 in
theorem lc_write {O : OmT} {F : PhT} {rt : Option FieldType} (C : cL O F rt) {L i : Nat} {xs : Nat → Int32} (S : scr O F L xs) (hi : i + 3 < L) (k : ∀ (V : Mem) (s : St), CR V s → MR V s → okS s → JL O F V 771 (LV i) []) {V : Mem} {g : Nat → Int} {r : Rt} (hR : CR V (g, r)) (hM : MR V (g, r)) (os : okS (g, r)) : JL O F V 646 (LV i) [] := by
  refine l_aload_n C dL_law_646 rfl ?_
  refine l_arg (k := 1) C S dL_law_647 dL_law_648 dL_law_649 dL_law_650 dL_law_651 (by omega) ?_
  refine l_arg (k := 2) C S dL_law_652 dL_law_653 dL_law_654 dL_law_655 dL_law_656 (by omega) ?_
  refine l_arg (k := 3) C S dL_law_657 dL_law_658 dL_law_659 dL_law_660 dL_law_661 (by omega) ?_
  refine l_call (st := []) (as := [si (xs (i + 1)).toInt, si (xs (i + 2)).toInt, si (xs (i + 3)).toInt]) (b := 0) C (kX5_write hR os (xs (i + 1)).toInt (xs (i + 2)).toInt (xs (i + 3)).toInt (i32_rg _) (i32_rg _) (i32_rg _)) gv_X5_write sgX5_write rfl ⟨Nat.le_of_ble_eq_true rfl, Nat.le_of_ble_eq_true rfl⟩ (by decide) (en_0 _ _) rfl rfl rfl (Nat.le_of_ble_eq_true rfl) dL_law_662 (fun z1 V1 h1 => ?_)
  obtain ⟨hR1, hh, hz1⟩ := h1
  have hM := MR_hi hM hh
  refine l_aload_n C dL_law_665 rfl ?_
  refine l_arg (k := 1) C S dL_law_666 dL_law_667 dL_law_668 dL_law_669 dL_law_670 (by omega) ?_
  refine l_arg (k := 2) C S dL_law_671 dL_law_672 dL_law_673 dL_law_674 dL_law_675 (by omega) ?_
  refine l_arg (k := 3) C S dL_law_676 dL_law_677 dL_law_678 dL_law_679 dL_law_680 (by omega) ?_
  refine l_call (st := [si z1]) (as := [si (xs (i + 1)).toInt, si (xs (i + 2)).toInt, si (xs (i + 3)).toInt]) (b := 72) C (kX6_write hM os (xs (i + 1)).toInt (xs (i + 2)).toInt (xs (i + 3)).toInt (i32_rg _) (i32_rg _) (i32_rg _)) gv_X6_write sgX6_write rfl ⟨Nat.le_of_ble_eq_true rfl, Nat.le_of_ble_eq_true rfl⟩ (by decide) (en_72 _ _) rfl rfl rfl (Nat.le_of_ble_eq_true rfl) dL_law_681 (fun z2 V2 h2 => ?_)
  obtain ⟨hM1, hl2, hz2⟩ := h2
  refine l_same (tgt := 771) C dL_law_684 (by decide) (hz1.trans hz2.symm) ?_
  exact k V2 _ (CR_lo hR1 hl2) hM1 (dWrite_ok os (i32_rg _))
set_option maxHeartbeats 1000000 in
theorem lc_tear {O : OmT} {F : PhT} {rt : Option FieldType} (C : cL O F rt) {L i : Nat} {xs : Nat → Int32} (S : scr O F L xs) (hi : i + 3 < L) (k : ∀ (V : Mem) (s : St), CR V s → MR V s → okS s → JL O F V 771 (LV i) []) {V : Mem} {g : Nat → Int} {r : Rt} (hR : CR V (g, r)) (hM : MR V (g, r)) (os : okS (g, r)) : JL O F V 689 (LV i) [] := by
  refine l_aload_n C dL_law_689 rfl ?_
  refine l_call (st := []) (as := []) (b := 0) C (kX5_tear hR os  ) gv_X5_tear sgX5_tear rfl ⟨Nat.le_of_ble_eq_true rfl, Nat.le_of_ble_eq_true rfl⟩ (by decide) (en_0 _ _) rfl rfl rfl (Nat.le_of_ble_eq_true rfl) dL_law_690 (fun z1 V1 h1 => ?_)
  obtain ⟨hR1, hh, hz1⟩ := h1
  have hM := MR_hi hM hh
  refine l_aload_n C dL_law_693 rfl ?_
  refine l_call (st := [si z1]) (as := []) (b := 72) C (kX6_tear hM os  ) gv_X6_tear sgX6_tear rfl ⟨Nat.le_of_ble_eq_true rfl, Nat.le_of_ble_eq_true rfl⟩ (by decide) (en_72 _ _) rfl rfl rfl (Nat.le_of_ble_eq_true rfl) dL_law_694 (fun z2 V2 h2 => ?_)
  obtain ⟨hM1, hl2, hz2⟩ := h2
  refine l_same (tgt := 771) C dL_law_697 (by decide) (hz1.trans hz2.symm) ?_
  exact k V2 _ (CR_lo hR1 hl2) hM1 (dTear_ok os)
set_option maxHeartbeats 1000000 in
theorem lc_seed {O : OmT} {F : PhT} {rt : Option FieldType} (C : cL O F rt) {L i : Nat} {xs : Nat → Int32} (S : scr O F L xs) (hi : i + 3 < L) (k : ∀ (V : Mem) (s : St), CR V s → MR V s → okS s → JL O F V 771 (LV i) []) {V : Mem} {g : Nat → Int} {r : Rt} (hR : CR V (g, r)) (hM : MR V (g, r)) (os : okS (g, r)) : JL O F V 702 (LV i) [] := by
  refine l_aload_n C dL_law_702 rfl ?_
  refine l_arg (k := 1) C S dL_law_703 dL_law_704 dL_law_705 dL_law_706 dL_law_707 (by omega) ?_
  refine l_call (st := []) (as := [si (xs (i + 1)).toInt]) (b := 0) C (kX5_seed hR os (xs (i + 1)).toInt (i32_rg _)) gv_X5_seed sgX5_seed rfl ⟨Nat.le_of_ble_eq_true rfl, Nat.le_of_ble_eq_true rfl⟩ (by decide) (en_0 _ _) rfl rfl rfl (Nat.le_of_ble_eq_true rfl) dL_law_708 (fun z1 V1 h1 => ?_)
  obtain ⟨hR1, hh, hz1⟩ := h1
  have hM := MR_hi hM hh
  refine l_aload_n C dL_law_711 rfl ?_
  refine l_arg (k := 1) C S dL_law_712 dL_law_713 dL_law_714 dL_law_715 dL_law_716 (by omega) ?_
  refine l_call (st := [si z1]) (as := [si (xs (i + 1)).toInt]) (b := 72) C (kX6_seed hM os (xs (i + 1)).toInt (i32_rg _)) gv_X6_seed sgX6_seed rfl ⟨Nat.le_of_ble_eq_true rfl, Nat.le_of_ble_eq_true rfl⟩ (by decide) (en_72 _ _) rfl rfl rfl (Nat.le_of_ble_eq_true rfl) dL_law_717 (fun z2 V2 h2 => ?_)
  obtain ⟨hM1, hl2, hz2⟩ := h2
  refine l_same (tgt := 771) C dL_law_720 (by decide) (hz1.trans hz2.symm) ?_
  exact k V2 _ (CR_lo hR1 hl2) hM1 (dSeed_ok os (i32_rg _))
set_option maxHeartbeats 1000000 in
theorem lc_keep {O : OmT} {F : PhT} {rt : Option FieldType} (C : cL O F rt) {L i : Nat} {xs : Nat → Int32} (S : scr O F L xs) (hi : i + 3 < L) (k : ∀ (V : Mem) (s : St), CR V s → MR V s → okS s → JL O F V 771 (LV i) []) {V : Mem} {g : Nat → Int} {r : Rt} (hR : CR V (g, r)) (hM : MR V (g, r)) (os : okS (g, r)) : JL O F V 725 (LV i) [] := by
  refine l_aload_n C dL_law_725 rfl ?_
  refine l_arg (k := 1) C S dL_law_726 dL_law_727 dL_law_728 dL_law_729 dL_law_730 (by omega) ?_
  refine l_call (st := []) (as := [si (xs (i + 1)).toInt]) (b := 0) C (kX5_keep hR os (xs (i + 1)).toInt (i32_rg _)) gv_X5_keep sgX5_keep rfl ⟨Nat.le_of_ble_eq_true rfl, Nat.le_of_ble_eq_true rfl⟩ (by decide) (en_0 _ _) rfl rfl rfl (Nat.le_of_ble_eq_true rfl) dL_law_731 (fun z1 V1 h1 => ?_)
  obtain ⟨hR1, hh, hz1⟩ := h1
  have hM := MR_hi hM hh
  refine l_aload_n C dL_law_734 rfl ?_
  refine l_arg (k := 1) C S dL_law_735 dL_law_736 dL_law_737 dL_law_738 dL_law_739 (by omega) ?_
  refine l_call (st := [si z1]) (as := [si (xs (i + 1)).toInt]) (b := 72) C (kX6_keep hM os (xs (i + 1)).toInt (i32_rg _)) gv_X6_keep sgX6_keep rfl ⟨Nat.le_of_ble_eq_true rfl, Nat.le_of_ble_eq_true rfl⟩ (by decide) (en_72 _ _) rfl rfl rfl (Nat.le_of_ble_eq_true rfl) dL_law_740 (fun z2 V2 h2 => ?_)
  obtain ⟨hM1, hl2, hz2⟩ := h2
  refine l_same (tgt := 771) C dL_law_743 (by decide) (hz1.trans hz2.symm) ?_
  exact k V2 _ (CR_lo hR1 hl2) hM1 (dKeep_ok os (xs (i + 1)).toInt)
set_option maxHeartbeats 1000000 in
theorem lc_goBack {O : OmT} {F : PhT} {rt : Option FieldType} (C : cL O F rt) {L i : Nat} {xs : Nat → Int32} (S : scr O F L xs) (hi : i + 3 < L) (k : ∀ (V : Mem) (s : St), CR V s → MR V s → okS s → JL O F V 771 (LV i) []) {V : Mem} {g : Nat → Int} {r : Rt} (hR : CR V (g, r)) (hM : MR V (g, r)) (os : okS (g, r)) : JL O F V 748 (LV i) [] := by
  refine l_aload_n C dL_law_748 rfl ?_
  refine l_arg (k := 1) C S dL_law_749 dL_law_750 dL_law_751 dL_law_752 dL_law_753 (by omega) ?_
  refine l_call (st := []) (as := [si (xs (i + 1)).toInt]) (b := 0) C (kX5_goBack hR os (xs (i + 1)).toInt (i32_rg _)) gv_X5_goBack sgX5_goBack rfl ⟨Nat.le_of_ble_eq_true rfl, Nat.le_of_ble_eq_true rfl⟩ (by decide) (en_0 _ _) rfl rfl rfl (Nat.le_of_ble_eq_true rfl) dL_law_754 (fun z1 V1 h1 => ?_)
  obtain ⟨hR1, hh, hz1⟩ := h1
  have hM := MR_hi hM hh
  refine l_aload_n C dL_law_757 rfl ?_
  refine l_arg (k := 1) C S dL_law_758 dL_law_759 dL_law_760 dL_law_761 dL_law_762 (by omega) ?_
  refine l_call (st := [si z1]) (as := [si (xs (i + 1)).toInt]) (b := 72) C (kX6_goBack hM os (xs (i + 1)).toInt (i32_rg _)) gv_X6_goBack sgX6_goBack rfl ⟨Nat.le_of_ble_eq_true rfl, Nat.le_of_ble_eq_true rfl⟩ (by decide) (en_72 _ _) rfl rfl rfl (Nat.le_of_ble_eq_true rfl) dL_law_763 (fun z2 V2 h2 => ?_)
  obtain ⟨hM1, hl2, hz2⟩ := h2
  refine l_same (tgt := 771) C dL_law_766 (by decide) (hz1.trans hz2.symm) ?_
  exact k V2 _ (CR_lo hR1 hl2) hM1 (dBack_ok os (xs (i + 1)).toInt)
