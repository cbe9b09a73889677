/-! the law's cases (printed by gen_law.py) -/
set_option maxHeartbeats 2000000 in
theorem law_0 {bs n j t : Nat} {xs : Nat → Int32} {m : AM} {a : Nat × Nat} (hn : n ≤ 448) (hj : 7 * j + 7 ≤ n) (hty : TY m) (hri : RI m t) (ht : t < 999) (ha : a.1 + 8 ≤ 600000 ∧ a.2 + 12400 ≤ 7302250) (tail : ∀ m3 a3, TY m3 → RI m3 (t + 1) → a3.1 ≤ a.1 + 8 → a3.2 ≤ a.2 + 12400 → BL bs n xs 1242 (nI (7 * j)) [] m3 a3) : BL bs n xs 180 (nI (7 * j)) [] m a := by
  refine l_x hty dL_law_180 ?_
  refine l_scrc 1 (by omega) (by omega) dL_law_181 dL_law_182 dL_law_183 (by decide) dL_law_184 dL_law_185 ?_
  refine l_scrc 2 (by omega) (by omega) dL_law_186 dL_law_187 dL_law_188 (by decide) dL_law_189 dL_law_190 ?_
  refine l_scrc 3 (by omega) (by omega) dL_law_191 dL_law_192 dL_law_193 (by decide) dL_law_194 dL_law_195 ?_
  refine l_call (t := 10) (ix := 0) (st := []) S_X10_row [vi (xs (7 * j + 1)), vi (xs (7 * j + 2)), vi (xs (7 * j + 3))] (RX10, TX10, 9) rfl rfl (by decide) k443 k444 k445 k68 k446 (show _ ∧ _ ∧ Option.map (fun d => d.parameters.length) (parseMethodDescriptor yX10_row.desc) = some 3 from by decide +kernel) ⟨by decide, by decide⟩ ⟨rmm1 ha.1 (Nat.le_of_ble_eq_true rfl), rmm1 ha.2 (Nat.le_of_ble_eq_true rfl)⟩ (Nat.le_of_ble_eq_true rfl) dL_law_196 (MS_row hty hri (by omega)) (fun r m2 h hty2 => ?_)
  obtain ⟨x, rfl, h2⟩ := h
  refine l_m hty2 dL_law_199 ?_
  refine l_scrc 1 (by omega) (by omega) dL_law_200 dL_law_201 dL_law_202 (by decide) dL_law_203 dL_law_204 ?_
  refine l_scrc 2 (by omega) (by omega) dL_law_205 dL_law_206 dL_law_207 (by decide) dL_law_208 dL_law_209 ?_
  refine l_scrc 3 (by omega) (by omega) dL_law_210 dL_law_211 dL_law_212 (by decide) dL_law_213 dL_law_214 ?_
  refine l_call (t := 11) (ix := 110) (st := [vi x]) S_X11_row [vi (xs (7 * j + 1)), vi (xs (7 * j + 2)), vi (xs (7 * j + 3))] (RX11, TX11, 28) rfl rfl (by decide) k1128 k1129 k1130 k80 k1131 (show _ ∧ _ ∧ Option.map (fun d => d.parameters.length) (parseMethodDescriptor yX11_row.desc) = some 3 from by decide +kernel) ⟨by decide, by decide⟩ ⟨rmm2 ha.1 (Nat.le_of_ble_eq_true rfl) rfl, rmm2 ha.2 (Nat.le_of_ble_eq_true rfl) rfl⟩ (Nat.le_of_ble_eq_true rfl) dL_law_215 h2 (fun r2 m3 h3 hty3 => ?_)
  obtain ⟨rfl, hri3⟩ := h3
  refine l_eq 1242 dL_law_218 (by decide) ?_
  exact tail m3 _ hty3 hri3 (rmm3 (Nat.le_of_ble_eq_true rfl) rfl) (rmm3 (Nat.le_of_ble_eq_true rfl) rfl)
set_option maxHeartbeats 2000000 in
theorem law_1 {bs n j t : Nat} {xs : Nat → Int32} {m : AM} {a : Nat × Nat} (hn : n ≤ 448) (hj : 7 * j + 7 ≤ n) (hty : TY m) (hri : RI m t) (ht : t < 999) (ha : a.1 + 8 ≤ 600000 ∧ a.2 + 12400 ≤ 7302250) (tail : ∀ m3 a3, TY m3 → RI m3 (t + 1) → a3.1 ≤ a.1 + 8 → a3.2 ≤ a.2 + 12400 → BL bs n xs 1242 (nI (7 * j)) [] m3 a3) : BL bs n xs 223 (nI (7 * j)) [] m a := by
  refine l_x hty dL_law_223 ?_
  refine l_scrc 1 (by omega) (by omega) dL_law_224 dL_law_225 dL_law_226 (by decide) dL_law_227 dL_law_228 ?_
  refine l_scrc 2 (by omega) (by omega) dL_law_229 dL_law_230 dL_law_231 (by decide) dL_law_232 dL_law_233 ?_
  refine l_scrc 3 (by omega) (by omega) dL_law_234 dL_law_235 dL_law_236 (by decide) dL_law_237 dL_law_238 ?_
  refine l_call (t := 10) (ix := 0) (st := []) S_X10_set [vi (xs (7 * j + 1)), vi (xs (7 * j + 2)), vi (xs (7 * j + 3))] (RX10, TX10, 9) rfl rfl (by decide) k464 k465 k466 k68 k467 (show _ ∧ _ ∧ Option.map (fun d => d.parameters.length) (parseMethodDescriptor yX10_set.desc) = some 3 from by decide +kernel) ⟨by decide, by decide⟩ ⟨rmm1 ha.1 (Nat.le_of_ble_eq_true rfl), rmm1 ha.2 (Nat.le_of_ble_eq_true rfl)⟩ (Nat.le_of_ble_eq_true rfl) dL_law_239 (MS_set hty hri (by omega)) (fun r m2 h hty2 => ?_)
  obtain ⟨x, rfl, h2⟩ := h
  refine l_m hty2 dL_law_242 ?_
  refine l_scrc 1 (by omega) (by omega) dL_law_243 dL_law_244 dL_law_245 (by decide) dL_law_246 dL_law_247 ?_
  refine l_scrc 2 (by omega) (by omega) dL_law_248 dL_law_249 dL_law_250 (by decide) dL_law_251 dL_law_252 ?_
  refine l_scrc 3 (by omega) (by omega) dL_law_253 dL_law_254 dL_law_255 (by decide) dL_law_256 dL_law_257 ?_
  refine l_call (t := 11) (ix := 110) (st := [vi x]) S_X11_set [vi (xs (7 * j + 1)), vi (xs (7 * j + 2)), vi (xs (7 * j + 3))] (RX11, TX11, 28) rfl rfl (by decide) k1146 k1147 k1148 k80 k1149 (show _ ∧ _ ∧ Option.map (fun d => d.parameters.length) (parseMethodDescriptor yX11_set.desc) = some 3 from by decide +kernel) ⟨by decide, by decide⟩ ⟨rmm2 ha.1 (Nat.le_of_ble_eq_true rfl) rfl, rmm2 ha.2 (Nat.le_of_ble_eq_true rfl) rfl⟩ (Nat.le_of_ble_eq_true rfl) dL_law_258 h2 (fun r2 m3 h3 hty3 => ?_)
  obtain ⟨rfl, hri3⟩ := h3
  refine l_eq 1242 dL_law_261 (by decide) ?_
  exact tail m3 _ hty3 hri3 (rmm3 (Nat.le_of_ble_eq_true rfl) rfl) (rmm3 (Nat.le_of_ble_eq_true rfl) rfl)
set_option maxHeartbeats 2000000 in
theorem law_2 {bs n j t : Nat} {xs : Nat → Int32} {m : AM} {a : Nat × Nat} (hn : n ≤ 448) (hj : 7 * j + 7 ≤ n) (hty : TY m) (hri : RI m t) (ht : t < 999) (ha : a.1 + 8 ≤ 600000 ∧ a.2 + 12400 ≤ 7302250) (tail : ∀ m3 a3, TY m3 → RI m3 (t + 1) → a3.1 ≤ a.1 + 8 → a3.2 ≤ a.2 + 12400 → BL bs n xs 1242 (nI (7 * j)) [] m3 a3) : BL bs n xs 266 (nI (7 * j)) [] m a := by
  refine l_x hty dL_law_266 ?_
  refine l_scrc 1 (by omega) (by omega) dL_law_267 dL_law_268 dL_law_269 (by decide) dL_law_270 dL_law_271 ?_
  refine l_scrc 2 (by omega) (by omega) dL_law_272 dL_law_273 dL_law_274 (by decide) dL_law_275 dL_law_276 ?_
  refine l_scrc 3 (by omega) (by omega) dL_law_277 dL_law_278 dL_law_279 (by decide) dL_law_280 dL_law_281 ?_
  refine l_scrc 4 (by omega) (by omega) dL_law_282 dL_law_283 dL_law_284 (by decide) dL_law_285 dL_law_286 ?_
  refine l_scrc 5 (by omega) (by omega) dL_law_287 dL_law_288 dL_law_289 (by decide) dL_law_290 dL_law_291 ?_
  refine l_call (t := 10) (ix := 0) (st := []) S_X10_copy [vi (xs (7 * j + 1)), vi (xs (7 * j + 2)), vi (xs (7 * j + 3)), vi (xs (7 * j + 4)), vi (xs (7 * j + 5))] (RX10, TX10, 9) rfl rfl (by decide) k480 k481 k482 k68 k483 (show _ ∧ _ ∧ Option.map (fun d => d.parameters.length) (parseMethodDescriptor yX10_copy.desc) = some 5 from by decide +kernel) ⟨by decide, by decide⟩ ⟨rmm1 ha.1 (Nat.le_of_ble_eq_true rfl), rmm1 ha.2 (Nat.le_of_ble_eq_true rfl)⟩ (Nat.le_of_ble_eq_true rfl) dL_law_292 (MS_copy hty hri (by omega)) (fun r m2 h hty2 => ?_)
  obtain ⟨x, rfl, h2⟩ := h
  refine l_m hty2 dL_law_295 ?_
  refine l_scrc 1 (by omega) (by omega) dL_law_296 dL_law_297 dL_law_298 (by decide) dL_law_299 dL_law_300 ?_
  refine l_scrc 2 (by omega) (by omega) dL_law_301 dL_law_302 dL_law_303 (by decide) dL_law_304 dL_law_305 ?_
  refine l_scrc 3 (by omega) (by omega) dL_law_306 dL_law_307 dL_law_308 (by decide) dL_law_309 dL_law_310 ?_
  refine l_scrc 4 (by omega) (by omega) dL_law_311 dL_law_312 dL_law_313 (by decide) dL_law_314 dL_law_315 ?_
  refine l_scrc 5 (by omega) (by omega) dL_law_316 dL_law_317 dL_law_318 (by decide) dL_law_319 dL_law_320 ?_
  refine l_call (t := 11) (ix := 110) (st := [vi x]) S_X11_copy [vi (xs (7 * j + 1)), vi (xs (7 * j + 2)), vi (xs (7 * j + 3)), vi (xs (7 * j + 4)), vi (xs (7 * j + 5))] (RX11, TX11, 28) rfl rfl (by decide) k1150 k1151 k1152 k80 k1153 (show _ ∧ _ ∧ Option.map (fun d => d.parameters.length) (parseMethodDescriptor yX11_copy.desc) = some 5 from by decide +kernel) ⟨by decide, by decide⟩ ⟨rmm2 ha.1 (Nat.le_of_ble_eq_true rfl) rfl, rmm2 ha.2 (Nat.le_of_ble_eq_true rfl) rfl⟩ (Nat.le_of_ble_eq_true rfl) dL_law_321 h2 (fun r2 m3 h3 hty3 => ?_)
  obtain ⟨rfl, hri3⟩ := h3
  refine l_eq 1242 dL_law_324 (by decide) ?_
  exact tail m3 _ hty3 hri3 (rmm3 (Nat.le_of_ble_eq_true rfl) rfl) (rmm3 (Nat.le_of_ble_eq_true rfl) rfl)
set_option maxHeartbeats 2000000 in
theorem law_3 {bs n j t : Nat} {xs : Nat → Int32} {m : AM} {a : Nat × Nat} (hn : n ≤ 448) (hj : 7 * j + 7 ≤ n) (hty : TY m) (hri : RI m t) (ht : t < 999) (ha : a.1 + 8 ≤ 600000 ∧ a.2 + 12400 ≤ 7302250) (tail : ∀ m3 a3, TY m3 → RI m3 (t + 1) → a3.1 ≤ a.1 + 8 → a3.2 ≤ a.2 + 12400 → BL bs n xs 1242 (nI (7 * j)) [] m3 a3) : BL bs n xs 329 (nI (7 * j)) [] m a := by
  refine l_x hty dL_law_329 ?_
  refine l_scrc 1 (by omega) (by omega) dL_law_330 dL_law_331 dL_law_332 (by decide) dL_law_333 dL_law_334 ?_
  refine l_call (t := 10) (ix := 0) (st := []) S_X10_drop [vi (xs (7 * j + 1))] (RX10, TX10, 9) rfl rfl (by decide) k496 k497 k498 k68 k499 (show _ ∧ _ ∧ Option.map (fun d => d.parameters.length) (parseMethodDescriptor yX10_drop.desc) = some 1 from by decide +kernel) ⟨by decide, by decide⟩ ⟨rmm1 ha.1 (Nat.le_of_ble_eq_true rfl), rmm1 ha.2 (Nat.le_of_ble_eq_true rfl)⟩ (Nat.le_of_ble_eq_true rfl) dL_law_335 (MS_drop hty hri (by omega)) (fun r m2 h hty2 => ?_)
  obtain ⟨x, rfl, h2⟩ := h
  refine l_m hty2 dL_law_338 ?_
  refine l_scrc 1 (by omega) (by omega) dL_law_339 dL_law_340 dL_law_341 (by decide) dL_law_342 dL_law_343 ?_
  refine l_call (t := 11) (ix := 110) (st := [vi x]) S_X11_drop [vi (xs (7 * j + 1))] (RX11, TX11, 28) rfl rfl (by decide) k1154 k1155 k1156 k80 k1157 (show _ ∧ _ ∧ Option.map (fun d => d.parameters.length) (parseMethodDescriptor yX11_drop.desc) = some 1 from by decide +kernel) ⟨by decide, by decide⟩ ⟨rmm2 ha.1 (Nat.le_of_ble_eq_true rfl) rfl, rmm2 ha.2 (Nat.le_of_ble_eq_true rfl) rfl⟩ (Nat.le_of_ble_eq_true rfl) dL_law_344 h2 (fun r2 m3 h3 hty3 => ?_)
  obtain ⟨rfl, hri3⟩ := h3
  refine l_eq 1242 dL_law_347 (by decide) ?_
  exact tail m3 _ hty3 hri3 (rmm3 (Nat.le_of_ble_eq_true rfl) rfl) (rmm3 (Nat.le_of_ble_eq_true rfl) rfl)
set_option maxHeartbeats 2000000 in
theorem law_4 {bs n j t : Nat} {xs : Nat → Int32} {m : AM} {a : Nat × Nat} (hn : n ≤ 448) (hj : 7 * j + 7 ≤ n) (hty : TY m) (hri : RI m t) (ht : t < 999) (ha : a.1 + 8 ≤ 600000 ∧ a.2 + 12400 ≤ 7302250) (tail : ∀ m3 a3, TY m3 → RI m3 (t + 1) → a3.1 ≤ a.1 + 8 → a3.2 ≤ a.2 + 12400 → BL bs n xs 1242 (nI (7 * j)) [] m3 a3) : BL bs n xs 352 (nI (7 * j)) [] m a := by
  refine l_x hty dL_law_352 ?_
  refine l_scrc 1 (by omega) (by omega) dL_law_353 dL_law_354 dL_law_355 (by decide) dL_law_356 dL_law_357 ?_
  refine l_call (t := 10) (ix := 0) (st := []) S_X10_feed [vi (xs (7 * j + 1))] (RX10, TX10, 9) rfl rfl (by decide) k504 k505 k506 k68 k507 (show _ ∧ _ ∧ Option.map (fun d => d.parameters.length) (parseMethodDescriptor yX10_feed.desc) = some 1 from by decide +kernel) ⟨by decide, by decide⟩ ⟨rmm1 ha.1 (Nat.le_of_ble_eq_true rfl), rmm1 ha.2 (Nat.le_of_ble_eq_true rfl)⟩ (Nat.le_of_ble_eq_true rfl) dL_law_358 (MS_feed hty hri (by omega)) (fun r m2 h hty2 => ?_)
  obtain ⟨x, rfl, h2⟩ := h
  refine l_m hty2 dL_law_361 ?_
  refine l_scrc 1 (by omega) (by omega) dL_law_362 dL_law_363 dL_law_364 (by decide) dL_law_365 dL_law_366 ?_
  refine l_call (t := 11) (ix := 110) (st := [vi x]) S_X11_feed [vi (xs (7 * j + 1))] (RX11, TX11, 28) rfl rfl (by decide) k1158 k1159 k1160 k80 k1161 (show _ ∧ _ ∧ Option.map (fun d => d.parameters.length) (parseMethodDescriptor yX11_feed.desc) = some 1 from by decide +kernel) ⟨by decide, by decide⟩ ⟨rmm2 ha.1 (Nat.le_of_ble_eq_true rfl) rfl, rmm2 ha.2 (Nat.le_of_ble_eq_true rfl) rfl⟩ (Nat.le_of_ble_eq_true rfl) dL_law_367 h2 (fun r2 m3 h3 hty3 => ?_)
  obtain ⟨rfl, hri3⟩ := h3
  refine l_eq 1242 dL_law_370 (by decide) ?_
  exact tail m3 _ hty3 hri3 (rmm3 (Nat.le_of_ble_eq_true rfl) rfl) (rmm3 (Nat.le_of_ble_eq_true rfl) rfl)
set_option maxHeartbeats 2000000 in
theorem law_5 {bs n j t : Nat} {xs : Nat → Int32} {m : AM} {a : Nat × Nat} (hn : n ≤ 448) (hj : 7 * j + 7 ≤ n) (hty : TY m) (hri : RI m t) (ht : t < 999) (ha : a.1 + 8 ≤ 600000 ∧ a.2 + 12400 ≤ 7302250) (tail : ∀ m3 a3, TY m3 → RI m3 (t + 1) → a3.1 ≤ a.1 + 8 → a3.2 ≤ a.2 + 12400 → BL bs n xs 1242 (nI (7 * j)) [] m3 a3) : BL bs n xs 375 (nI (7 * j)) [] m a := by
  refine l_x hty dL_law_375 ?_
  refine l_call (t := 10) (ix := 0) (st := []) S_X10_court [] (RX10, TX10, 9) rfl rfl (by decide) k513 k514 k515 k68 k516 (show _ ∧ _ ∧ Option.map (fun d => d.parameters.length) (parseMethodDescriptor yX10_court.desc) = some 0 from by decide +kernel) ⟨by decide, by decide⟩ ⟨rmm1 ha.1 (Nat.le_of_ble_eq_true rfl), rmm1 ha.2 (Nat.le_of_ble_eq_true rfl)⟩ (Nat.le_of_ble_eq_true rfl) dL_law_376 (MS_court hty hri (by omega)) (fun r m2 h hty2 => ?_)
  obtain ⟨x, rfl, h2⟩ := h
  refine l_m hty2 dL_law_379 ?_
  refine l_call (t := 11) (ix := 110) (st := [vi x]) S_X11_court [] (RX11, TX11, 28) rfl rfl (by decide) k1168 k1169 k1170 k80 k1171 (show _ ∧ _ ∧ Option.map (fun d => d.parameters.length) (parseMethodDescriptor yX11_court.desc) = some 0 from by decide +kernel) ⟨by decide, by decide⟩ ⟨rmm2 ha.1 (Nat.le_of_ble_eq_true rfl) rfl, rmm2 ha.2 (Nat.le_of_ble_eq_true rfl) rfl⟩ (Nat.le_of_ble_eq_true rfl) dL_law_380 h2 (fun r2 m3 h3 hty3 => ?_)
  obtain ⟨rfl, hri3⟩ := h3
  refine l_eq 1242 dL_law_383 (by decide) ?_
  exact tail m3 _ hty3 hri3 (rmm3 (Nat.le_of_ble_eq_true rfl) rfl) (rmm3 (Nat.le_of_ble_eq_true rfl) rfl)
set_option maxHeartbeats 2000000 in
theorem law_6 {bs n j t : Nat} {xs : Nat → Int32} {m : AM} {a : Nat × Nat} (hn : n ≤ 448) (hj : 7 * j + 7 ≤ n) (hty : TY m) (hri : RI m t) (ht : t < 999) (ha : a.1 + 8 ≤ 600000 ∧ a.2 + 12400 ≤ 7302250) (tail : ∀ m3 a3, TY m3 → RI m3 (t + 1) → a3.1 ≤ a.1 + 8 → a3.2 ≤ a.2 + 12400 → BL bs n xs 1242 (nI (7 * j)) [] m3 a3) : BL bs n xs 388 (nI (7 * j)) [] m a := by
  refine l_x hty dL_law_388 ?_
  refine l_call (t := 10) (ix := 0) (st := []) S_X10_fault [] (RX10, TX10, 9) rfl rfl (by decide) k608 k609 k610 k68 k611 (show _ ∧ _ ∧ Option.map (fun d => d.parameters.length) (parseMethodDescriptor yX10_fault.desc) = some 0 from by decide +kernel) ⟨by decide, by decide⟩ ⟨rmm1 ha.1 (Nat.le_of_ble_eq_true rfl), rmm1 ha.2 (Nat.le_of_ble_eq_true rfl)⟩ (Nat.le_of_ble_eq_true rfl) dL_law_389 (MS_fault hty hri (by omega)) (fun r m2 h hty2 => ?_)
  obtain ⟨x, rfl, h2⟩ := h
  refine l_m hty2 dL_law_392 ?_
  refine l_call (t := 11) (ix := 110) (st := [vi x]) S_X11_fault [] (RX11, TX11, 28) rfl rfl (by decide) k1164 k1165 k1166 k80 k1167 (show _ ∧ _ ∧ Option.map (fun d => d.parameters.length) (parseMethodDescriptor yX11_fault.desc) = some 0 from by decide +kernel) ⟨by decide, by decide⟩ ⟨rmm2 ha.1 (Nat.le_of_ble_eq_true rfl) rfl, rmm2 ha.2 (Nat.le_of_ble_eq_true rfl) rfl⟩ (Nat.le_of_ble_eq_true rfl) dL_law_393 h2 (fun r2 m3 h3 hty3 => ?_)
  obtain ⟨rfl, hri3⟩ := h3
  refine l_eq 1242 dL_law_396 (by decide) ?_
  exact tail m3 _ hty3 hri3 (rmm3 (Nat.le_of_ble_eq_true rfl) rfl) (rmm3 (Nat.le_of_ble_eq_true rfl) rfl)
set_option maxHeartbeats 2000000 in
theorem law_7 {bs n j t : Nat} {xs : Nat → Int32} {m : AM} {a : Nat × Nat} (hn : n ≤ 448) (hj : 7 * j + 7 ≤ n) (hty : TY m) (hri : RI m t) (ht : t < 999) (ha : a.1 + 8 ≤ 600000 ∧ a.2 + 12400 ≤ 7302250) (tail : ∀ m3 a3, TY m3 → RI m3 (t + 1) → a3.1 ≤ a.1 + 8 → a3.2 ≤ a.2 + 12400 → BL bs n xs 1242 (nI (7 * j)) [] m3 a3) : BL bs n xs 401 (nI (7 * j)) [] m a := by
  refine l_x hty dL_law_401 ?_
  refine l_call (t := 10) (ix := 0) (st := []) S_X10_undo [] (RX10, TX10, 9) rfl rfl (by decide) k616 k617 k618 k68 k619 (show _ ∧ _ ∧ Option.map (fun d => d.parameters.length) (parseMethodDescriptor yX10_undo.desc) = some 0 from by decide +kernel) ⟨by decide, by decide⟩ ⟨rmm1 ha.1 (Nat.le_of_ble_eq_true rfl), rmm1 ha.2 (Nat.le_of_ble_eq_true rfl)⟩ (Nat.le_of_ble_eq_true rfl) dL_law_402 (MS_undo hty hri (by omega)) (fun r m2 h hty2 => ?_)
  obtain ⟨x, rfl, h2⟩ := h
  refine l_m hty2 dL_law_405 ?_
  refine l_call (t := 11) (ix := 110) (st := [vi x]) S_X11_undo [] (RX11, TX11, 28) rfl rfl (by decide) k1284 k1285 k1286 k80 k1287 (show _ ∧ _ ∧ Option.map (fun d => d.parameters.length) (parseMethodDescriptor yX11_undo.desc) = some 0 from by decide +kernel) ⟨by decide, by decide⟩ ⟨rmm2 ha.1 (Nat.le_of_ble_eq_true rfl) rfl, rmm2 ha.2 (Nat.le_of_ble_eq_true rfl) rfl⟩ (Nat.le_of_ble_eq_true rfl) dL_law_406 h2 (fun r2 m3 h3 hty3 => ?_)
  obtain ⟨rfl, hri3⟩ := h3
  refine l_eq 1242 dL_law_409 (by decide) ?_
  exact tail m3 _ hty3 hri3 (rmm3 (Nat.le_of_ble_eq_true rfl) rfl) (rmm3 (Nat.le_of_ble_eq_true rfl) rfl)
set_option maxHeartbeats 2000000 in
theorem law_8 {bs n j t : Nat} {xs : Nat → Int32} {m : AM} {a : Nat × Nat} (hn : n ≤ 448) (hj : 7 * j + 7 ≤ n) (hty : TY m) (hri : RI m t) (ht : t < 999) (ha : a.1 + 8 ≤ 600000 ∧ a.2 + 12400 ≤ 7302250) (tail : ∀ m3 a3, TY m3 → RI m3 (t + 1) → a3.1 ≤ a.1 + 8 → a3.2 ≤ a.2 + 12400 → BL bs n xs 1242 (nI (7 * j)) [] m3 a3) : BL bs n xs 414 (nI (7 * j)) [] m a := by
  refine l_x hty dL_law_414 ?_
  refine l_scrc 1 (by omega) (by omega) dL_law_415 dL_law_416 dL_law_417 (by decide) dL_law_418 dL_law_419 ?_
  refine l_scrc 2 (by omega) (by omega) dL_law_420 dL_law_421 dL_law_422 (by decide) dL_law_423 dL_law_424 ?_
  refine l_call (t := 10) (ix := 0) (st := []) S_X10_say [vi (xs (7 * j + 1)), vi (xs (7 * j + 2))] (RX10, TX10, 9) rfl rfl (by decide) k638 k639 k640 k68 k641 (show _ ∧ _ ∧ Option.map (fun d => d.parameters.length) (parseMethodDescriptor yX10_say.desc) = some 2 from by decide +kernel) ⟨by decide, by decide⟩ ⟨rmm1 ha.1 (Nat.le_of_ble_eq_true rfl), rmm1 ha.2 (Nat.le_of_ble_eq_true rfl)⟩ (Nat.le_of_ble_eq_true rfl) dL_law_425 (MS_say hty hri (by omega)) (fun r m2 h hty2 => ?_)
  obtain ⟨x, rfl, h2⟩ := h
  refine l_m hty2 dL_law_428 ?_
  refine l_scrc 1 (by omega) (by omega) dL_law_429 dL_law_430 dL_law_431 (by decide) dL_law_432 dL_law_433 ?_
  refine l_scrc 2 (by omega) (by omega) dL_law_434 dL_law_435 dL_law_436 (by decide) dL_law_437 dL_law_438 ?_
  refine l_call (t := 11) (ix := 110) (st := [vi x]) S_X11_say [vi (xs (7 * j + 1)), vi (xs (7 * j + 2))] (RX11, TX11, 28) rfl rfl (by decide) k1225 k1226 k1227 k80 k1228 (show _ ∧ _ ∧ Option.map (fun d => d.parameters.length) (parseMethodDescriptor yX11_say.desc) = some 2 from by decide +kernel) ⟨by decide, by decide⟩ ⟨rmm2 ha.1 (Nat.le_of_ble_eq_true rfl) rfl, rmm2 ha.2 (Nat.le_of_ble_eq_true rfl) rfl⟩ (Nat.le_of_ble_eq_true rfl) dL_law_439 h2 (fun r2 m3 h3 hty3 => ?_)
  obtain ⟨rfl, hri3⟩ := h3
  refine l_eq 1242 dL_law_442 (by decide) ?_
  exact tail m3 _ hty3 hri3 (rmm3 (Nat.le_of_ble_eq_true rfl) rfl) (rmm3 (Nat.le_of_ble_eq_true rfl) rfl)
set_option maxHeartbeats 2000000 in
theorem law_9 {bs n j t : Nat} {xs : Nat → Int32} {m : AM} {a : Nat × Nat} (hn : n ≤ 448) (hj : 7 * j + 7 ≤ n) (hty : TY m) (hri : RI m t) (ht : t < 999) (ha : a.1 + 8 ≤ 600000 ∧ a.2 + 12400 ≤ 7302250) (tail : ∀ m3 a3, TY m3 → RI m3 (t + 1) → a3.1 ≤ a.1 + 8 → a3.2 ≤ a.2 + 12400 → BL bs n xs 1242 (nI (7 * j)) [] m3 a3) : BL bs n xs 447 (nI (7 * j)) [] m a := by
  refine l_x hty dL_law_447 ?_
  refine l_scrc 1 (by omega) (by omega) dL_law_448 dL_law_449 dL_law_450 (by decide) dL_law_451 dL_law_452 ?_
  refine l_call (t := 10) (ix := 0) (st := []) S_X10_pardon [vi (xs (7 * j + 1))] (RX10, TX10, 9) rfl rfl (by decide) k697 k698 k699 k68 k700 (show _ ∧ _ ∧ Option.map (fun d => d.parameters.length) (parseMethodDescriptor yX10_pardon.desc) = some 1 from by decide +kernel) ⟨by decide, by decide⟩ ⟨rmm1 ha.1 (Nat.le_of_ble_eq_true rfl), rmm1 ha.2 (Nat.le_of_ble_eq_true rfl)⟩ (Nat.le_of_ble_eq_true rfl) dL_law_453 (MS_pardon hty hri (by omega)) (fun r m2 h hty2 => ?_)
  obtain ⟨x, rfl, h2⟩ := h
  refine l_m hty2 dL_law_456 ?_
  refine l_scrc 1 (by omega) (by omega) dL_law_457 dL_law_458 dL_law_459 (by decide) dL_law_460 dL_law_461 ?_
  refine l_call (t := 11) (ix := 110) (st := [vi x]) S_X11_pardon [vi (xs (7 * j + 1))] (RX11, TX11, 28) rfl rfl (by decide) k1267 k1268 k1269 k80 k1270 (show _ ∧ _ ∧ Option.map (fun d => d.parameters.length) (parseMethodDescriptor yX11_pardon.desc) = some 1 from by decide +kernel) ⟨by decide, by decide⟩ ⟨rmm2 ha.1 (Nat.le_of_ble_eq_true rfl) rfl, rmm2 ha.2 (Nat.le_of_ble_eq_true rfl) rfl⟩ (Nat.le_of_ble_eq_true rfl) dL_law_462 h2 (fun r2 m3 h3 hty3 => ?_)
  obtain ⟨rfl, hri3⟩ := h3
  refine l_eq 1242 dL_law_465 (by decide) ?_
  exact tail m3 _ hty3 hri3 (rmm3 (Nat.le_of_ble_eq_true rfl) rfl) (rmm3 (Nat.le_of_ble_eq_true rfl) rfl)
set_option maxHeartbeats 2000000 in
theorem law_10 {bs n j t : Nat} {xs : Nat → Int32} {m : AM} {a : Nat × Nat} (hn : n ≤ 448) (hj : 7 * j + 7 ≤ n) (hty : TY m) (hri : RI m t) (ht : t < 999) (ha : a.1 + 8 ≤ 600000 ∧ a.2 + 12400 ≤ 7302250) (tail : ∀ m3 a3, TY m3 → RI m3 (t + 1) → a3.1 ≤ a.1 + 8 → a3.2 ≤ a.2 + 12400 → BL bs n xs 1242 (nI (7 * j)) [] m3 a3) : BL bs n xs 470 (nI (7 * j)) [] m a := by
  refine l_x hty dL_law_470 ?_
  refine l_scrc 1 (by omega) (by omega) dL_law_471 dL_law_472 dL_law_473 (by decide) dL_law_474 dL_law_475 ?_
  refine l_scrc 2 (by omega) (by omega) dL_law_476 dL_law_477 dL_law_478 (by decide) dL_law_479 dL_law_480 ?_
  refine l_call (t := 10) (ix := 0) (st := []) S_X10_strike [vi (xs (7 * j + 1)), vi (xs (7 * j + 2))] (RX10, TX10, 9) rfl rfl (by decide) k701 k702 k703 k68 k704 (show _ ∧ _ ∧ Option.map (fun d => d.parameters.length) (parseMethodDescriptor yX10_strike.desc) = some 2 from by decide +kernel) ⟨by decide, by decide⟩ ⟨rmm1 ha.1 (Nat.le_of_ble_eq_true rfl), rmm1 ha.2 (Nat.le_of_ble_eq_true rfl)⟩ (Nat.le_of_ble_eq_true rfl) dL_law_481 (MS_strike hty hri (by omega)) (fun r m2 h hty2 => ?_)
  obtain ⟨x, rfl, h2⟩ := h
  refine l_m hty2 dL_law_484 ?_
  refine l_scrc 1 (by omega) (by omega) dL_law_485 dL_law_486 dL_law_487 (by decide) dL_law_488 dL_law_489 ?_
  refine l_scrc 2 (by omega) (by omega) dL_law_490 dL_law_491 dL_law_492 (by decide) dL_law_493 dL_law_494 ?_
  refine l_call (t := 11) (ix := 110) (st := [vi x]) S_X11_strike [vi (xs (7 * j + 1)), vi (xs (7 * j + 2))] (RX11, TX11, 28) rfl rfl (by decide) k1276 k1277 k1278 k80 k1279 (show _ ∧ _ ∧ Option.map (fun d => d.parameters.length) (parseMethodDescriptor yX11_strike.desc) = some 2 from by decide +kernel) ⟨by decide, by decide⟩ ⟨rmm2 ha.1 (Nat.le_of_ble_eq_true rfl) rfl, rmm2 ha.2 (Nat.le_of_ble_eq_true rfl) rfl⟩ (Nat.le_of_ble_eq_true rfl) dL_law_495 h2 (fun r2 m3 h3 hty3 => ?_)
  obtain ⟨rfl, hri3⟩ := h3
  refine l_eq 1242 dL_law_498 (by decide) ?_
  exact tail m3 _ hty3 hri3 (rmm3 (Nat.le_of_ble_eq_true rfl) rfl) (rmm3 (Nat.le_of_ble_eq_true rfl) rfl)
set_option maxHeartbeats 2000000 in
theorem law_11 {bs n j t : Nat} {xs : Nat → Int32} {m : AM} {a : Nat × Nat} (hn : n ≤ 448) (hj : 7 * j + 7 ≤ n) (hty : TY m) (hri : RI m t) (ht : t < 999) (ha : a.1 + 8 ≤ 600000 ∧ a.2 + 12400 ≤ 7302250) (tail : ∀ m3 a3, TY m3 → RI m3 (t + 1) → a3.1 ≤ a.1 + 8 → a3.2 ≤ a.2 + 12400 → BL bs n xs 1242 (nI (7 * j)) [] m3 a3) : BL bs n xs 503 (nI (7 * j)) [] m a := by
  refine l_x hty dL_law_503 ?_
  refine l_scrc 1 (by omega) (by omega) dL_law_504 dL_law_505 dL_law_506 (by decide) dL_law_507 dL_law_508 ?_
  refine l_call (t := 10) (ix := 0) (st := []) S_X10_stand [vi (xs (7 * j + 1))] (RX10, TX10, 9) rfl rfl (by decide) k716 k717 k718 k68 k719 (show _ ∧ _ ∧ Option.map (fun d => d.parameters.length) (parseMethodDescriptor yX10_stand.desc) = some 1 from by decide +kernel) ⟨by decide, by decide⟩ ⟨rmm1 ha.1 (Nat.le_of_ble_eq_true rfl), rmm1 ha.2 (Nat.le_of_ble_eq_true rfl)⟩ (Nat.le_of_ble_eq_true rfl) dL_law_509 (MS_stand hty hri (by omega)) (fun r m2 h hty2 => ?_)
  obtain ⟨x, rfl, h2⟩ := h
  refine l_m hty2 dL_law_512 ?_
  refine l_scrc 1 (by omega) (by omega) dL_law_513 dL_law_514 dL_law_515 (by decide) dL_law_516 dL_law_517 ?_
  refine l_call (t := 11) (ix := 110) (st := [vi x]) S_X11_stand [vi (xs (7 * j + 1))] (RX11, TX11, 28) rfl rfl (by decide) k1288 k1289 k1290 k80 k1291 (show _ ∧ _ ∧ Option.map (fun d => d.parameters.length) (parseMethodDescriptor yX11_stand.desc) = some 1 from by decide +kernel) ⟨by decide, by decide⟩ ⟨rmm2 ha.1 (Nat.le_of_ble_eq_true rfl) rfl, rmm2 ha.2 (Nat.le_of_ble_eq_true rfl) rfl⟩ (Nat.le_of_ble_eq_true rfl) dL_law_518 h2 (fun r2 m3 h3 hty3 => ?_)
  obtain ⟨rfl, hri3⟩ := h3
  refine l_eq 1242 dL_law_521 (by decide) ?_
  exact tail m3 _ hty3 hri3 (rmm3 (Nat.le_of_ble_eq_true rfl) rfl) (rmm3 (Nat.le_of_ble_eq_true rfl) rfl)
set_option maxHeartbeats 2000000 in
theorem law_12 {bs n j t : Nat} {xs : Nat → Int32} {m : AM} {a : Nat × Nat} (hn : n ≤ 448) (hj : 7 * j + 7 ≤ n) (hty : TY m) (hri : RI m t) (ht : t < 999) (ha : a.1 + 8 ≤ 600000 ∧ a.2 + 12400 ≤ 7302250) (tail : ∀ m3 a3, TY m3 → RI m3 (t + 1) → a3.1 ≤ a.1 + 8 → a3.2 ≤ a.2 + 12400 → BL bs n xs 1242 (nI (7 * j)) [] m3 a3) : BL bs n xs 526 (nI (7 * j)) [] m a := by
  refine l_x hty dL_law_526 ?_
  refine l_scrc 1 (by omega) (by omega) dL_law_527 dL_law_528 dL_law_529 (by decide) dL_law_530 dL_law_531 ?_
  refine l_scrc 2 (by omega) (by omega) dL_law_532 dL_law_533 dL_law_534 (by decide) dL_law_535 dL_law_536 ?_
  refine l_call (t := 10) (ix := 0) (st := []) S_X10_rule [vi (xs (7 * j + 1)), vi (xs (7 * j + 2))] (RX10, TX10, 9) rfl rfl (by decide) k724 k725 k726 k68 k727 (show _ ∧ _ ∧ Option.map (fun d => d.parameters.length) (parseMethodDescriptor yX10_rule.desc) = some 2 from by decide +kernel) ⟨by decide, by decide⟩ ⟨rmm1 ha.1 (Nat.le_of_ble_eq_true rfl), rmm1 ha.2 (Nat.le_of_ble_eq_true rfl)⟩ (Nat.le_of_ble_eq_true rfl) dL_law_537 (MS_rule hty hri (by omega)) (fun r m2 h hty2 => ?_)
  obtain ⟨x, rfl, h2⟩ := h
  refine l_m hty2 dL_law_540 ?_
  refine l_scrc 1 (by omega) (by omega) dL_law_541 dL_law_542 dL_law_543 (by decide) dL_law_544 dL_law_545 ?_
  refine l_scrc 2 (by omega) (by omega) dL_law_546 dL_law_547 dL_law_548 (by decide) dL_law_549 dL_law_550 ?_
  refine l_call (t := 11) (ix := 110) (st := [vi x]) S_X11_rule [vi (xs (7 * j + 1)), vi (xs (7 * j + 2))] (RX11, TX11, 28) rfl rfl (by decide) k1296 k1297 k1298 k80 k1299 (show _ ∧ _ ∧ Option.map (fun d => d.parameters.length) (parseMethodDescriptor yX11_rule.desc) = some 2 from by decide +kernel) ⟨by decide, by decide⟩ ⟨rmm2 ha.1 (Nat.le_of_ble_eq_true rfl) rfl, rmm2 ha.2 (Nat.le_of_ble_eq_true rfl) rfl⟩ (Nat.le_of_ble_eq_true rfl) dL_law_551 h2 (fun r2 m3 h3 hty3 => ?_)
  obtain ⟨rfl, hri3⟩ := h3
  refine l_eq 1242 dL_law_554 (by decide) ?_
  exact tail m3 _ hty3 hri3 (rmm3 (Nat.le_of_ble_eq_true rfl) rfl) (rmm3 (Nat.le_of_ble_eq_true rfl) rfl)
set_option maxHeartbeats 2000000 in
theorem law_13 {bs n j t : Nat} {xs : Nat → Int32} {m : AM} {a : Nat × Nat} (hn : n ≤ 448) (hj : 7 * j + 7 ≤ n) (hty : TY m) (hri : RI m t) (ht : t < 999) (ha : a.1 + 8 ≤ 600000 ∧ a.2 + 12400 ≤ 7302250) (tail : ∀ m3 a3, TY m3 → RI m3 (t + 1) → a3.1 ≤ a.1 + 8 → a3.2 ≤ a.2 + 12400 → BL bs n xs 1242 (nI (7 * j)) [] m3 a3) : BL bs n xs 559 (nI (7 * j)) [] m a := by
  refine l_x hty dL_law_559 ?_
  refine l_scrc 1 (by omega) (by omega) dL_law_560 dL_law_561 dL_law_562 (by decide) dL_law_563 dL_law_564 ?_
  refine l_call (t := 10) (ix := 0) (st := []) S_X10_cell [vi (xs (7 * j + 1))] (RX10, TX10, 9) rfl rfl (by decide) k728 k729 k730 k68 k731 (show _ ∧ _ ∧ Option.map (fun d => d.parameters.length) (parseMethodDescriptor yX10_cell.desc) = some 1 from by decide +kernel) ⟨by decide, by decide⟩ ⟨rmm1 ha.1 (Nat.le_of_ble_eq_true rfl), rmm1 ha.2 (Nat.le_of_ble_eq_true rfl)⟩ (Nat.le_of_ble_eq_true rfl) dL_law_565 (MS_cell hty hri (by omega)) (fun r m2 h hty2 => ?_)
  obtain ⟨x, rfl, h2⟩ := h
  refine l_m hty2 dL_law_568 ?_
  refine l_scrc 1 (by omega) (by omega) dL_law_569 dL_law_570 dL_law_571 (by decide) dL_law_572 dL_law_573 ?_
  refine l_call (t := 11) (ix := 110) (st := [vi x]) S_X11_cell [vi (xs (7 * j + 1))] (RX11, TX11, 28) rfl rfl (by decide) k1301 k1302 k1303 k80 k1304 (show _ ∧ _ ∧ Option.map (fun d => d.parameters.length) (parseMethodDescriptor yX11_cell.desc) = some 1 from by decide +kernel) ⟨by decide, by decide⟩ ⟨rmm2 ha.1 (Nat.le_of_ble_eq_true rfl) rfl, rmm2 ha.2 (Nat.le_of_ble_eq_true rfl) rfl⟩ (Nat.le_of_ble_eq_true rfl) dL_law_574 h2 (fun r2 m3 h3 hty3 => ?_)
  obtain ⟨rfl, hri3⟩ := h3
  refine l_eq 1242 dL_law_577 (by decide) ?_
  exact tail m3 _ hty3 hri3 (rmm3 (Nat.le_of_ble_eq_true rfl) rfl) (rmm3 (Nat.le_of_ble_eq_true rfl) rfl)
set_option maxHeartbeats 2000000 in
theorem law_14 {bs n j t : Nat} {xs : Nat → Int32} {m : AM} {a : Nat × Nat} (hn : n ≤ 448) (hj : 7 * j + 7 ≤ n) (hty : TY m) (hri : RI m t) (ht : t < 999) (ha : a.1 + 8 ≤ 600000 ∧ a.2 + 12400 ≤ 7302250) (tail : ∀ m3 a3, TY m3 → RI m3 (t + 1) → a3.1 ≤ a.1 + 8 → a3.2 ≤ a.2 + 12400 → BL bs n xs 1242 (nI (7 * j)) [] m3 a3) : BL bs n xs 582 (nI (7 * j)) [] m a := by
  refine l_x hty dL_law_582 ?_
  refine l_scrc 1 (by omega) (by omega) dL_law_583 dL_law_584 dL_law_585 (by decide) dL_law_586 dL_law_587 ?_
  refine l_scrc 2 (by omega) (by omega) dL_law_588 dL_law_589 dL_law_590 (by decide) dL_law_591 dL_law_592 ?_
  refine l_call (t := 10) (ix := 0) (st := []) S_X10_makes [vi (xs (7 * j + 1)), vi (xs (7 * j + 2))] (RX10, TX10, 9) rfl rfl (by decide) k732 k733 k734 k68 k735 (show _ ∧ _ ∧ Option.map (fun d => d.parameters.length) (parseMethodDescriptor yX10_makes.desc) = some 2 from by decide +kernel) ⟨by decide, by decide⟩ ⟨rmm1 ha.1 (Nat.le_of_ble_eq_true rfl), rmm1 ha.2 (Nat.le_of_ble_eq_true rfl)⟩ (Nat.le_of_ble_eq_true rfl) dL_law_593 (MS_makes hty hri (by omega)) (fun r m2 h hty2 => ?_)
  obtain ⟨x, rfl, h2⟩ := h
  refine l_m hty2 dL_law_596 ?_
  refine l_scrc 1 (by omega) (by omega) dL_law_597 dL_law_598 dL_law_599 (by decide) dL_law_600 dL_law_601 ?_
  refine l_scrc 2 (by omega) (by omega) dL_law_602 dL_law_603 dL_law_604 (by decide) dL_law_605 dL_law_606 ?_
  refine l_call (t := 11) (ix := 110) (st := [vi x]) S_X11_makes [vi (xs (7 * j + 1)), vi (xs (7 * j + 2))] (RX11, TX11, 28) rfl rfl (by decide) k1305 k1306 k1307 k80 k1308 (show _ ∧ _ ∧ Option.map (fun d => d.parameters.length) (parseMethodDescriptor yX11_makes.desc) = some 2 from by decide +kernel) ⟨by decide, by decide⟩ ⟨rmm2 ha.1 (Nat.le_of_ble_eq_true rfl) rfl, rmm2 ha.2 (Nat.le_of_ble_eq_true rfl) rfl⟩ (Nat.le_of_ble_eq_true rfl) dL_law_607 h2 (fun r2 m3 h3 hty3 => ?_)
  obtain ⟨rfl, hri3⟩ := h3
  refine l_eq 1242 dL_law_610 (by decide) ?_
  exact tail m3 _ hty3 hri3 (rmm3 (Nat.le_of_ble_eq_true rfl) rfl) (rmm3 (Nat.le_of_ble_eq_true rfl) rfl)
set_option maxHeartbeats 2000000 in
theorem law_15 {bs n j t : Nat} {xs : Nat → Int32} {m : AM} {a : Nat × Nat} (hn : n ≤ 448) (hj : 7 * j + 7 ≤ n) (hty : TY m) (hri : RI m t) (ht : t < 999) (ha : a.1 + 8 ≤ 600000 ∧ a.2 + 12400 ≤ 7302250) (tail : ∀ m3 a3, TY m3 → RI m3 (t + 1) → a3.1 ≤ a.1 + 8 → a3.2 ≤ a.2 + 12400 → BL bs n xs 1242 (nI (7 * j)) [] m3 a3) : BL bs n xs 615 (nI (7 * j)) [] m a := by
  refine l_x hty dL_law_615 ?_
  refine l_scrc 1 (by omega) (by omega) dL_law_616 dL_law_617 dL_law_618 (by decide) dL_law_619 dL_law_620 ?_
  refine l_scrc 2 (by omega) (by omega) dL_law_621 dL_law_622 dL_law_623 (by decide) dL_law_624 dL_law_625 ?_
  refine l_scrc 3 (by omega) (by omega) dL_law_626 dL_law_627 dL_law_628 (by decide) dL_law_629 dL_law_630 ?_
  refine l_call (t := 10) (ix := 0) (st := []) S_X10_shortest [vi (xs (7 * j + 1)), vi (xs (7 * j + 2)), vi (xs (7 * j + 3))] (RX10, TX10, 9) rfl rfl (by decide) k737 k738 k739 k68 k740 (show _ ∧ _ ∧ Option.map (fun d => d.parameters.length) (parseMethodDescriptor yX10_shortest.desc) = some 3 from by decide +kernel) ⟨by decide, by decide⟩ ⟨rmm1 ha.1 (Nat.le_of_ble_eq_true rfl), rmm1 ha.2 (Nat.le_of_ble_eq_true rfl)⟩ (Nat.le_of_ble_eq_true rfl) dL_law_631 (MS_shortest hty hri (by omega)) (fun r m2 h hty2 => ?_)
  obtain ⟨x, rfl, h2⟩ := h
  refine l_m hty2 dL_law_634 ?_
  refine l_scrc 1 (by omega) (by omega) dL_law_635 dL_law_636 dL_law_637 (by decide) dL_law_638 dL_law_639 ?_
  refine l_scrc 2 (by omega) (by omega) dL_law_640 dL_law_641 dL_law_642 (by decide) dL_law_643 dL_law_644 ?_
  refine l_scrc 3 (by omega) (by omega) dL_law_645 dL_law_646 dL_law_647 (by decide) dL_law_648 dL_law_649 ?_
  refine l_call (t := 11) (ix := 110) (st := [vi x]) S_X11_shortest [vi (xs (7 * j + 1)), vi (xs (7 * j + 2)), vi (xs (7 * j + 3))] (RX11, TX11, 28) rfl rfl (by decide) k1309 k1310 k1311 k80 k1312 (show _ ∧ _ ∧ Option.map (fun d => d.parameters.length) (parseMethodDescriptor yX11_shortest.desc) = some 3 from by decide +kernel) ⟨by decide, by decide⟩ ⟨rmm2 ha.1 (Nat.le_of_ble_eq_true rfl) rfl, rmm2 ha.2 (Nat.le_of_ble_eq_true rfl) rfl⟩ (Nat.le_of_ble_eq_true rfl) dL_law_650 h2 (fun r2 m3 h3 hty3 => ?_)
  obtain ⟨rfl, hri3⟩ := h3
  refine l_eq 1242 dL_law_653 (by decide) ?_
  exact tail m3 _ hty3 hri3 (rmm3 (Nat.le_of_ble_eq_true rfl) rfl) (rmm3 (Nat.le_of_ble_eq_true rfl) rfl)
set_option maxHeartbeats 2000000 in
theorem law_16 {bs n j t : Nat} {xs : Nat → Int32} {m : AM} {a : Nat × Nat} (hn : n ≤ 448) (hj : 7 * j + 7 ≤ n) (hty : TY m) (hri : RI m t) (ht : t < 999) (ha : a.1 + 8 ≤ 600000 ∧ a.2 + 12400 ≤ 7302250) (tail : ∀ m3 a3, TY m3 → RI m3 (t + 1) → a3.1 ≤ a.1 + 8 → a3.2 ≤ a.2 + 12400 → BL bs n xs 1242 (nI (7 * j)) [] m3 a3) : BL bs n xs 658 (nI (7 * j)) [] m a := by
  refine l_x hty dL_law_658 ?_
  refine l_scrc 1 (by omega) (by omega) dL_law_659 dL_law_660 dL_law_661 (by decide) dL_law_662 dL_law_663 ?_
  refine l_scrc 2 (by omega) (by omega) dL_law_664 dL_law_665 dL_law_666 (by decide) dL_law_667 dL_law_668 ?_
  refine l_scrc 3 (by omega) (by omega) dL_law_669 dL_law_670 dL_law_671 (by decide) dL_law_672 dL_law_673 ?_
  refine l_call (t := 10) (ix := 0) (st := []) S_X10_cheapest [vi (xs (7 * j + 1)), vi (xs (7 * j + 2)), vi (xs (7 * j + 3))] (RX10, TX10, 9) rfl rfl (by decide) k800 k801 k802 k68 k803 (show _ ∧ _ ∧ Option.map (fun d => d.parameters.length) (parseMethodDescriptor yX10_cheapest.desc) = some 3 from by decide +kernel) ⟨by decide, by decide⟩ ⟨rmm1 ha.1 (Nat.le_of_ble_eq_true rfl), rmm1 ha.2 (Nat.le_of_ble_eq_true rfl)⟩ (Nat.le_of_ble_eq_true rfl) dL_law_674 (MS_cheapest hty hri (by omega)) (fun r m2 h hty2 => ?_)
  obtain ⟨x, rfl, h2⟩ := h
  refine l_m hty2 dL_law_677 ?_
  refine l_scrc 1 (by omega) (by omega) dL_law_678 dL_law_679 dL_law_680 (by decide) dL_law_681 dL_law_682 ?_
  refine l_scrc 2 (by omega) (by omega) dL_law_683 dL_law_684 dL_law_685 (by decide) dL_law_686 dL_law_687 ?_
  refine l_scrc 3 (by omega) (by omega) dL_law_688 dL_law_689 dL_law_690 (by decide) dL_law_691 dL_law_692 ?_
  refine l_call (t := 11) (ix := 110) (st := [vi x]) S_X11_cheapest [vi (xs (7 * j + 1)), vi (xs (7 * j + 2)), vi (xs (7 * j + 3))] (RX11, TX11, 28) rfl rfl (by decide) k1341 k1342 k1343 k80 k1344 (show _ ∧ _ ∧ Option.map (fun d => d.parameters.length) (parseMethodDescriptor yX11_cheapest.desc) = some 3 from by decide +kernel) ⟨by decide, by decide⟩ ⟨rmm2 ha.1 (Nat.le_of_ble_eq_true rfl) rfl, rmm2 ha.2 (Nat.le_of_ble_eq_true rfl) rfl⟩ (Nat.le_of_ble_eq_true rfl) dL_law_693 h2 (fun r2 m3 h3 hty3 => ?_)
  obtain ⟨rfl, hri3⟩ := h3
  refine l_eq 1242 dL_law_696 (by decide) ?_
  exact tail m3 _ hty3 hri3 (rmm3 (Nat.le_of_ble_eq_true rfl) rfl) (rmm3 (Nat.le_of_ble_eq_true rfl) rfl)
set_option maxHeartbeats 2000000 in
theorem law_17 {bs n j t : Nat} {xs : Nat → Int32} {m : AM} {a : Nat × Nat} (hn : n ≤ 448) (hj : 7 * j + 7 ≤ n) (hty : TY m) (hri : RI m t) (ht : t < 999) (ha : a.1 + 8 ≤ 600000 ∧ a.2 + 12400 ≤ 7302250) (tail : ∀ m3 a3, TY m3 → RI m3 (t + 1) → a3.1 ≤ a.1 + 8 → a3.2 ≤ a.2 + 12400 → BL bs n xs 1242 (nI (7 * j)) [] m3 a3) : BL bs n xs 701 (nI (7 * j)) [] m a := by
  refine l_x hty dL_law_701 ?_
  refine l_scrc 1 (by omega) (by omega) dL_law_702 dL_law_703 dL_law_704 (by decide) dL_law_705 dL_law_706 ?_
  refine l_call (t := 10) (ix := 0) (st := []) S_X10_idle [vi (xs (7 * j + 1))] (RX10, TX10, 9) rfl rfl (by decide) k808 k809 k810 k68 k811 (show _ ∧ _ ∧ Option.map (fun d => d.parameters.length) (parseMethodDescriptor yX10_idle.desc) = some 1 from by decide +kernel) ⟨by decide, by decide⟩ ⟨rmm1 ha.1 (Nat.le_of_ble_eq_true rfl), rmm1 ha.2 (Nat.le_of_ble_eq_true rfl)⟩ (Nat.le_of_ble_eq_true rfl) dL_law_707 (MS_idle hty hri (by omega)) (fun r m2 h hty2 => ?_)
  obtain ⟨x, rfl, h2⟩ := h
  refine l_m hty2 dL_law_710 ?_
  refine l_scrc 1 (by omega) (by omega) dL_law_711 dL_law_712 dL_law_713 (by decide) dL_law_714 dL_law_715 ?_
  refine l_call (t := 11) (ix := 110) (st := [vi x]) S_X11_idle [vi (xs (7 * j + 1))] (RX11, TX11, 28) rfl rfl (by decide) k1345 k1346 k1347 k80 k1348 (show _ ∧ _ ∧ Option.map (fun d => d.parameters.length) (parseMethodDescriptor yX11_idle.desc) = some 1 from by decide +kernel) ⟨by decide, by decide⟩ ⟨rmm2 ha.1 (Nat.le_of_ble_eq_true rfl) rfl, rmm2 ha.2 (Nat.le_of_ble_eq_true rfl) rfl⟩ (Nat.le_of_ble_eq_true rfl) dL_law_716 h2 (fun r2 m3 h3 hty3 => ?_)
  obtain ⟨rfl, hri3⟩ := h3
  refine l_eq 1242 dL_law_719 (by decide) ?_
  exact tail m3 _ hty3 hri3 (rmm3 (Nat.le_of_ble_eq_true rfl) rfl) (rmm3 (Nat.le_of_ble_eq_true rfl) rfl)
set_option maxHeartbeats 2000000 in
theorem law_18 {bs n j t : Nat} {xs : Nat → Int32} {m : AM} {a : Nat × Nat} (hn : n ≤ 448) (hj : 7 * j + 7 ≤ n) (hty : TY m) (hri : RI m t) (ht : t < 999) (ha : a.1 + 8 ≤ 600000 ∧ a.2 + 12400 ≤ 7302250) (tail : ∀ m3 a3, TY m3 → RI m3 (t + 1) → a3.1 ≤ a.1 + 8 → a3.2 ≤ a.2 + 12400 → BL bs n xs 1242 (nI (7 * j)) [] m3 a3) : BL bs n xs 724 (nI (7 * j)) [] m a := by
  refine l_x hty dL_law_724 ?_
  refine l_scrc 1 (by omega) (by omega) dL_law_725 dL_law_726 dL_law_727 (by decide) dL_law_728 dL_law_729 ?_
  refine l_scrc 2 (by omega) (by omega) dL_law_730 dL_law_731 dL_law_732 (by decide) dL_law_733 dL_law_734 ?_
  refine l_call (t := 10) (ix := 0) (st := []) S_X10_giveUp [vi (xs (7 * j + 1)), vi (xs (7 * j + 2))] (RX10, TX10, 9) rfl rfl (by decide) k817 k818 k819 k68 k820 (show _ ∧ _ ∧ Option.map (fun d => d.parameters.length) (parseMethodDescriptor yX10_giveUp.desc) = some 2 from by decide +kernel) ⟨by decide, by decide⟩ ⟨rmm1 ha.1 (Nat.le_of_ble_eq_true rfl), rmm1 ha.2 (Nat.le_of_ble_eq_true rfl)⟩ (Nat.le_of_ble_eq_true rfl) dL_law_735 (MS_giveUp hty hri (by omega)) (fun r m2 h hty2 => ?_)
  obtain ⟨x, rfl, h2⟩ := h
  refine l_m hty2 dL_law_738 ?_
  refine l_scrc 1 (by omega) (by omega) dL_law_739 dL_law_740 dL_law_741 (by decide) dL_law_742 dL_law_743 ?_
  refine l_scrc 2 (by omega) (by omega) dL_law_744 dL_law_745 dL_law_746 (by decide) dL_law_747 dL_law_748 ?_
  refine l_call (t := 11) (ix := 110) (st := [vi x]) S_X11_giveUp [vi (xs (7 * j + 1)), vi (xs (7 * j + 2))] (RX11, TX11, 28) rfl rfl (by decide) k1349 k1350 k1351 k80 k1352 (show _ ∧ _ ∧ Option.map (fun d => d.parameters.length) (parseMethodDescriptor yX11_giveUp.desc) = some 2 from by decide +kernel) ⟨by decide, by decide⟩ ⟨rmm2 ha.1 (Nat.le_of_ble_eq_true rfl) rfl, rmm2 ha.2 (Nat.le_of_ble_eq_true rfl) rfl⟩ (Nat.le_of_ble_eq_true rfl) dL_law_749 h2 (fun r2 m3 h3 hty3 => ?_)
  obtain ⟨rfl, hri3⟩ := h3
  refine l_eq 1242 dL_law_752 (by decide) ?_
  exact tail m3 _ hty3 hri3 (rmm3 (Nat.le_of_ble_eq_true rfl) rfl) (rmm3 (Nat.le_of_ble_eq_true rfl) rfl)
set_option maxHeartbeats 2000000 in
theorem law_19 {bs n j t : Nat} {xs : Nat → Int32} {m : AM} {a : Nat × Nat} (hn : n ≤ 448) (hj : 7 * j + 7 ≤ n) (hty : TY m) (hri : RI m t) (ht : t < 999) (ha : a.1 + 8 ≤ 600000 ∧ a.2 + 12400 ≤ 7302250) (tail : ∀ m3 a3, TY m3 → RI m3 (t + 1) → a3.1 ≤ a.1 + 8 → a3.2 ≤ a.2 + 12400 → BL bs n xs 1242 (nI (7 * j)) [] m3 a3) : BL bs n xs 757 (nI (7 * j)) [] m a := by
  refine l_x hty dL_law_757 ?_
  refine l_scrc 1 (by omega) (by omega) dL_law_758 dL_law_759 dL_law_760 (by decide) dL_law_761 dL_law_762 ?_
  refine l_scrc 2 (by omega) (by omega) dL_law_763 dL_law_764 dL_law_765 (by decide) dL_law_766 dL_law_767 ?_
  refine l_call (t := 10) (ix := 0) (st := []) S_X10_order [vi (xs (7 * j + 1)), vi (xs (7 * j + 2))] (RX10, TX10, 9) rfl rfl (by decide) k829 k830 k831 k68 k832 (show _ ∧ _ ∧ Option.map (fun d => d.parameters.length) (parseMethodDescriptor yX10_order.desc) = some 2 from by decide +kernel) ⟨by decide, by decide⟩ ⟨rmm1 ha.1 (Nat.le_of_ble_eq_true rfl), rmm1 ha.2 (Nat.le_of_ble_eq_true rfl)⟩ (Nat.le_of_ble_eq_true rfl) dL_law_768 (MS_order hty hri (by omega)) (fun r m2 h hty2 => ?_)
  obtain ⟨x, rfl, h2⟩ := h
  refine l_m hty2 dL_law_771 ?_
  refine l_scrc 1 (by omega) (by omega) dL_law_772 dL_law_773 dL_law_774 (by decide) dL_law_775 dL_law_776 ?_
  refine l_scrc 2 (by omega) (by omega) dL_law_777 dL_law_778 dL_law_779 (by decide) dL_law_780 dL_law_781 ?_
  refine l_call (t := 11) (ix := 110) (st := [vi x]) S_X11_order [vi (xs (7 * j + 1)), vi (xs (7 * j + 2))] (RX11, TX11, 28) rfl rfl (by decide) k1353 k1354 k1355 k80 k1356 (show _ ∧ _ ∧ Option.map (fun d => d.parameters.length) (parseMethodDescriptor yX11_order.desc) = some 2 from by decide +kernel) ⟨by decide, by decide⟩ ⟨rmm2 ha.1 (Nat.le_of_ble_eq_true rfl) rfl, rmm2 ha.2 (Nat.le_of_ble_eq_true rfl) rfl⟩ (Nat.le_of_ble_eq_true rfl) dL_law_782 h2 (fun r2 m3 h3 hty3 => ?_)
  obtain ⟨rfl, hri3⟩ := h3
  refine l_eq 1242 dL_law_785 (by decide) ?_
  exact tail m3 _ hty3 hri3 (rmm3 (Nat.le_of_ble_eq_true rfl) rfl) (rmm3 (Nat.le_of_ble_eq_true rfl) rfl)
set_option maxHeartbeats 2000000 in
theorem law_20 {bs n j t : Nat} {xs : Nat → Int32} {m : AM} {a : Nat × Nat} (hn : n ≤ 448) (hj : 7 * j + 7 ≤ n) (hty : TY m) (hri : RI m t) (ht : t < 999) (ha : a.1 + 8 ≤ 600000 ∧ a.2 + 12400 ≤ 7302250) (tail : ∀ m3 a3, TY m3 → RI m3 (t + 1) → a3.1 ≤ a.1 + 8 → a3.2 ≤ a.2 + 12400 → BL bs n xs 1242 (nI (7 * j)) [] m3 a3) : BL bs n xs 790 (nI (7 * j)) [] m a := by
  refine l_x hty dL_law_790 ?_
  refine l_scrc 1 (by omega) (by omega) dL_law_791 dL_law_792 dL_law_793 (by decide) dL_law_794 dL_law_795 ?_
  refine l_call (t := 10) (ix := 0) (st := []) S_X10_ever [vi (xs (7 * j + 1))] (RX10, TX10, 9) rfl rfl (by decide) k844 k845 k846 k68 k847 (show _ ∧ _ ∧ Option.map (fun d => d.parameters.length) (parseMethodDescriptor yX10_ever.desc) = some 1 from by decide +kernel) ⟨by decide, by decide⟩ ⟨rmm1 ha.1 (Nat.le_of_ble_eq_true rfl), rmm1 ha.2 (Nat.le_of_ble_eq_true rfl)⟩ (Nat.le_of_ble_eq_true rfl) dL_law_796 (MS_ever hty hri (by omega)) (fun r m2 h hty2 => ?_)
  obtain ⟨x, rfl, h2⟩ := h
  refine l_m hty2 dL_law_799 ?_
  refine l_scrc 1 (by omega) (by omega) dL_law_800 dL_law_801 dL_law_802 (by decide) dL_law_803 dL_law_804 ?_
  refine l_call (t := 11) (ix := 110) (st := [vi x]) S_X11_ever [vi (xs (7 * j + 1))] (RX11, TX11, 28) rfl rfl (by decide) k1361 k1362 k1363 k80 k1364 (show _ ∧ _ ∧ Option.map (fun d => d.parameters.length) (parseMethodDescriptor yX11_ever.desc) = some 1 from by decide +kernel) ⟨by decide, by decide⟩ ⟨rmm2 ha.1 (Nat.le_of_ble_eq_true rfl) rfl, rmm2 ha.2 (Nat.le_of_ble_eq_true rfl) rfl⟩ (Nat.le_of_ble_eq_true rfl) dL_law_805 h2 (fun r2 m3 h3 hty3 => ?_)
  obtain ⟨rfl, hri3⟩ := h3
  refine l_eq 1242 dL_law_808 (by decide) ?_
  exact tail m3 _ hty3 hri3 (rmm3 (Nat.le_of_ble_eq_true rfl) rfl) (rmm3 (Nat.le_of_ble_eq_true rfl) rfl)
set_option maxHeartbeats 2000000 in
theorem law_21 {bs n j t : Nat} {xs : Nat → Int32} {m : AM} {a : Nat × Nat} (hn : n ≤ 448) (hj : 7 * j + 7 ≤ n) (hty : TY m) (hri : RI m t) (ht : t < 999) (ha : a.1 + 8 ≤ 600000 ∧ a.2 + 12400 ≤ 7302250) (tail : ∀ m3 a3, TY m3 → RI m3 (t + 1) → a3.1 ≤ a.1 + 8 → a3.2 ≤ a.2 + 12400 → BL bs n xs 1242 (nI (7 * j)) [] m3 a3) : BL bs n xs 813 (nI (7 * j)) [] m a := by
  refine l_x hty dL_law_813 ?_
  refine l_scrc 1 (by omega) (by omega) dL_law_814 dL_law_815 dL_law_816 (by decide) dL_law_817 dL_law_818 ?_
  refine l_scrc 2 (by omega) (by omega) dL_law_819 dL_law_820 dL_law_821 (by decide) dL_law_822 dL_law_823 ?_
  refine l_scrc 3 (by omega) (by omega) dL_law_824 dL_law_825 dL_law_826 (by decide) dL_law_827 dL_law_828 ?_
  refine l_scrc 4 (by omega) (by omega) dL_law_829 dL_law_830 dL_law_831 (by decide) dL_law_832 dL_law_833 ?_
  refine l_scrc 5 (by omega) (by omega) dL_law_834 dL_law_835 dL_law_836 (by decide) dL_law_837 dL_law_838 ?_
  refine l_call (t := 10) (ix := 0) (st := []) S_X10_said [vi (xs (7 * j + 1)), vi (xs (7 * j + 2)), vi (xs (7 * j + 3)), vi (xs (7 * j + 4)), vi (xs (7 * j + 5))] (RX10, TX10, 9) rfl rfl (by decide) k858 k859 k860 k68 k861 (show _ ∧ _ ∧ Option.map (fun d => d.parameters.length) (parseMethodDescriptor yX10_said.desc) = some 5 from by decide +kernel) ⟨by decide, by decide⟩ ⟨rmm1 ha.1 (Nat.le_of_ble_eq_true rfl), rmm1 ha.2 (Nat.le_of_ble_eq_true rfl)⟩ (Nat.le_of_ble_eq_true rfl) dL_law_839 (MS_said hty hri (by omega)) (fun r m2 h hty2 => ?_)
  obtain ⟨x, rfl, h2⟩ := h
  refine l_m hty2 dL_law_842 ?_
  refine l_scrc 1 (by omega) (by omega) dL_law_843 dL_law_844 dL_law_845 (by decide) dL_law_846 dL_law_847 ?_
  refine l_scrc 2 (by omega) (by omega) dL_law_848 dL_law_849 dL_law_850 (by decide) dL_law_851 dL_law_852 ?_
  refine l_scrc 3 (by omega) (by omega) dL_law_853 dL_law_854 dL_law_855 (by decide) dL_law_856 dL_law_857 ?_
  refine l_scrc 4 (by omega) (by omega) dL_law_858 dL_law_859 dL_law_860 (by decide) dL_law_861 dL_law_862 ?_
  refine l_scrc 5 (by omega) (by omega) dL_law_863 dL_law_864 dL_law_865 (by decide) dL_law_866 dL_law_867 ?_
  refine l_call (t := 11) (ix := 110) (st := [vi x]) S_X11_said [vi (xs (7 * j + 1)), vi (xs (7 * j + 2)), vi (xs (7 * j + 3)), vi (xs (7 * j + 4)), vi (xs (7 * j + 5))] (RX11, TX11, 28) rfl rfl (by decide) k1365 k1366 k1367 k80 k1368 (show _ ∧ _ ∧ Option.map (fun d => d.parameters.length) (parseMethodDescriptor yX11_said.desc) = some 5 from by decide +kernel) ⟨by decide, by decide⟩ ⟨rmm2 ha.1 (Nat.le_of_ble_eq_true rfl) rfl, rmm2 ha.2 (Nat.le_of_ble_eq_true rfl) rfl⟩ (Nat.le_of_ble_eq_true rfl) dL_law_868 h2 (fun r2 m3 h3 hty3 => ?_)
  obtain ⟨rfl, hri3⟩ := h3
  refine l_eq 1242 dL_law_871 (by decide) ?_
  exact tail m3 _ hty3 hri3 (rmm3 (Nat.le_of_ble_eq_true rfl) rfl) (rmm3 (Nat.le_of_ble_eq_true rfl) rfl)
set_option maxHeartbeats 2000000 in
theorem law_22 {bs n j t : Nat} {xs : Nat → Int32} {m : AM} {a : Nat × Nat} (hn : n ≤ 448) (hj : 7 * j + 7 ≤ n) (hty : TY m) (hri : RI m t) (ht : t < 999) (ha : a.1 + 8 ≤ 600000 ∧ a.2 + 12400 ≤ 7302250) (tail : ∀ m3 a3, TY m3 → RI m3 (t + 1) → a3.1 ≤ a.1 + 8 → a3.2 ≤ a.2 + 12400 → BL bs n xs 1242 (nI (7 * j)) [] m3 a3) : BL bs n xs 876 (nI (7 * j)) [] m a := by
  refine l_x hty dL_law_876 ?_
  refine l_scrc 1 (by omega) (by omega) dL_law_877 dL_law_878 dL_law_879 (by decide) dL_law_880 dL_law_881 ?_
  refine l_scrc 2 (by omega) (by omega) dL_law_882 dL_law_883 dL_law_884 (by decide) dL_law_885 dL_law_886 ?_
  refine l_scrc 3 (by omega) (by omega) dL_law_887 dL_law_888 dL_law_889 (by decide) dL_law_890 dL_law_891 ?_
  refine l_scrc 4 (by omega) (by omega) dL_law_892 dL_law_893 dL_law_894 (by decide) dL_law_895 dL_law_896 ?_
  refine l_call (t := 10) (ix := 0) (st := []) S_X10_who [vi (xs (7 * j + 1)), vi (xs (7 * j + 2)), vi (xs (7 * j + 3)), vi (xs (7 * j + 4))] (RX10, TX10, 9) rfl rfl (by decide) k906 k907 k908 k68 k909 (show _ ∧ _ ∧ Option.map (fun d => d.parameters.length) (parseMethodDescriptor yX10_who.desc) = some 4 from by decide +kernel) ⟨by decide, by decide⟩ ⟨rmm1 ha.1 (Nat.le_of_ble_eq_true rfl), rmm1 ha.2 (Nat.le_of_ble_eq_true rfl)⟩ (Nat.le_of_ble_eq_true rfl) dL_law_897 (MS_who hty hri (by omega)) (fun r m2 h hty2 => ?_)
  obtain ⟨x, rfl, h2⟩ := h
  refine l_m hty2 dL_law_900 ?_
  refine l_scrc 1 (by omega) (by omega) dL_law_901 dL_law_902 dL_law_903 (by decide) dL_law_904 dL_law_905 ?_
  refine l_scrc 2 (by omega) (by omega) dL_law_906 dL_law_907 dL_law_908 (by decide) dL_law_909 dL_law_910 ?_
  refine l_scrc 3 (by omega) (by omega) dL_law_911 dL_law_912 dL_law_913 (by decide) dL_law_914 dL_law_915 ?_
  refine l_scrc 4 (by omega) (by omega) dL_law_916 dL_law_917 dL_law_918 (by decide) dL_law_919 dL_law_920 ?_
  refine l_call (t := 11) (ix := 110) (st := [vi x]) S_X11_who [vi (xs (7 * j + 1)), vi (xs (7 * j + 2)), vi (xs (7 * j + 3)), vi (xs (7 * j + 4))] (RX11, TX11, 28) rfl rfl (by decide) k1370 k1371 k1372 k80 k1373 (show _ ∧ _ ∧ Option.map (fun d => d.parameters.length) (parseMethodDescriptor yX11_who.desc) = some 4 from by decide +kernel) ⟨by decide, by decide⟩ ⟨rmm2 ha.1 (Nat.le_of_ble_eq_true rfl) rfl, rmm2 ha.2 (Nat.le_of_ble_eq_true rfl) rfl⟩ (Nat.le_of_ble_eq_true rfl) dL_law_921 h2 (fun r2 m3 h3 hty3 => ?_)
  obtain ⟨rfl, hri3⟩ := h3
  refine l_eq 1242 dL_law_924 (by decide) ?_
  exact tail m3 _ hty3 hri3 (rmm3 (Nat.le_of_ble_eq_true rfl) rfl) (rmm3 (Nat.le_of_ble_eq_true rfl) rfl)
set_option maxHeartbeats 2000000 in
theorem law_23 {bs n j t : Nat} {xs : Nat → Int32} {m : AM} {a : Nat × Nat} (hn : n ≤ 448) (hj : 7 * j + 7 ≤ n) (hty : TY m) (hri : RI m t) (ht : t < 999) (ha : a.1 + 8 ≤ 600000 ∧ a.2 + 12400 ≤ 7302250) (tail : ∀ m3 a3, TY m3 → RI m3 (t + 1) → a3.1 ≤ a.1 + 8 → a3.2 ≤ a.2 + 12400 → BL bs n xs 1242 (nI (7 * j)) [] m3 a3) : BL bs n xs 929 (nI (7 * j)) [] m a := by
  refine l_x hty dL_law_929 ?_
  refine l_scrc 1 (by omega) (by omega) dL_law_930 dL_law_931 dL_law_932 (by decide) dL_law_933 dL_law_934 ?_
  refine l_scrc 2 (by omega) (by omega) dL_law_935 dL_law_936 dL_law_937 (by decide) dL_law_938 dL_law_939 ?_
  refine l_scrc 3 (by omega) (by omega) dL_law_940 dL_law_941 dL_law_942 (by decide) dL_law_943 dL_law_944 ?_
  refine l_scrc 4 (by omega) (by omega) dL_law_945 dL_law_946 dL_law_947 (by decide) dL_law_948 dL_law_949 ?_
  refine l_scrc 5 (by omega) (by omega) dL_law_950 dL_law_951 dL_law_952 (by decide) dL_law_953 dL_law_954 ?_
  refine l_scrp 6 (by omega) (by omega) dL_law_955 dL_law_956 dL_law_957 (by decide) dL_law_959 dL_law_960 ?_
  refine l_call (t := 10) (ix := 0) (st := []) S_X10_temper [vi (xs (7 * j + 1)), vi (xs (7 * j + 2)), vi (xs (7 * j + 3)), vi (xs (7 * j + 4)), vi (xs (7 * j + 5)), vi (xs (7 * j + 6))] (RX10, TX10, 9) rfl rfl (by decide) k921 k922 k923 k68 k924 (show _ ∧ _ ∧ Option.map (fun d => d.parameters.length) (parseMethodDescriptor yX10_temper.desc) = some 6 from by decide +kernel) ⟨by decide, by decide⟩ ⟨rmm1 ha.1 (Nat.le_of_ble_eq_true rfl), rmm1 ha.2 (Nat.le_of_ble_eq_true rfl)⟩ (Nat.le_of_ble_eq_true rfl) dL_law_961 (MS_temper hty hri (by omega)) (fun r m2 h hty2 => ?_)
  obtain ⟨x, rfl, h2⟩ := h
  refine l_m hty2 dL_law_964 ?_
  refine l_scrc 1 (by omega) (by omega) dL_law_965 dL_law_966 dL_law_967 (by decide) dL_law_968 dL_law_969 ?_
  refine l_scrc 2 (by omega) (by omega) dL_law_970 dL_law_971 dL_law_972 (by decide) dL_law_973 dL_law_974 ?_
  refine l_scrc 3 (by omega) (by omega) dL_law_975 dL_law_976 dL_law_977 (by decide) dL_law_978 dL_law_979 ?_
  refine l_scrc 4 (by omega) (by omega) dL_law_980 dL_law_981 dL_law_982 (by decide) dL_law_983 dL_law_984 ?_
  refine l_scrc 5 (by omega) (by omega) dL_law_985 dL_law_986 dL_law_987 (by decide) dL_law_988 dL_law_989 ?_
  refine l_scrp 6 (by omega) (by omega) dL_law_990 dL_law_991 dL_law_992 (by decide) dL_law_994 dL_law_995 ?_
  refine l_call (t := 11) (ix := 110) (st := [vl x]) S_X11_temper [vi (xs (7 * j + 1)), vi (xs (7 * j + 2)), vi (xs (7 * j + 3)), vi (xs (7 * j + 4)), vi (xs (7 * j + 5)), vi (xs (7 * j + 6))] (RX11, TX11, 28) rfl rfl (by decide) k1375 k1376 k1377 k80 k1378 (show _ ∧ _ ∧ Option.map (fun d => d.parameters.length) (parseMethodDescriptor yX11_temper.desc) = some 6 from by decide +kernel) ⟨by decide, by decide⟩ ⟨rmm2 ha.1 (Nat.le_of_ble_eq_true rfl) rfl, rmm2 ha.2 (Nat.le_of_ble_eq_true rfl) rfl⟩ (Nat.le_of_ble_eq_true rfl) dL_law_996 h2 (fun r2 m3 h3 hty3 => ?_)
  obtain ⟨rfl, hri3⟩ := h3
  refine l_lcmp dL_law_999 ?_
  refine l_ifeq 1242 dL_law_1000 (by decide) (by rw [cmp_eq]) ?_
  exact tail m3 _ hty3 hri3 (rmm3 (Nat.le_of_ble_eq_true rfl) rfl) (rmm3 (Nat.le_of_ble_eq_true rfl) rfl)
set_option maxHeartbeats 2000000 in
theorem law_24 {bs n j t : Nat} {xs : Nat → Int32} {m : AM} {a : Nat × Nat} (hn : n ≤ 448) (hj : 7 * j + 7 ≤ n) (hty : TY m) (hri : RI m t) (ht : t < 999) (ha : a.1 + 8 ≤ 600000 ∧ a.2 + 12400 ≤ 7302250) (tail : ∀ m3 a3, TY m3 → RI m3 (t + 1) → a3.1 ≤ a.1 + 8 → a3.2 ≤ a.2 + 12400 → BL bs n xs 1242 (nI (7 * j)) [] m3 a3) : BL bs n xs 1005 (nI (7 * j)) [] m a := by
  refine l_x hty dL_law_1005 ?_
  refine l_scrc 1 (by omega) (by omega) dL_law_1006 dL_law_1007 dL_law_1008 (by decide) dL_law_1009 dL_law_1010 ?_
  refine l_scrc 2 (by omega) (by omega) dL_law_1011 dL_law_1012 dL_law_1013 (by decide) dL_law_1014 dL_law_1015 ?_
  refine l_scrc 3 (by omega) (by omega) dL_law_1016 dL_law_1017 dL_law_1018 (by decide) dL_law_1019 dL_law_1020 ?_
  refine l_call (t := 10) (ix := 0) (st := []) S_X10_drawn [vi (xs (7 * j + 1)), vi (xs (7 * j + 2)), vi (xs (7 * j + 3))] (RX10, TX10, 9) rfl rfl (by decide) k942 k943 k944 k68 k945 (show _ ∧ _ ∧ Option.map (fun d => d.parameters.length) (parseMethodDescriptor yX10_drawn.desc) = some 3 from by decide +kernel) ⟨by decide, by decide⟩ ⟨rmm1 ha.1 (Nat.le_of_ble_eq_true rfl), rmm1 ha.2 (Nat.le_of_ble_eq_true rfl)⟩ (Nat.le_of_ble_eq_true rfl) dL_law_1021 (MS_drawn hty hri (by omega)) (fun r m2 h hty2 => ?_)
  obtain ⟨x, rfl, h2⟩ := h
  refine l_m hty2 dL_law_1024 ?_
  refine l_scrc 1 (by omega) (by omega) dL_law_1025 dL_law_1026 dL_law_1027 (by decide) dL_law_1028 dL_law_1029 ?_
  refine l_scrc 2 (by omega) (by omega) dL_law_1030 dL_law_1031 dL_law_1032 (by decide) dL_law_1033 dL_law_1034 ?_
  refine l_scrc 3 (by omega) (by omega) dL_law_1035 dL_law_1036 dL_law_1037 (by decide) dL_law_1038 dL_law_1039 ?_
  refine l_call (t := 11) (ix := 110) (st := [vi x]) S_X11_drawn [vi (xs (7 * j + 1)), vi (xs (7 * j + 2)), vi (xs (7 * j + 3))] (RX11, TX11, 28) rfl rfl (by decide) k1387 k1388 k1389 k80 k1390 (show _ ∧ _ ∧ Option.map (fun d => d.parameters.length) (parseMethodDescriptor yX11_drawn.desc) = some 3 from by decide +kernel) ⟨by decide, by decide⟩ ⟨rmm2 ha.1 (Nat.le_of_ble_eq_true rfl) rfl, rmm2 ha.2 (Nat.le_of_ble_eq_true rfl) rfl⟩ (Nat.le_of_ble_eq_true rfl) dL_law_1040 h2 (fun r2 m3 h3 hty3 => ?_)
  obtain ⟨rfl, hri3⟩ := h3
  refine l_eq 1242 dL_law_1043 (by decide) ?_
  exact tail m3 _ hty3 hri3 (rmm3 (Nat.le_of_ble_eq_true rfl) rfl) (rmm3 (Nat.le_of_ble_eq_true rfl) rfl)
set_option maxHeartbeats 2000000 in
theorem law_25 {bs n j t : Nat} {xs : Nat → Int32} {m : AM} {a : Nat × Nat} (hn : n ≤ 448) (hj : 7 * j + 7 ≤ n) (hty : TY m) (hri : RI m t) (ht : t < 999) (ha : a.1 + 8 ≤ 600000 ∧ a.2 + 12400 ≤ 7302250) (tail : ∀ m3 a3, TY m3 → RI m3 (t + 1) → a3.1 ≤ a.1 + 8 → a3.2 ≤ a.2 + 12400 → BL bs n xs 1242 (nI (7 * j)) [] m3 a3) : BL bs n xs 1048 (nI (7 * j)) [] m a := by
  refine l_x hty dL_law_1048 ?_
  refine l_scrc 1 (by omega) (by omega) dL_law_1049 dL_law_1050 dL_law_1051 (by decide) dL_law_1052 dL_law_1053 ?_
  refine l_call (t := 10) (ix := 0) (st := []) S_X10_image [vi (xs (7 * j + 1))] (RX10, TX10, 9) rfl rfl (by decide) k956 k957 k958 k68 k959 (show _ ∧ _ ∧ Option.map (fun d => d.parameters.length) (parseMethodDescriptor yX10_image.desc) = some 1 from by decide +kernel) ⟨by decide, by decide⟩ ⟨rmm1 ha.1 (Nat.le_of_ble_eq_true rfl), rmm1 ha.2 (Nat.le_of_ble_eq_true rfl)⟩ (Nat.le_of_ble_eq_true rfl) dL_law_1054 (MS_image hty hri (by omega)) (fun r m2 h hty2 => ?_)
  obtain ⟨x, rfl, h2⟩ := h
  refine l_m hty2 dL_law_1057 ?_
  refine l_scrc 1 (by omega) (by omega) dL_law_1058 dL_law_1059 dL_law_1060 (by decide) dL_law_1061 dL_law_1062 ?_
  refine l_call (t := 11) (ix := 110) (st := [vi x]) S_X11_image [vi (xs (7 * j + 1))] (RX11, TX11, 28) rfl rfl (by decide) k1395 k1396 k1397 k80 k1398 (show _ ∧ _ ∧ Option.map (fun d => d.parameters.length) (parseMethodDescriptor yX11_image.desc) = some 1 from by decide +kernel) ⟨by decide, by decide⟩ ⟨rmm2 ha.1 (Nat.le_of_ble_eq_true rfl) rfl, rmm2 ha.2 (Nat.le_of_ble_eq_true rfl) rfl⟩ (Nat.le_of_ble_eq_true rfl) dL_law_1063 h2 (fun r2 m3 h3 hty3 => ?_)
  obtain ⟨rfl, hri3⟩ := h3
  refine l_eq 1242 dL_law_1066 (by decide) ?_
  exact tail m3 _ hty3 hri3 (rmm3 (Nat.le_of_ble_eq_true rfl) rfl) (rmm3 (Nat.le_of_ble_eq_true rfl) rfl)
set_option maxHeartbeats 2000000 in
theorem law_26 {bs n j t : Nat} {xs : Nat → Int32} {m : AM} {a : Nat × Nat} (hn : n ≤ 448) (hj : 7 * j + 7 ≤ n) (hty : TY m) (hri : RI m t) (ht : t < 999) (ha : a.1 + 8 ≤ 600000 ∧ a.2 + 12400 ≤ 7302250) (tail : ∀ m3 a3, TY m3 → RI m3 (t + 1) → a3.1 ≤ a.1 + 8 → a3.2 ≤ a.2 + 12400 → BL bs n xs 1242 (nI (7 * j)) [] m3 a3) : BL bs n xs 1071 (nI (7 * j)) [] m a := by
  refine l_x hty dL_law_1071 ?_
  refine l_scrc 1 (by omega) (by omega) dL_law_1072 dL_law_1073 dL_law_1074 (by decide) dL_law_1075 dL_law_1076 ?_
  refine l_call (t := 10) (ix := 0) (st := []) S_X10_restore [vi (xs (7 * j + 1))] (RX10, TX10, 9) rfl rfl (by decide) k969 k970 k971 k68 k972 (show _ ∧ _ ∧ Option.map (fun d => d.parameters.length) (parseMethodDescriptor yX10_restore.desc) = some 1 from by decide +kernel) ⟨by decide, by decide⟩ ⟨rmm1 ha.1 (Nat.le_of_ble_eq_true rfl), rmm1 ha.2 (Nat.le_of_ble_eq_true rfl)⟩ (Nat.le_of_ble_eq_true rfl) dL_law_1077 (MS_restore hty hri (by omega)) (fun r m2 h hty2 => ?_)
  obtain ⟨x, rfl, h2⟩ := h
  refine l_m hty2 dL_law_1080 ?_
  refine l_scrc 1 (by omega) (by omega) dL_law_1081 dL_law_1082 dL_law_1083 (by decide) dL_law_1084 dL_law_1085 ?_
  refine l_call (t := 11) (ix := 110) (st := [vi x]) S_X11_restore [vi (xs (7 * j + 1))] (RX11, TX11, 28) rfl rfl (by decide) k1399 k1400 k1401 k80 k1402 (show _ ∧ _ ∧ Option.map (fun d => d.parameters.length) (parseMethodDescriptor yX11_restore.desc) = some 1 from by decide +kernel) ⟨by decide, by decide⟩ ⟨rmm2 ha.1 (Nat.le_of_ble_eq_true rfl) rfl, rmm2 ha.2 (Nat.le_of_ble_eq_true rfl) rfl⟩ (Nat.le_of_ble_eq_true rfl) dL_law_1086 h2 (fun r2 m3 h3 hty3 => ?_)
  obtain ⟨rfl, hri3⟩ := h3
  refine l_eq 1242 dL_law_1089 (by decide) ?_
  exact tail m3 _ hty3 hri3 (rmm3 (Nat.le_of_ble_eq_true rfl) rfl) (rmm3 (Nat.le_of_ble_eq_true rfl) rfl)
set_option maxHeartbeats 2000000 in
theorem law_27 {bs n j t : Nat} {xs : Nat → Int32} {m : AM} {a : Nat × Nat} (hn : n ≤ 448) (hj : 7 * j + 7 ≤ n) (hty : TY m) (hri : RI m t) (ht : t < 999) (ha : a.1 + 8 ≤ 600000 ∧ a.2 + 12400 ≤ 7302250) (tail : ∀ m3 a3, TY m3 → RI m3 (t + 1) → a3.1 ≤ a.1 + 8 → a3.2 ≤ a.2 + 12400 → BL bs n xs 1242 (nI (7 * j)) [] m3 a3) : BL bs n xs 1094 (nI (7 * j)) [] m a := by
  refine l_x hty dL_law_1094 ?_
  refine l_scrc 1 (by omega) (by omega) dL_law_1095 dL_law_1096 dL_law_1097 (by decide) dL_law_1098 dL_law_1099 ?_
  refine l_call (t := 10) (ix := 0) (st := []) S_X10_kind [vi (xs (7 * j + 1))] (RX10, TX10, 9) rfl rfl (by decide) k978 k979 k980 k68 k981 (show _ ∧ _ ∧ Option.map (fun d => d.parameters.length) (parseMethodDescriptor yX10_kind.desc) = some 1 from by decide +kernel) ⟨by decide, by decide⟩ ⟨rmm1 ha.1 (Nat.le_of_ble_eq_true rfl), rmm1 ha.2 (Nat.le_of_ble_eq_true rfl)⟩ (Nat.le_of_ble_eq_true rfl) dL_law_1100 (MS_kind hty hri (by omega)) (fun r m2 h hty2 => ?_)
  obtain ⟨x, rfl, h2⟩ := h
  refine l_m hty2 dL_law_1103 ?_
  refine l_scrc 1 (by omega) (by omega) dL_law_1104 dL_law_1105 dL_law_1106 (by decide) dL_law_1107 dL_law_1108 ?_
  refine l_call (t := 11) (ix := 110) (st := [vi x]) S_X11_kind [vi (xs (7 * j + 1))] (RX11, TX11, 28) rfl rfl (by decide) k1403 k1404 k1405 k80 k1406 (show _ ∧ _ ∧ Option.map (fun d => d.parameters.length) (parseMethodDescriptor yX11_kind.desc) = some 1 from by decide +kernel) ⟨by decide, by decide⟩ ⟨rmm2 ha.1 (Nat.le_of_ble_eq_true rfl) rfl, rmm2 ha.2 (Nat.le_of_ble_eq_true rfl) rfl⟩ (Nat.le_of_ble_eq_true rfl) dL_law_1109 h2 (fun r2 m3 h3 hty3 => ?_)
  obtain ⟨rfl, hri3⟩ := h3
  refine l_eq 1242 dL_law_1112 (by decide) ?_
  exact tail m3 _ hty3 hri3 (rmm3 (Nat.le_of_ble_eq_true rfl) rfl) (rmm3 (Nat.le_of_ble_eq_true rfl) rfl)
set_option maxHeartbeats 2000000 in
theorem law_28 {bs n j t : Nat} {xs : Nat → Int32} {m : AM} {a : Nat × Nat} (hn : n ≤ 448) (hj : 7 * j + 7 ≤ n) (hty : TY m) (hri : RI m t) (ht : t < 999) (ha : a.1 + 8 ≤ 600000 ∧ a.2 + 12400 ≤ 7302250) (tail : ∀ m3 a3, TY m3 → RI m3 (t + 1) → a3.1 ≤ a.1 + 8 → a3.2 ≤ a.2 + 12400 → BL bs n xs 1242 (nI (7 * j)) [] m3 a3) : BL bs n xs 1117 (nI (7 * j)) [] m a := by
  refine l_x hty dL_law_1117 ?_
  refine l_scrc 1 (by omega) (by omega) dL_law_1118 dL_law_1119 dL_law_1120 (by decide) dL_law_1121 dL_law_1122 ?_
  refine l_scrc 2 (by omega) (by omega) dL_law_1123 dL_law_1124 dL_law_1125 (by decide) dL_law_1126 dL_law_1127 ?_
  refine l_call (t := 10) (ix := 0) (st := []) S_X10_as [vi (xs (7 * j + 1)), vi (xs (7 * j + 2))] (RX10, TX10, 9) rfl rfl (by decide) k982 k983 k984 k68 k985 (show _ ∧ _ ∧ Option.map (fun d => d.parameters.length) (parseMethodDescriptor yX10_as.desc) = some 2 from by decide +kernel) ⟨by decide, by decide⟩ ⟨rmm1 ha.1 (Nat.le_of_ble_eq_true rfl), rmm1 ha.2 (Nat.le_of_ble_eq_true rfl)⟩ (Nat.le_of_ble_eq_true rfl) dL_law_1128 (MS_as hty hri (by omega)) (fun r m2 h hty2 => ?_)
  obtain ⟨x, rfl, h2⟩ := h
  refine l_m hty2 dL_law_1131 ?_
  refine l_scrc 1 (by omega) (by omega) dL_law_1132 dL_law_1133 dL_law_1134 (by decide) dL_law_1135 dL_law_1136 ?_
  refine l_scrc 2 (by omega) (by omega) dL_law_1137 dL_law_1138 dL_law_1139 (by decide) dL_law_1140 dL_law_1141 ?_
  refine l_call (t := 11) (ix := 110) (st := [vi x]) S_X11_as [vi (xs (7 * j + 1)), vi (xs (7 * j + 2))] (RX11, TX11, 28) rfl rfl (by decide) k1407 k1408 k1409 k80 k1410 (show _ ∧ _ ∧ Option.map (fun d => d.parameters.length) (parseMethodDescriptor yX11_as.desc) = some 2 from by decide +kernel) ⟨by decide, by decide⟩ ⟨rmm2 ha.1 (Nat.le_of_ble_eq_true rfl) rfl, rmm2 ha.2 (Nat.le_of_ble_eq_true rfl) rfl⟩ (Nat.le_of_ble_eq_true rfl) dL_law_1142 h2 (fun r2 m3 h3 hty3 => ?_)
  obtain ⟨rfl, hri3⟩ := h3
  refine l_eq 1242 dL_law_1145 (by decide) ?_
  exact tail m3 _ hty3 hri3 (rmm3 (Nat.le_of_ble_eq_true rfl) rfl) (rmm3 (Nat.le_of_ble_eq_true rfl) rfl)
set_option maxHeartbeats 2000000 in
theorem law_29 {bs n j t : Nat} {xs : Nat → Int32} {m : AM} {a : Nat × Nat} (hn : n ≤ 448) (hj : 7 * j + 7 ≤ n) (hty : TY m) (hri : RI m t) (ht : t < 999) (ha : a.1 + 8 ≤ 600000 ∧ a.2 + 12400 ≤ 7302250) (tail : ∀ m3 a3, TY m3 → RI m3 (t + 1) → a3.1 ≤ a.1 + 8 → a3.2 ≤ a.2 + 12400 → BL bs n xs 1242 (nI (7 * j)) [] m3 a3) : BL bs n xs 1150 (nI (7 * j)) [] m a := by
  refine l_x hty dL_law_1150 ?_
  refine l_scrc 1 (by omega) (by omega) dL_law_1151 dL_law_1152 dL_law_1153 (by decide) dL_law_1154 dL_law_1155 ?_
  refine l_scrc 2 (by omega) (by omega) dL_law_1156 dL_law_1157 dL_law_1158 (by decide) dL_law_1159 dL_law_1160 ?_
  refine l_call (t := 10) (ix := 0) (st := []) S_X10_ask [vi (xs (7 * j + 1)), vi (xs (7 * j + 2))] (RX10, TX10, 9) rfl rfl (by decide) k991 k992 k993 k68 k994 (show _ ∧ _ ∧ Option.map (fun d => d.parameters.length) (parseMethodDescriptor yX10_ask.desc) = some 2 from by decide +kernel) ⟨by decide, by decide⟩ ⟨rmm1 ha.1 (Nat.le_of_ble_eq_true rfl), rmm1 ha.2 (Nat.le_of_ble_eq_true rfl)⟩ (Nat.le_of_ble_eq_true rfl) dL_law_1161 (MS_ask hty hri (by omega)) (fun r m2 h hty2 => ?_)
  obtain ⟨x, rfl, h2⟩ := h
  refine l_m hty2 dL_law_1164 ?_
  refine l_scrc 1 (by omega) (by omega) dL_law_1165 dL_law_1166 dL_law_1167 (by decide) dL_law_1168 dL_law_1169 ?_
  refine l_scrc 2 (by omega) (by omega) dL_law_1170 dL_law_1171 dL_law_1172 (by decide) dL_law_1173 dL_law_1174 ?_
  refine l_call (t := 11) (ix := 110) (st := [vi x]) S_X11_ask [vi (xs (7 * j + 1)), vi (xs (7 * j + 2))] (RX11, TX11, 28) rfl rfl (by decide) k1415 k1416 k1417 k80 k1418 (show _ ∧ _ ∧ Option.map (fun d => d.parameters.length) (parseMethodDescriptor yX11_ask.desc) = some 2 from by decide +kernel) ⟨by decide, by decide⟩ ⟨rmm2 ha.1 (Nat.le_of_ble_eq_true rfl) rfl, rmm2 ha.2 (Nat.le_of_ble_eq_true rfl) rfl⟩ (Nat.le_of_ble_eq_true rfl) dL_law_1175 h2 (fun r2 m3 h3 hty3 => ?_)
  obtain ⟨rfl, hri3⟩ := h3
  refine l_eq 1242 dL_law_1178 (by decide) ?_
  exact tail m3 _ hty3 hri3 (rmm3 (Nat.le_of_ble_eq_true rfl) rfl) (rmm3 (Nat.le_of_ble_eq_true rfl) rfl)
set_option maxHeartbeats 2000000 in
theorem law_30 {bs n j t : Nat} {xs : Nat → Int32} {m : AM} {a : Nat × Nat} (hn : n ≤ 448) (hj : 7 * j + 7 ≤ n) (hty : TY m) (hri : RI m t) (ht : t < 999) (ha : a.1 + 8 ≤ 600000 ∧ a.2 + 12400 ≤ 7302250) (tail : ∀ m3 a3, TY m3 → RI m3 (t + 1) → a3.1 ≤ a.1 + 8 → a3.2 ≤ a.2 + 12400 → BL bs n xs 1242 (nI (7 * j)) [] m3 a3) : BL bs n xs 1183 (nI (7 * j)) [] m a := by
  refine l_x hty dL_law_1183 ?_
  refine l_scrc 1 (by omega) (by omega) dL_law_1184 dL_law_1185 dL_law_1186 (by decide) dL_law_1187 dL_law_1188 ?_
  refine l_call (t := 10) (ix := 0) (st := []) S_X10_trace [vi (xs (7 * j + 1))] (RX10, TX10, 9) rfl rfl (by decide) k1015 k1016 k1017 k68 k1018 (show _ ∧ _ ∧ Option.map (fun d => d.parameters.length) (parseMethodDescriptor yX10_trace.desc) = some 1 from by decide +kernel) ⟨by decide, by decide⟩ ⟨rmm1 ha.1 (Nat.le_of_ble_eq_true rfl), rmm1 ha.2 (Nat.le_of_ble_eq_true rfl)⟩ (Nat.le_of_ble_eq_true rfl) dL_law_1189 (MS_trace hty hri (by omega)) (fun r m2 h hty2 => ?_)
  obtain ⟨x, rfl, h2⟩ := h
  refine l_m hty2 dL_law_1192 ?_
  refine l_scrc 1 (by omega) (by omega) dL_law_1193 dL_law_1194 dL_law_1195 (by decide) dL_law_1196 dL_law_1197 ?_
  refine l_call (t := 11) (ix := 110) (st := [vi x]) S_X11_trace [vi (xs (7 * j + 1))] (RX11, TX11, 28) rfl rfl (by decide) k1439 k1440 k1441 k80 k1442 (show _ ∧ _ ∧ Option.map (fun d => d.parameters.length) (parseMethodDescriptor yX11_trace.desc) = some 1 from by decide +kernel) ⟨by decide, by decide⟩ ⟨rmm2 ha.1 (Nat.le_of_ble_eq_true rfl) rfl, rmm2 ha.2 (Nat.le_of_ble_eq_true rfl) rfl⟩ (Nat.le_of_ble_eq_true rfl) dL_law_1198 h2 (fun r2 m3 h3 hty3 => ?_)
  obtain ⟨rfl, hri3⟩ := h3
  refine l_eq 1242 dL_law_1201 (by decide) ?_
  exact tail m3 _ hty3 hri3 (rmm3 (Nat.le_of_ble_eq_true rfl) rfl) (rmm3 (Nat.le_of_ble_eq_true rfl) rfl)
set_option maxHeartbeats 2000000 in
theorem law_31 {bs n j t : Nat} {xs : Nat → Int32} {m : AM} {a : Nat × Nat} (hn : n ≤ 448) (hj : 7 * j + 7 ≤ n) (hty : TY m) (hri : RI m t) (ht : t < 999) (ha : a.1 + 8 ≤ 600000 ∧ a.2 + 12400 ≤ 7302250) (tail : ∀ m3 a3, TY m3 → RI m3 (t + 1) → a3.1 ≤ a.1 + 8 → a3.2 ≤ a.2 + 12400 → BL bs n xs 1242 (nI (7 * j)) [] m3 a3) : BL bs n xs 1206 (nI (7 * j)) [] m a := by
  refine l_x hty dL_law_1206 ?_
  refine l_scrc 1 (by omega) (by omega) dL_law_1207 dL_law_1208 dL_law_1209 (by decide) dL_law_1210 dL_law_1211 ?_
  refine l_call (t := 10) (ix := 0) (st := []) S_X10_count [vi (xs (7 * j + 1))] (RX10, TX10, 9) rfl rfl (by decide) k1024 k1025 k1026 k68 k1027 (show _ ∧ _ ∧ Option.map (fun d => d.parameters.length) (parseMethodDescriptor yX10_count.desc) = some 1 from by decide +kernel) ⟨by decide, by decide⟩ ⟨rmm1 ha.1 (Nat.le_of_ble_eq_true rfl), rmm1 ha.2 (Nat.le_of_ble_eq_true rfl)⟩ (Nat.le_of_ble_eq_true rfl) dL_law_1212 (MS_count hty hri (by omega)) (fun r m2 h hty2 => ?_)
  obtain ⟨x, rfl, h2⟩ := h
  refine l_m hty2 dL_law_1215 ?_
  refine l_scrc 1 (by omega) (by omega) dL_law_1216 dL_law_1217 dL_law_1218 (by decide) dL_law_1219 dL_law_1220 ?_
  refine l_call (t := 11) (ix := 110) (st := [vi x]) S_X11_count [vi (xs (7 * j + 1))] (RX11, TX11, 28) rfl rfl (by decide) k1443 k1444 k1445 k80 k1446 (show _ ∧ _ ∧ Option.map (fun d => d.parameters.length) (parseMethodDescriptor yX11_count.desc) = some 1 from by decide +kernel) ⟨by decide, by decide⟩ ⟨rmm2 ha.1 (Nat.le_of_ble_eq_true rfl) rfl, rmm2 ha.2 (Nat.le_of_ble_eq_true rfl) rfl⟩ (Nat.le_of_ble_eq_true rfl) dL_law_1221 h2 (fun r2 m3 h3 hty3 => ?_)
  obtain ⟨rfl, hri3⟩ := h3
  refine l_eq 1242 dL_law_1224 (by decide) ?_
  exact tail m3 _ hty3 hri3 (rmm3 (Nat.le_of_ble_eq_true rfl) rfl) (rmm3 (Nat.le_of_ble_eq_true rfl) rfl)
set_option maxHeartbeats 2000000 in
theorem law_32 {bs n j t : Nat} {xs : Nat → Int32} {m : AM} {a : Nat × Nat} (hn : n ≤ 448) (hj : 7 * j + 7 ≤ n) (hty : TY m) (hri : RI m t) (ht : t < 999) (ha : a.1 + 8 ≤ 600000 ∧ a.2 + 12400 ≤ 7302250) (tail : ∀ m3 a3, TY m3 → RI m3 (t + 1) → a3.1 ≤ a.1 + 8 → a3.2 ≤ a.2 + 12400 → BL bs n xs 1242 (nI (7 * j)) [] m3 a3) : BL bs n xs 1229 (nI (7 * j)) [] m a := by
  refine l_x hty dL_law_1229 ?_
  refine l_call (t := 10) (ix := 0) (st := []) S_X10_status [] (RX10, TX10, 9) rfl rfl (by decide) k1032 k1033 k1034 k68 k1035 (show _ ∧ _ ∧ Option.map (fun d => d.parameters.length) (parseMethodDescriptor yX10_status.desc) = some 0 from by decide +kernel) ⟨by decide, by decide⟩ ⟨rmm1 ha.1 (Nat.le_of_ble_eq_true rfl), rmm1 ha.2 (Nat.le_of_ble_eq_true rfl)⟩ (Nat.le_of_ble_eq_true rfl) dL_law_1230 (MS_status hty hri (by omega)) (fun r m2 h hty2 => ?_)
  obtain ⟨x, rfl, h2⟩ := h
  refine l_m hty2 dL_law_1233 ?_
  refine l_call (t := 11) (ix := 110) (st := [vi x]) S_X11_status [] (RX11, TX11, 28) rfl rfl (by decide) k1447 k1448 k1449 k80 k1450 (show _ ∧ _ ∧ Option.map (fun d => d.parameters.length) (parseMethodDescriptor yX11_status.desc) = some 0 from by decide +kernel) ⟨by decide, by decide⟩ ⟨rmm2 ha.1 (Nat.le_of_ble_eq_true rfl) rfl, rmm2 ha.2 (Nat.le_of_ble_eq_true rfl) rfl⟩ (Nat.le_of_ble_eq_true rfl) dL_law_1234 h2 (fun r2 m3 h3 hty3 => ?_)
  obtain ⟨rfl, hri3⟩ := h3
  refine l_eq 1242 dL_law_1237 (by decide) ?_
  exact tail m3 _ hty3 hri3 (rmm3 (Nat.le_of_ble_eq_true rfl) rfl) (rmm3 (Nat.le_of_ble_eq_true rfl) rfl)
