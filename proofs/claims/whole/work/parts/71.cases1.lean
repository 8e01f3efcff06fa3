/-! ===== the law's cases ===== -/
def SS (F G : FF) : Prop := ∃ n nr ns h nx sz, Sim F G n nr ns h nx sz
section SIM
variable {F G : FF} {n nr ns h nx sz : Nat}
theorem shM_abs (hr : nr ≤ 5) (hs : ns ≤ 4) (i : Nat) : ∃ a, a < 2 ^ 31 ∧ abZ (shMV G nr ns i) = nI a := by
  obtain ⟨z, h1, h2⟩ := sh_bound (i := i) (nr := nr) (rb := fun q => rbM G nr ns q) hr (fun q => Nat.le_trans (cntN_le _ _) hs) (2 ^ nr)
  have h32 := Nat.mul_le_mul_left 60000 (pow5 nr hr).1
  refine ⟨z.natAbs, by omega, ?_⟩
  unfold shMV
  rw [h1, abZ_zI (by omega)]
theorem Sim.share2 (S : Sim F G n nr ns h nx sz) {a b : Nat} {r : Int32} {up : Bool} (ha : abZ (shV F nr ns (ix r)) = nI a) (hb : abZ (shMV G nr ns (ix r)) = nI b) (la : a < 2 ^ 31) (lb : b < 2 ^ 31) : shR F nr ns a r up = shMR G nr ns b r up := by
  rw [S.share a r up]
  unfold shMR
  by_cases hc : hasB r nr = true
  · rw [if_pos hc, if_pos hc]
    obtain ⟨i, hi, rfl⟩ := hasB_of S.1.2.1.2.2.1 hc
    have h5 := S.1.2.1.2.2.1
    rw [ix_nI (by omega), S.shv hi] at ha
    rw [ix_nI (by omega)] at hb
    rw [(nI_eq la lb).mp (ha.symm.trans hb)]
  · rw [if_neg hc, if_neg hc]
theorem Sim.shS (S : Sim F G n nr ns h nx sz) (r : Int32) : Sim (shFF F nr ns r) G n nr ns h nx sz := by
  unfold shFF
  split
  · exact S.w17 _ _
  · exact S
theorem Sim.flS (S : Sim F G n nr ns h nx sz) (s m x : Int32) : Sim (flF F nr ns s m x) G n nr ns h nx sz := by
  unfold flF
  split
  · exact S.w18 _
  · exact S
end SIM
section LW
variable {x : MX} {b N : Nat} {xs : Nat → Int32} {D : va_G} {a1 a2 : Nat → Nat} {cc : C5}
set_option maxHeartbeats 4000000 in
theorem law_c0 (C : Lx x b N xs D a1 a2 cc) (hN : N ≤ 320) {i0 : Nat} (hi : i0 + 4 < N) (kk : ∀ (F' G' : FF) (L' : Int64), SS F' G' → WL x b D a1 a2 cc (nI i0) 1047 [] F' G' L' L') {F G : FF} {L : Int64} (S : SS F G) : WL x b D a1 a2 cc (nI i0) 168 [] F G L L := by
  obtain ⟨n, nr, ns, h, nx, sz, S⟩ := S
  refine WL.al1 (pc := 168) C dL_law_168 ?_
  refine WL.arg (pc := 169) (k := 1) C hN (by omega) dL_law_169 dL_law_170 dL_law_171 dL_law_172 dL_law_173 rfl ?_
  refine WL.callNI (pc := 174) (av := [.int (xs (i0 + 1))]) (rest := []) C dL_law_174 (k_X5_write x.2.1 F L n (xs (i0 + 1)) S.1.1) ml_L_13 rfl rfl rfl (Nat.le_of_ble_eq_true rfl) ⟨Nat.le_of_ble_eq_true rfl, Nat.le_of_ble_eq_true rfl⟩ ?_
  refine WL.al2 (pc := 177) C dL_law_177 ?_
  refine WL.arg (pc := 178) (k := 1) C hN (by omega) dL_law_178 dL_law_179 dL_law_180 dL_law_181 dL_law_182 rfl ?_
  refine WL.callMI (pc := 183) (av := [.int (xs (i0 + 1))]) (rest := _) C dL_law_183 (k_X6_write x.2.1 G L n (xs (i0 + 1)) S.mt) ml_L_17 rfl rfl rfl (Nat.le_of_ble_eq_true rfl) ⟨Nat.le_of_ble_eq_true rfl, Nat.le_of_ble_eq_true rfl⟩ ?_
  obtain ⟨e, n', S'⟩ := S.write (xs (i0 + 1))
  refine WL.ceq (pc := 186) C dL_law_186 (by decide) e ?_
  exact kk _ _ _ ⟨n', nr, ns, h, nx, sz, S'⟩
set_option maxHeartbeats 4000000 in
theorem law_c1 (C : Lx x b N xs D a1 a2 cc) (hN : N ≤ 320) {i0 : Nat} (hi : i0 + 4 < N) (kk : ∀ (F' G' : FF) (L' : Int64), SS F' G' → WL x b D a1 a2 cc (nI i0) 1047 [] F' G' L' L') {F G : FF} {L : Int64} (S : SS F G) : WL x b D a1 a2 cc (nI i0) 191 [] F G L L := by
  obtain ⟨n, nr, ns, h, nx, sz, S⟩ := S
  refine WL.al1 (pc := 191) C dL_law_191 ?_
  refine WL.callNI (pc := 192) (av := []) (rest := []) C dL_law_192 (k_X5_wipe x.2.1 F L ) ml_L_18 rfl rfl rfl (Nat.le_of_ble_eq_true rfl) ⟨Nat.le_of_ble_eq_true rfl, Nat.le_of_ble_eq_true rfl⟩ ?_
  refine WL.al2 (pc := 195) C dL_law_195 ?_
  refine WL.callMI (pc := 196) (av := []) (rest := _) C dL_law_196 (k_X6_wipe x.2.1 G L ) ml_L_22 rfl rfl rfl (Nat.le_of_ble_eq_true rfl) ⟨Nat.le_of_ble_eq_true rfl, Nat.le_of_ble_eq_true rfl⟩ ?_
  obtain ⟨e, S'⟩ := S.wipe
  refine WL.ceq (pc := 199) C dL_law_199 (by decide) e ?_
  exact kk _ _ _ ⟨0, nr, ns, h, nx, sz, S'⟩
set_option maxHeartbeats 4000000 in
theorem law_c2 (C : Lx x b N xs D a1 a2 cc) (hN : N ≤ 320) {i0 : Nat} (hi : i0 + 4 < N) (kk : ∀ (F' G' : FF) (L' : Int64), SS F' G' → WL x b D a1 a2 cc (nI i0) 1047 [] F' G' L' L') {F G : FF} {L : Int64} (S : SS F G) : WL x b D a1 a2 cc (nI i0) 204 [] F G L L := by
  obtain ⟨n, nr, ns, h, nx, sz, S⟩ := S
  refine WL.al1 (pc := 204) C dL_law_204 ?_
  refine WL.callNI (pc := 205) (av := []) (rest := []) C dL_law_205 (k_X5_fault x.2.1 F L n S.1.1) ml_L_23 rfl rfl rfl (Nat.le_of_ble_eq_true rfl) ⟨Nat.le_of_ble_eq_true rfl, Nat.le_of_ble_eq_true rfl⟩ ?_
  refine WL.al2 (pc := 208) C dL_law_208 ?_
  refine WL.callMI (pc := 209) (av := []) (rest := _) C dL_law_209 (k_X6_fault x.2.1 G L n S.mt) ml_L_26 rfl rfl rfl (Nat.le_of_ble_eq_true rfl) ⟨Nat.le_of_ble_eq_true rfl, Nat.le_of_ble_eq_true rfl⟩ ?_
  obtain ⟨e, S'⟩ := S.fault
  refine WL.ceq (pc := 212) C dL_law_212 (by decide) e ?_
  exact kk _ _ _ ⟨n, nr, ns, h, nx, sz, S'⟩
set_option maxHeartbeats 4000000 in
theorem law_c3 (C : Lx x b N xs D a1 a2 cc) (hN : N ≤ 320) {i0 : Nat} (hi : i0 + 4 < N) (kk : ∀ (F' G' : FF) (L' : Int64), SS F' G' → WL x b D a1 a2 cc (nI i0) 1047 [] F' G' L' L') {F G : FF} {L : Int64} (S : SS F G) : WL x b D a1 a2 cc (nI i0) 217 [] F G L L := by
  obtain ⟨n, nr, ns, h, nx, sz, S⟩ := S
  refine WL.al1 (pc := 217) C dL_law_217 ?_
  refine WL.callNI (pc := 218) (av := []) (rest := []) C dL_law_218 (k_X5_room x.2.1 F L n S.1.1) ml_L_27 rfl rfl rfl (Nat.le_of_ble_eq_true rfl) ⟨Nat.le_of_ble_eq_true rfl, Nat.le_of_ble_eq_true rfl⟩ ?_
  refine WL.al2 (pc := 221) C dL_law_221 ?_
  refine WL.callMI (pc := 222) (av := []) (rest := _) C dL_law_222 (k_X6_room x.2.1 G L n S.mt) ml_L_30 rfl rfl rfl (Nat.le_of_ble_eq_true rfl) ⟨Nat.le_of_ble_eq_true rfl, Nat.le_of_ble_eq_true rfl⟩ ?_
  obtain ⟨e, nr', ns', sz', S'⟩ := S.room
  refine WL.ceq (pc := 225) C dL_law_225 (by decide) e ?_
  exact kk _ _ _ ⟨n, nr', ns', h, nx, sz', S'⟩
set_option maxHeartbeats 4000000 in
theorem law_c4 (C : Lx x b N xs D a1 a2 cc) (hN : N ≤ 320) {i0 : Nat} (hi : i0 + 4 < N) (kk : ∀ (F' G' : FF) (L' : Int64), SS F' G' → WL x b D a1 a2 cc (nI i0) 1047 [] F' G' L' L') {F G : FF} {L : Int64} (S : SS F G) : WL x b D a1 a2 cc (nI i0) 230 [] F G L L := by
  obtain ⟨n, nr, ns, h, nx, sz, S⟩ := S
  refine WL.al1 (pc := 230) C dL_law_230 ?_
  refine WL.arg (pc := 231) (k := 1) C hN (by omega) dL_law_231 dL_law_232 dL_law_233 dL_law_234 dL_law_235 rfl ?_
  refine WL.arg (pc := 236) (k := 2) C hN (by omega) dL_law_236 dL_law_237 dL_law_238 dL_law_239 dL_law_240 rfl ?_
  refine WL.callNI (pc := 241) (av := [.int (xs (i0 + 1)), .int (xs (i0 + 2))]) (rest := []) C dL_law_241 (k_X5_reader x.2.1 F L nr ns (xs (i0 + 1)) (xs (i0 + 2)) S.1.2.1) ml_L_31 rfl rfl rfl (Nat.le_of_ble_eq_true rfl) ⟨Nat.le_of_ble_eq_true rfl, Nat.le_of_ble_eq_true rfl⟩ ?_
  refine WL.al2 (pc := 244) C dL_law_244 ?_
  refine WL.arg (pc := 245) (k := 1) C hN (by omega) dL_law_245 dL_law_246 dL_law_247 dL_law_248 dL_law_249 rfl ?_
  refine WL.arg (pc := 250) (k := 2) C hN (by omega) dL_law_250 dL_law_251 dL_law_252 dL_law_253 dL_law_254 rfl ?_
  refine WL.callMI (pc := 255) (av := [.int (xs (i0 + 1)), .int (xs (i0 + 2))]) (rest := _) C dL_law_255 (k_X6_reader x.2.1 G L nr ns (xs (i0 + 1)) (xs (i0 + 2)) S.mr) ml_L_35 rfl rfl rfl (Nat.le_of_ble_eq_true rfl) ⟨Nat.le_of_ble_eq_true rfl, Nat.le_of_ble_eq_true rfl⟩ ?_
  have e := S.reader (xs (i0 + 1)) (xs (i0 + 2))
  refine WL.ceq (pc := 258) C dL_law_258 (by decide) e ?_
  exact kk _ _ _ ⟨n, nr, ns, h, nx, sz, S⟩
set_option maxHeartbeats 4000000 in
theorem law_c5 (C : Lx x b N xs D a1 a2 cc) (hN : N ≤ 320) {i0 : Nat} (hi : i0 + 4 < N) (kk : ∀ (F' G' : FF) (L' : Int64), SS F' G' → WL x b D a1 a2 cc (nI i0) 1047 [] F' G' L' L') {F G : FF} {L : Int64} (S : SS F G) : WL x b D a1 a2 cc (nI i0) 263 [] F G L L := by
  obtain ⟨n, nr, ns, h, nx, sz, S⟩ := S
  refine WL.al1 (pc := 263) C dL_law_263 ?_
  refine WL.arg (pc := 264) (k := 1) C hN (by omega) dL_law_264 dL_law_265 dL_law_266 dL_law_267 dL_law_268 rfl ?_
  refine WL.arg (pc := 269) (k := 2) C hN (by omega) dL_law_269 dL_law_270 dL_law_271 dL_law_272 dL_law_273 rfl ?_
  refine WL.callNI (pc := 274) (av := [.int (xs (i0 + 1)), .int (xs (i0 + 2))]) (rest := []) C dL_law_274 (k_X5_sample x.2.1 F L nr ns (xs (i0 + 1)) (xs (i0 + 2)) S.1.2.1 S.1.2.2.2.2.1) ml_L_36 rfl rfl rfl (Nat.le_of_ble_eq_true rfl) ⟨Nat.le_of_ble_eq_true rfl, Nat.le_of_ble_eq_true rfl⟩ ?_
  refine WL.al2 (pc := 277) C dL_law_277 ?_
  refine WL.arg (pc := 278) (k := 1) C hN (by omega) dL_law_278 dL_law_279 dL_law_280 dL_law_281 dL_law_282 rfl ?_
  refine WL.arg (pc := 283) (k := 2) C hN (by omega) dL_law_283 dL_law_284 dL_law_285 dL_law_286 dL_law_287 rfl ?_
  refine WL.callMI (pc := 288) (av := [.int (xs (i0 + 1)), .int (xs (i0 + 2))]) (rest := _) C dL_law_288 (k_X6_sample x.2.1 G L nr ns (xs (i0 + 1)) (xs (i0 + 2)) S.mr) ml_L_39 rfl rfl rfl (Nat.le_of_ble_eq_true rfl) ⟨Nat.le_of_ble_eq_true rfl, Nat.le_of_ble_eq_true rfl⟩ ?_
  have e := S.sample (xs (i0 + 1)) (xs (i0 + 2))
  refine WL.ceq (pc := 291) C dL_law_291 (by decide) e ?_
  exact kk _ _ _ ⟨n, nr, ns, h, nx, sz, S⟩
set_option maxHeartbeats 4000000 in
theorem law_c6 (C : Lx x b N xs D a1 a2 cc) (hN : N ≤ 320) {i0 : Nat} (hi : i0 + 4 < N) (kk : ∀ (F' G' : FF) (L' : Int64), SS F' G' → WL x b D a1 a2 cc (nI i0) 1047 [] F' G' L' L') {F G : FF} {L : Int64} (S : SS F G) : WL x b D a1 a2 cc (nI i0) 296 [] F G L L := by
  obtain ⟨n, nr, ns, h, nx, sz, S⟩ := S
  refine WL.al1 (pc := 296) C dL_law_296 ?_
  refine WL.arg (pc := 297) (k := 1) C hN (by omega) dL_law_297 dL_law_298 dL_law_299 dL_law_300 dL_law_301 rfl ?_
  refine WL.arg (pc := 302) (k := 2) C hN (by omega) dL_law_302 dL_law_303 dL_law_304 dL_law_305 dL_law_306 rfl ?_
  refine WL.callNI (pc := 307) (av := [.int (xs (i0 + 1)), .int (xs (i0 + 2))]) (rest := []) C dL_law_307 (k_X5_bright x.2.1 F L nr ns (xs (i0 + 1)) (xs (i0 + 2)) S.1.2.1 S.1.2.2.2.2.1) ml_L_40 rfl rfl rfl (Nat.le_of_ble_eq_true rfl) ⟨Nat.le_of_ble_eq_true rfl, Nat.le_of_ble_eq_true rfl⟩ ?_
  refine WL.al2 (pc := 310) C dL_law_310 ?_
  refine WL.arg (pc := 311) (k := 1) C hN (by omega) dL_law_311 dL_law_312 dL_law_313 dL_law_314 dL_law_315 rfl ?_
  refine WL.arg (pc := 316) (k := 2) C hN (by omega) dL_law_316 dL_law_317 dL_law_318 dL_law_319 dL_law_320 rfl ?_
  refine WL.callMI (pc := 321) (av := [.int (xs (i0 + 1)), .int (xs (i0 + 2))]) (rest := _) C dL_law_321 (k_X6_bright x.2.1 G L nr ns (xs (i0 + 1)) (xs (i0 + 2)) S.mr) ml_L_43 rfl rfl rfl (Nat.le_of_ble_eq_true rfl) ⟨Nat.le_of_ble_eq_true rfl, Nat.le_of_ble_eq_true rfl⟩ ?_
  have e := S.bright (xs (i0 + 1)) (xs (i0 + 2))
  refine WL.ceq (pc := 324) C dL_law_324 (by decide) e ?_
  exact kk _ _ _ ⟨n, nr, ns, h, nx, sz, S⟩
set_option maxHeartbeats 4000000 in
theorem law_c7 (C : Lx x b N xs D a1 a2 cc) (hN : N ≤ 320) {i0 : Nat} (hi : i0 + 4 < N) (kk : ∀ (F' G' : FF) (L' : Int64), SS F' G' → WL x b D a1 a2 cc (nI i0) 1047 [] F' G' L' L') {F G : FF} {L : Int64} (S : SS F G) : WL x b D a1 a2 cc (nI i0) 329 [] F G L L := by
  obtain ⟨n, nr, ns, h, nx, sz, S⟩ := S
  refine WL.al1 (pc := 329) C dL_law_329 ?_
  refine WL.arg (pc := 330) (k := 1) C hN (by omega) dL_law_330 dL_law_331 dL_law_332 dL_law_333 dL_law_334 rfl ?_
  refine WL.arg (pc := 335) (k := 2) C hN (by omega) dL_law_335 dL_law_336 dL_law_337 dL_law_338 dL_law_339 rfl ?_
  refine WL.callNI (pc := 340) (av := [.int (xs (i0 + 1)), .int (xs (i0 + 2))]) (rest := []) C dL_law_340 (k_X5_read x.2.1 F L nr ns nx sz (xs (i0 + 1)) (xs (i0 + 2)) S.1.2.1 S.1.2.2.2.2.1 S.1.2.2.2.1) ml_L_44 rfl rfl rfl (Nat.le_of_ble_eq_true rfl) ⟨Nat.le_of_ble_eq_true rfl, Nat.le_of_ble_eq_true rfl⟩ ?_
  refine WL.al2 (pc := 343) C dL_law_343 ?_
  refine WL.arg (pc := 344) (k := 1) C hN (by omega) dL_law_344 dL_law_345 dL_law_346 dL_law_347 dL_law_348 rfl ?_
  refine WL.arg (pc := 349) (k := 2) C hN (by omega) dL_law_349 dL_law_350 dL_law_351 dL_law_352 dL_law_353 rfl ?_
  refine WL.callMI (pc := 354) (av := [.int (xs (i0 + 1)), .int (xs (i0 + 2))]) (rest := _) C dL_law_354 (k_X6_read x.2.1 G L nr ns nx sz (xs (i0 + 1)) (xs (i0 + 2)) S.mr S.ma) ml_L_47 rfl rfl rfl (Nat.le_of_ble_eq_true rfl) ⟨Nat.le_of_ble_eq_true rfl, Nat.le_of_ble_eq_true rfl⟩ ?_
  obtain ⟨e, nx', sz', S'⟩ := S.read (xs (i0 + 1)) (xs (i0 + 2))
  refine WL.ceq (pc := 357) C dL_law_357 (by decide) e ?_
  exact kk _ _ _ ⟨n, nr, ns, h, nx', sz', S'⟩
set_option maxHeartbeats 4000000 in
theorem law_c8 (C : Lx x b N xs D a1 a2 cc) (hN : N ≤ 320) {i0 : Nat} (hi : i0 + 4 < N) (kk : ∀ (F' G' : FF) (L' : Int64), SS F' G' → WL x b D a1 a2 cc (nI i0) 1047 [] F' G' L' L') {F G : FF} {L : Int64} (S : SS F G) : WL x b D a1 a2 cc (nI i0) 362 [] F G L L := by
  obtain ⟨n, nr, ns, h, nx, sz, S⟩ := S
  refine WL.al1 (pc := 362) C dL_law_362 ?_
  refine WL.arg (pc := 363) (k := 1) C hN (by omega) dL_law_363 dL_law_364 dL_law_365 dL_law_366 dL_law_367 rfl ?_
  refine WL.callNI (pc := 368) (av := [.int (xs (i0 + 1))]) (rest := []) C dL_law_368 (k_X5_rest x.2.1 F L nr ns nx sz (xs (i0 + 1)) S.1.2.1 S.1.2.2.2.2.1 S.1.2.2.2.1) ml_L_48 rfl rfl rfl (Nat.le_of_ble_eq_true rfl) ⟨Nat.le_of_ble_eq_true rfl, Nat.le_of_ble_eq_true rfl⟩ ?_
  refine WL.al2 (pc := 371) C dL_law_371 ?_
  refine WL.arg (pc := 372) (k := 1) C hN (by omega) dL_law_372 dL_law_373 dL_law_374 dL_law_375 dL_law_376 rfl ?_
  refine WL.callMI (pc := 377) (av := [.int (xs (i0 + 1))]) (rest := _) C dL_law_377 (k_X6_rest x.2.1 G L nr ns nx sz (xs (i0 + 1)) S.mr S.ma) ml_L_51 rfl rfl rfl (Nat.le_of_ble_eq_true rfl) ⟨Nat.le_of_ble_eq_true rfl, Nat.le_of_ble_eq_true rfl⟩ ?_
  obtain ⟨e, nx', sz', S'⟩ := S.rest (xs (i0 + 1))
  refine WL.ceq (pc := 380) C dL_law_380 (by decide) e ?_
  exact kk _ _ _ ⟨n, nr, ns, h, nx', sz', S'⟩
set_option maxHeartbeats 4000000 in
theorem law_c9 (C : Lx x b N xs D a1 a2 cc) (hN : N ≤ 320) {i0 : Nat} (hi : i0 + 4 < N) (kk : ∀ (F' G' : FF) (L' : Int64), SS F' G' → WL x b D a1 a2 cc (nI i0) 1047 [] F' G' L' L') {F G : FF} {L : Int64} (S : SS F G) : WL x b D a1 a2 cc (nI i0) 385 [] F G L L := by
  obtain ⟨n, nr, ns, h, nx, sz, S⟩ := S
  refine WL.al1 (pc := 385) C dL_law_385 ?_
  refine WL.arg (pc := 386) (k := 1) C hN (by omega) dL_law_386 dL_law_387 dL_law_388 dL_law_389 dL_law_390 rfl ?_
  refine WL.arg (pc := 391) (k := 2) C hN (by omega) dL_law_391 dL_law_392 dL_law_393 dL_law_394 dL_law_395 rfl ?_
  refine WL.callNI (pc := 396) (av := [.int (xs (i0 + 1)), .int (xs (i0 + 2))]) (rest := []) C dL_law_396 (k_X5_withdraw x.2.1 F L nr ns nx sz (xs (i0 + 1)) (xs (i0 + 2)) S.1.2.1 S.1.2.2.2.2.1 S.1.2.2.2.1) ml_L_52 rfl rfl rfl (Nat.le_of_ble_eq_true rfl) ⟨Nat.le_of_ble_eq_true rfl, Nat.le_of_ble_eq_true rfl⟩ ?_
  refine WL.al2 (pc := 399) C dL_law_399 ?_
  refine WL.arg (pc := 400) (k := 1) C hN (by omega) dL_law_400 dL_law_401 dL_law_402 dL_law_403 dL_law_404 rfl ?_
  refine WL.arg (pc := 405) (k := 2) C hN (by omega) dL_law_405 dL_law_406 dL_law_407 dL_law_408 dL_law_409 rfl ?_
  refine WL.callMI (pc := 410) (av := [.int (xs (i0 + 1)), .int (xs (i0 + 2))]) (rest := _) C dL_law_410 (k_X6_withdraw x.2.1 G L nr ns nx sz (xs (i0 + 1)) (xs (i0 + 2)) S.mr S.ma) ml_L_55 rfl rfl rfl (Nat.le_of_ble_eq_true rfl) ⟨Nat.le_of_ble_eq_true rfl, Nat.le_of_ble_eq_true rfl⟩ ?_
  obtain ⟨e, nx', sz', S'⟩ := S.withdraw (xs (i0 + 1)) (xs (i0 + 2))
  refine WL.ceq (pc := 413) C dL_law_413 (by decide) e ?_
  exact kk _ _ _ ⟨n, nr, ns, h, nx', sz', S'⟩
set_option maxHeartbeats 4000000 in
theorem law_c10 (C : Lx x b N xs D a1 a2 cc) (hN : N ≤ 320) {i0 : Nat} (hi : i0 + 4 < N) (kk : ∀ (F' G' : FF) (L' : Int64), SS F' G' → WL x b D a1 a2 cc (nI i0) 1047 [] F' G' L' L') {F G : FF} {L : Int64} (S : SS F G) : WL x b D a1 a2 cc (nI i0) 418 [] F G L L := by
  obtain ⟨n, nr, ns, h, nx, sz, S⟩ := S
  refine WL.al1 (pc := 418) C dL_law_418 ?_
  refine WL.callNI (pc := 419) (av := []) (rest := []) C dL_law_419 (k_X5_prism x.2.1 F L nx sz S.1.2.2.2.2.1 S.1.2.2.2.1) ml_L_56 rfl rfl rfl (Nat.le_of_ble_eq_true rfl) ⟨Nat.le_of_ble_eq_true rfl, Nat.le_of_ble_eq_true rfl⟩ ?_
  refine WL.al2 (pc := 422) C dL_law_422 ?_
  refine WL.callMI (pc := 423) (av := []) (rest := _) C dL_law_423 (k_X6_prism x.2.1 G L nx sz S.ma) ml_L_59 rfl rfl rfl (Nat.le_of_ble_eq_true rfl) ⟨Nat.le_of_ble_eq_true rfl, Nat.le_of_ble_eq_true rfl⟩ ?_
  obtain ⟨e, nx', sz', S'⟩ := S.prism
  refine WL.ceq (pc := 426) C dL_law_426 (by decide) e ?_
  exact kk _ _ _ ⟨n, nr, ns, h, nx', sz', S'⟩
set_option maxHeartbeats 4000000 in
theorem law_c11 (C : Lx x b N xs D a1 a2 cc) (hN : N ≤ 320) {i0 : Nat} (hi : i0 + 4 < N) (kk : ∀ (F' G' : FF) (L' : Int64), SS F' G' → WL x b D a1 a2 cc (nI i0) 1047 [] F' G' L' L') {F G : FF} {L : Int64} (S : SS F G) : WL x b D a1 a2 cc (nI i0) 431 [] F G L L := by
  obtain ⟨n, nr, ns, h, nx, sz, S⟩ := S
  refine WL.al1 (pc := 431) C dL_law_431 ?_
  refine WL.callNI (pc := 432) (av := []) (rest := []) C dL_law_432 (k_X5_tell x.2.1 F L nx sz S.1.2.2.2.2.1 S.1.2.2.2.1) ml_L_60 rfl rfl rfl (Nat.le_of_ble_eq_true rfl) ⟨Nat.le_of_ble_eq_true rfl, Nat.le_of_ble_eq_true rfl⟩ ?_
  refine WL.al2 (pc := 435) C dL_law_435 ?_
  refine WL.callMI (pc := 436) (av := []) (rest := _) C dL_law_436 (k_X6_tell x.2.1 G L nx sz S.ma) ml_L_63 rfl rfl rfl (Nat.le_of_ble_eq_true rfl) ⟨Nat.le_of_ble_eq_true rfl, Nat.le_of_ble_eq_true rfl⟩ ?_
  obtain ⟨e, nx', sz', S'⟩ := S.tell
  refine WL.ceq (pc := 439) C dL_law_439 (by decide) e ?_
  exact kk _ _ _ ⟨n, nr, ns, h, nx', sz', S'⟩
set_option maxHeartbeats 4000000 in
theorem law_c12 (C : Lx x b N xs D a1 a2 cc) (hN : N ≤ 320) {i0 : Nat} (hi : i0 + 4 < N) (kk : ∀ (F' G' : FF) (L' : Int64), SS F' G' → WL x b D a1 a2 cc (nI i0) 1047 [] F' G' L' L') {F G : FF} {L : Int64} (S : SS F G) : WL x b D a1 a2 cc (nI i0) 444 [] F G L L := by
  obtain ⟨n, nr, ns, h, nx, sz, S⟩ := S
  refine WL.al1 (pc := 444) C dL_law_444 ?_
  refine WL.callNI (pc := 445) (av := []) (rest := []) C dL_law_445 (k_X5_undo x.2.1 F L nx sz S.1.2.2.2.2.1 S.1.2.2.2.1) ml_L_64 rfl rfl rfl (Nat.le_of_ble_eq_true rfl) ⟨Nat.le_of_ble_eq_true rfl, Nat.le_of_ble_eq_true rfl⟩ ?_
  refine WL.al2 (pc := 448) C dL_law_448 ?_
  refine WL.callMI (pc := 449) (av := []) (rest := _) C dL_law_449 (k_X6_undo x.2.1 G L nx sz S.ma) ml_L_67 rfl rfl rfl (Nat.le_of_ble_eq_true rfl) ⟨Nat.le_of_ble_eq_true rfl, Nat.le_of_ble_eq_true rfl⟩ ?_
  obtain ⟨e, nx', sz', S'⟩ := S.undo
  refine WL.ceq (pc := 452) C dL_law_452 (by decide) e ?_
  exact kk _ _ _ ⟨n, nr, ns, h, nx', sz', S'⟩
set_option maxHeartbeats 4000000 in
theorem law_c13 (C : Lx x b N xs D a1 a2 cc) (hN : N ≤ 320) {i0 : Nat} (hi : i0 + 4 < N) (kk : ∀ (F' G' : FF) (L' : Int64), SS F' G' → WL x b D a1 a2 cc (nI i0) 1047 [] F' G' L' L') {F G : FF} {L : Int64} (S : SS F G) : WL x b D a1 a2 cc (nI i0) 457 [] F G L L := by
  obtain ⟨n, nr, ns, h, nx, sz, S⟩ := S
  refine WL.al1 (pc := 457) C dL_law_457 ?_
  refine WL.arg (pc := 458) (k := 1) C hN (by omega) dL_law_458 dL_law_459 dL_law_460 dL_law_461 dL_law_462 rfl ?_
  refine WL.callNI (pc := 463) (av := [.int (xs (i0 + 1))]) (rest := []) C dL_law_463 (k_X5_fooled x.2.1 F L nr ns (xs (i0 + 1)) S.1.2.1) ml_L_68 rfl rfl rfl (Nat.le_of_ble_eq_true rfl) ⟨Nat.le_of_ble_eq_true rfl, Nat.le_of_ble_eq_true rfl⟩ ?_
  refine WL.al2 (pc := 466) C dL_law_466 ?_
  refine WL.arg (pc := 467) (k := 1) C hN (by omega) dL_law_467 dL_law_468 dL_law_469 dL_law_470 dL_law_471 rfl ?_
  refine WL.callMI (pc := 472) (av := [.int (xs (i0 + 1))]) (rest := _) C dL_law_472 (k_X6_fooled x.2.1 G L nr ns (xs (i0 + 1)) S.mr) ml_L_71 rfl rfl rfl (Nat.le_of_ble_eq_true rfl) ⟨Nat.le_of_ble_eq_true rfl, Nat.le_of_ble_eq_true rfl⟩ ?_
  have e := S.fooled (xs (i0 + 1))
  refine WL.ceq (pc := 475) C dL_law_475 (by decide) e ?_
  exact kk _ _ _ ⟨n, nr, ns, h, nx, sz, S⟩
set_option maxHeartbeats 4000000 in
theorem law_c14 (C : Lx x b N xs D a1 a2 cc) (hN : N ≤ 320) {i0 : Nat} (hi : i0 + 4 < N) (kk : ∀ (F' G' : FF) (L' : Int64), SS F' G' → WL x b D a1 a2 cc (nI i0) 1047 [] F' G' L' L') {F G : FF} {L : Int64} (S : SS F G) : WL x b D a1 a2 cc (nI i0) 480 [] F G L L := by
  obtain ⟨n, nr, ns, h, nx, sz, S⟩ := S
  refine WL.al1 (pc := 480) C dL_law_480 ?_
  refine WL.arg (pc := 481) (k := 1) C hN (by omega) dL_law_481 dL_law_482 dL_law_483 dL_law_484 dL_law_485 rfl ?_
  refine WL.callNI (pc := 486) (av := [.int (xs (i0 + 1))]) (rest := []) C dL_law_486 (k_X5_truly x.2.1 F L nr ns (xs (i0 + 1)) S.1.2.1) ml_L_72 rfl rfl rfl (Nat.le_of_ble_eq_true rfl) ⟨Nat.le_of_ble_eq_true rfl, Nat.le_of_ble_eq_true rfl⟩ ?_
  refine WL.al2 (pc := 489) C dL_law_489 ?_
  refine WL.arg (pc := 490) (k := 1) C hN (by omega) dL_law_490 dL_law_491 dL_law_492 dL_law_493 dL_law_494 rfl ?_
  refine WL.callMI (pc := 495) (av := [.int (xs (i0 + 1))]) (rest := _) C dL_law_495 (k_X6_truly x.2.1 G L nr ns (xs (i0 + 1)) S.mr) ml_L_75 rfl rfl rfl (Nat.le_of_ble_eq_true rfl) ⟨Nat.le_of_ble_eq_true rfl, Nat.le_of_ble_eq_true rfl⟩ ?_
  have e := S.truly (xs (i0 + 1))
  refine WL.ceq (pc := 498) C dL_law_498 (by decide) e ?_
  exact kk _ _ _ ⟨n, nr, ns, h, nx, sz, S⟩
end LW
