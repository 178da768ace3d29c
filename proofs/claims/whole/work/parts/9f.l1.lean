section
abbrev wzLaw : List Cond := .code yL_law cL_law 8 (some .boolean) :: zW
abbrev lawQ : Option zV → zM → Prop := fun r _ => r = some (zI 1)
theorem zr_fg {G : zG} {R : Room} {nL : Nat} {q : zq} {X : zX} {b : Nat × Nat} {pc : Nat} {ls ls' : List (Option zV)} {st : List zV} {M : zM} (h : ∀ i v, zget ls' i = some v → zget ls i = some v) (kk : zK G R nL q X b pc ls' st M) : zK G R nL q X b pc ls st M := by
  intro ho hl hM H locs arr hP hS hh
  exact kk ho (fun i v hv => hl i v (h i v hv)) hM H locs arr hP hS ⟨hh.1, hh.2.1, fun i v hv => hh.2.2 i v (h i v hv)⟩
theorem zfg8 {a b c d e x y z : Option zV} : ∀ i v, zget [a, b, c, d, e, none, none, none] i = some v → zget [a, b, c, d, e, x, y, z] i = some v
  | 0, _, h => h
  | 1, _, h => h
  | 2, _, h => h
  | 3, _, h => h
  | 4, _, h => h
  | 5, _, h => by cases h
  | 6, _, h => by cases h
  | 7, _, h => by cases h
  | _ + 8, _, h => by cases h
theorem hpm {cd : Nat → Option Int} {F F' : Int → zM → Prop} (h : ∀ k N, F k N → F' k N) : ∀ {r : Option zV} {N : zM}, hp cd F r N → hp cd F' r N
  | none, _, g => h _ _ g
  | some (.inl _), _, g => h _ _ g
  | some (.inr (.inl _)), _, g => h _ _ g
  | some (.inr (.inr _)), _, g => g.imp (fun _ z => ⟨z.1, h _ _ z.2⟩)
theorem kL_law_149 : ∀ (s9 : State) (a9 : Array Value), (∀ w ∈ wzLaw, w.before a9 s9 = true) → vx_CSW room_1 s9 a9 RL 149 yL_sort cL_sort 6 (some .int) [(0, 12, 15, 13)] wzL_sort rmL_sort 2 12 5 := zcSW (zWi_18 _ (List.mem_of_getElem? (i := 14) rfl)) (zWi_30 _ (List.mem_of_getElem? (i := 43) rfl)) (zWi_12 _ (List.mem_of_getElem? (i := 8) rfl)) (zWi_6 _ (List.mem_of_getElem? (i := 39) rfl)) (by decide +kernel) rfl rfl ⟨Nat.le_of_ble_eq_true rfl, Nat.le_of_ble_eq_true rfl⟩
theorem kL_law_154 : ∀ (s9 : State) (a9 : Array Value), (∀ w ∈ wzLaw, w.before a9 s9 = true) → CallW room_1 s9 a9 RL RX12 154 yX12_sort cX12_sort 6 (some .int) wzX12_sort rmX12_sort 0 0 3 := zcV (zWi_18 _ (List.mem_of_getElem? (i := 16) rfl)) (zWi_15 _ (List.mem_of_getElem? (i := 19) rfl)) (zWi_28 _ (List.mem_of_getElem? (i := 10) rfl)) (zWi_12 _ (List.mem_of_getElem? (i := 13) rfl)) (zWi_4 _ (List.mem_of_getElem? (i := 1) rfl)) (by decide +kernel) rfl rfl ⟨Nat.le_of_ble_eq_true rfl, Nat.le_of_ble_eq_true rfl⟩
theorem kL_law_155 : ∀ (s9 : State) (a9 : Array Value), (∀ w ∈ wzLaw, w.before a9 s9 = true) → CallW room_1 s9 a9 RL RX12 155 yX12_thrown cX12_thrown 1 (some .int) wzX12_thrown rmX12_thrown 0 0 0 := zcV (zWi_18 _ (List.mem_of_getElem? (i := 17) rfl)) (zWi_15 _ (List.mem_of_getElem? (i := 27) rfl)) (zWi_28 _ (List.mem_of_getElem? (i := 18) rfl)) (zWi_12 _ (List.mem_of_getElem? (i := 13) rfl)) (zWi_4 _ (List.mem_of_getElem? (i := 9) rfl)) (by decide +kernel) rfl rfl ⟨Nat.le_of_ble_eq_true rfl, Nat.le_of_ble_eq_true rfl⟩
set_option maxRecDepth 20000 in
set_option maxHeartbeats 4000000 in
theorem ca_sort {E : zE} {X : zX} {L : Nat} {xs : Nat → Int32} {M : zM} {b : Nat × Nat} {B p : Int} (S : zS (zg E) X cL_law 8 wzLaw RL (some .boolean)) (hs : zSc (zg E) X L xs) (hp0 : 0 ≤ p) (hp7 : p + 7 ≤ L) (hL : L ≤ 3584) (g : RR B M) (hB : B ≤ 12300) (hb : b.1 ≤ 100000 ∧ b.2 ≤ 1000000) (hE : ∀ M', RR (B + 24) M' → zK (zg E) room_1 8 (lawQ, 601024, 7293034) X (b.1 + 10, b.2 + 60) 2987 [some (zR 2000), some (zR 0), some (zR 180), some (zR 201), some (zI p), none, none, none] [] M') : zK (zg E) room_1 8 (lawQ, 601024, 7293034) X b 232 [some (zR 2000), some (zR 0), some (zR 180), some (zR 201), some (zI p), none, none, none] [] M := by
  refine zr_aload_n (pc := 232) S dL_law_232 rfl ?_
  refine zr_aload_n (pc := 233) S dL_law_233 rfl ?_
  refine zr_iload (pc := 234) S dL_law_234 rfl ?_
  refine zr_iconst (pc := 236) S dL_law_236 (by unfold zrI; omega) ?_
  refine zr_iadd (pc := 237) S dL_law_237 (by unfold zrI; omega) ?_
  refine zr_sld (pc := 238) S hs dL_law_238 (by omega) (by omega) ?_
  refine zr_aload_n (pc := 239) S dL_law_239 rfl ?_
  refine zr_iload (pc := 240) S dL_law_240 rfl ?_
  refine zr_iconst (pc := 242) S dL_law_242 (by unfold zrI; omega) ?_
  refine zr_iadd (pc := 243) S dL_law_243 (by unfold zrI; omega) ?_
  refine zr_sld (pc := 244) S hs dL_law_244 (by omega) (by omega) ?_
  refine zr_aload_n (pc := 245) S dL_law_245 rfl ?_
  refine zr_iload (pc := 246) S dL_law_246 rfl ?_
  refine zr_iconst (pc := 248) S dL_law_248 (by unfold zrI; omega) ?_
  refine zr_iadd (pc := 249) S dL_law_249 (by unfold zrI; omega) ?_
  refine zr_sld (pc := 250) S hs dL_law_250 (by omega) (by omega) ?_
  refine zr_aload_n (pc := 251) S dL_law_251 rfl ?_
  refine zr_invSW (pc := 252) S [zR _, zI _, zI _, zI _, zR _] (m_L_sort _) kL_law_149 dL_law_252 (Nat.le_of_ble_eq_true rfl) ⟨by show _ ≤ 601024; omega, by show _ ≤ 7293034; omega⟩ (⟨_, _, _, rfl, ?_⟩)
  suffices hc : ∀ (k : Int) (N : zM), sp_X12_sort _ N (fin B k) → zaft (zg E) room_1 8 (lawQ, 601024, 7293034) X _ _ _ _ (some (zI k)) N from mo_X11_sort (fun v N h => hpm hc h) (fun _ _ _ h => hpm hc h) (step_sort g)
  intro k N hN
  dsimp only [zaft]
  refine zr_istore (pc := 255) S dL_law_255 (by decide) ?_
  dsimp only [zst1, zst2, zset, zget, zlong]
  refine zr_aload_n (pc := 257) S dL_law_257 rfl ?_
  refine zr_aload_n (pc := 258) S dL_law_258 rfl ?_
  refine zr_iload (pc := 259) S dL_law_259 rfl ?_
  refine zr_iconst (pc := 261) S dL_law_261 (by unfold zrI; omega) ?_
  refine zr_iadd (pc := 262) S dL_law_262 (by unfold zrI; omega) ?_
  refine zr_sld (pc := 263) S hs dL_law_263 (by omega) (by omega) ?_
  refine zr_aload_n (pc := 264) S dL_law_264 rfl ?_
  refine zr_iload (pc := 265) S dL_law_265 rfl ?_
  refine zr_iconst (pc := 267) S dL_law_267 (by unfold zrI; omega) ?_
  refine zr_iadd (pc := 268) S dL_law_268 (by unfold zrI; omega) ?_
  refine zr_sld (pc := 269) S hs dL_law_269 (by omega) (by omega) ?_
  refine zr_aload_n (pc := 270) S dL_law_270 rfl ?_
  refine zr_iload (pc := 271) S dL_law_271 rfl ?_
  refine zr_iconst (pc := 273) S dL_law_273 (by unfold zrI; omega) ?_
  refine zr_iadd (pc := 274) S dL_law_274 (by unfold zrI; omega) ?_
  refine zr_sld (pc := 275) S hs dL_law_275 (by omega) (by omega) ?_
  refine zr_invV (pc := 276) S [zI _, zI _, zI _] (m_X12_sort _) kL_law_154 dL_law_276 rfl (Nat.le_of_ble_eq_true rfl) rfl (Nat.le_of_ble_eq_true rfl) ⟨by show _ ≤ 601024; omega, by show _ ≤ 7293034; omega⟩ (mo_X12_sort (fun v P hf => ?_) hN)
  dsimp only [zaft]
  obtain ⟨hf1, hf2, hR⟩ := hf
  refine zr_istore (pc := 279) S dL_law_279 (by decide) ?_
  dsimp only [zst1, zst2, zset, zget, zlong]
  refine zr_aload_n (pc := 281) S dL_law_281 rfl ?_
  refine zr_invV (pc := 282) S [] (m_X12_thrown _) kL_law_155 dL_law_282 rfl (Nat.le_of_ble_eq_true rfl) rfl (Nat.le_of_ble_eq_true rfl) ⟨by show _ ≤ 601024; omega, by show _ ≤ 7293034; omega⟩ (us_X12_thrown ?_)
  dsimp only [zaft]
  refine zr_iload (pc := 285) S dL_law_285 rfl ?_
  refine zr_icmp_eq (pc := 287) (tgt := 292) S dL_law_287 (by decide) (fun c287 => ?_) (fun c287 => absurd c287 (by omega))
  refine zr_iload (pc := 292) S dL_law_292 rfl ?_
  refine zr_if_ne (pc := 294) (tgt := 309) S dL_law_294 (by decide) (fun c294 => ?_) (fun c294 => ?_)
  · refine zr_goto (pc := 309) (tgt := 2987) S dL_law_309 (by decide) ?_
    exact zr_fg zfg8 (zr_wd ⟨by show _ ≤ b.1 + 10; omega, by show _ ≤ b.2 + 60; omega⟩ (hE _ hR))
  · have h9 := hf2 (by omega)
    refine zr_aload_n (pc := 297) S dL_law_297 rfl ?_
    refine zr_iconst (pc := 298) S dL_law_298 (by unfold zrI; omega) ?_
    refine zr_laload (pc := 299) S dL_law_299 rfl (Nat.le_of_ble_eq_true rfl) (by omega) (by omega) ?_
    dsimp only [Int.reduceToNat]
    refine zr_iload (pc := 300) S dL_law_300 rfl ?_
    refine zr_i2l (pc := 302) S dL_law_302 ?_
    refine zr_lcmp_eq (pc := 303) (tgt := 309) S dL_law_303 dL_law_304 (by decide) (fun c303 => ?_) (fun c303 => absurd c303 (by omega))
    refine zr_goto (pc := 309) (tgt := 2987) S dL_law_309 (by decide) ?_
    exact zr_fg zfg8 (zr_wd ⟨by show _ ≤ b.1 + 10; omega, by show _ ≤ b.2 + 60; omega⟩ (hE _ hR))
theorem kL_law_159 : ∀ (s9 : State) (a9 : Array Value), (∀ w ∈ wzLaw, w.before a9 s9 = true) → vx_CSW room_1 s9 a9 RL 159 yL_span cL_span 6 (some .int) [(0, 9, 12, 19), (0, 9, 16, 13)] wzL_span rmL_span 3 18 5 := zcSW (zWi_18 _ (List.mem_of_getElem? (i := 18) rfl)) (zWi_30 _ (List.mem_of_getElem? (i := 44) rfl)) (zWi_12 _ (List.mem_of_getElem? (i := 8) rfl)) (zWi_6 _ (List.mem_of_getElem? (i := 40) rfl)) (by decide +kernel) rfl rfl ⟨Nat.le_of_ble_eq_true rfl, Nat.le_of_ble_eq_true rfl⟩
theorem kL_law_162 : ∀ (s9 : State) (a9 : Array Value), (∀ w ∈ wzLaw, w.before a9 s9 = true) → CallW room_1 s9 a9 RL RX12 162 yX12_span cX12_span 5 none wzX12_span rmX12_span 0 0 4 := zcV (zWi_18 _ (List.mem_of_getElem? (i := 19) rfl)) (zWi_15 _ (List.mem_of_getElem? (i := 20) rfl)) (zWi_28 _ (List.mem_of_getElem? (i := 11) rfl)) (zWi_12 _ (List.mem_of_getElem? (i := 13) rfl)) (zWi_4 _ (List.mem_of_getElem? (i := 2) rfl)) (by decide +kernel) rfl rfl ⟨Nat.le_of_ble_eq_true rfl, Nat.le_of_ble_eq_true rfl⟩
set_option maxRecDepth 20000 in
set_option maxHeartbeats 4000000 in
theorem ca_span {E : zE} {X : zX} {L : Nat} {xs : Nat → Int32} {M : zM} {b : Nat × Nat} {B p : Int} (S : zS (zg E) X cL_law 8 wzLaw RL (some .boolean)) (hs : zSc (zg E) X L xs) (hp0 : 0 ≤ p) (hp7 : p + 7 ≤ L) (hL : L ≤ 3584) (g : RR B M) (hB : B ≤ 12300) (hb : b.1 ≤ 100000 ∧ b.2 ≤ 1000000) (hE : ∀ M', RR (B + 24) M' → zK (zg E) room_1 8 (lawQ, 601024, 7293034) X (b.1 + 10, b.2 + 60) 2987 [some (zR 2000), some (zR 0), some (zR 180), some (zR 201), some (zI p), none, none, none] [] M') : zK (zg E) room_1 8 (lawQ, 601024, 7293034) X b 312 [some (zR 2000), some (zR 0), some (zR 180), some (zR 201), some (zI p), none, none, none] [] M := by
  refine zr_aload_n (pc := 312) S dL_law_312 rfl ?_
  refine zr_aload_n (pc := 313) S dL_law_313 rfl ?_
  refine zr_iload (pc := 314) S dL_law_314 rfl ?_
  refine zr_iconst (pc := 316) S dL_law_316 (by unfold zrI; omega) ?_
  refine zr_iadd (pc := 317) S dL_law_317 (by unfold zrI; omega) ?_
  refine zr_sld (pc := 318) S hs dL_law_318 (by omega) (by omega) ?_
  refine zr_aload_n (pc := 319) S dL_law_319 rfl ?_
  refine zr_iload (pc := 320) S dL_law_320 rfl ?_
  refine zr_iconst (pc := 322) S dL_law_322 (by unfold zrI; omega) ?_
  refine zr_iadd (pc := 323) S dL_law_323 (by unfold zrI; omega) ?_
  refine zr_sld (pc := 324) S hs dL_law_324 (by omega) (by omega) ?_
  refine zr_aload_n (pc := 325) S dL_law_325 rfl ?_
  refine zr_iload (pc := 326) S dL_law_326 rfl ?_
  refine zr_iconst (pc := 328) S dL_law_328 (by unfold zrI; omega) ?_
  refine zr_iadd (pc := 329) S dL_law_329 (by unfold zrI; omega) ?_
  refine zr_sld (pc := 330) S hs dL_law_330 (by omega) (by omega) ?_
  refine zr_aload_n (pc := 331) S dL_law_331 rfl ?_
  refine zr_iload (pc := 332) S dL_law_332 rfl ?_
  refine zr_iconst (pc := 334) S dL_law_334 (by unfold zrI; omega) ?_
  refine zr_iadd (pc := 335) S dL_law_335 (by unfold zrI; omega) ?_
  refine zr_sld (pc := 336) S hs dL_law_336 (by omega) (by omega) ?_
  refine zr_invSW (pc := 337) S [zR _, zI _, zI _, zI _, zI _] (m_L_span _) kL_law_159 dL_law_337 (Nat.le_of_ble_eq_true rfl) ⟨by show _ ≤ 601024; omega, by show _ ≤ 7293034; omega⟩ (⟨_, _, _, _, rfl, ?_⟩)
  suffices hc : ∀ (k : Int) (N : zM), sp_X12_span _ N (fin B k) → zaft (zg E) room_1 8 (lawQ, 601024, 7293034) X _ _ _ _ (some (zI k)) N from mo_X11_span (fun N h => hpm hc h) (fun _ _ _ h => hpm hc h) (step_span g)
  intro k N hN
  dsimp only [zaft]
  refine zr_istore (pc := 340) S dL_law_340 (by decide) ?_
  dsimp only [zst1, zst2, zset, zget, zlong]
  refine zr_aload_n (pc := 342) S dL_law_342 rfl ?_
  refine zr_aload_n (pc := 343) S dL_law_343 rfl ?_
  refine zr_iload (pc := 344) S dL_law_344 rfl ?_
  refine zr_iconst (pc := 346) S dL_law_346 (by unfold zrI; omega) ?_
  refine zr_iadd (pc := 347) S dL_law_347 (by unfold zrI; omega) ?_
  refine zr_sld (pc := 348) S hs dL_law_348 (by omega) (by omega) ?_
  refine zr_aload_n (pc := 349) S dL_law_349 rfl ?_
  refine zr_iload (pc := 350) S dL_law_350 rfl ?_
  refine zr_iconst (pc := 352) S dL_law_352 (by unfold zrI; omega) ?_
  refine zr_iadd (pc := 353) S dL_law_353 (by unfold zrI; omega) ?_
  refine zr_sld (pc := 354) S hs dL_law_354 (by omega) (by omega) ?_
  refine zr_aload_n (pc := 355) S dL_law_355 rfl ?_
  refine zr_iload (pc := 356) S dL_law_356 rfl ?_
  refine zr_iconst (pc := 358) S dL_law_358 (by unfold zrI; omega) ?_
  refine zr_iadd (pc := 359) S dL_law_359 (by unfold zrI; omega) ?_
  refine zr_sld (pc := 360) S hs dL_law_360 (by omega) (by omega) ?_
  refine zr_aload_n (pc := 361) S dL_law_361 rfl ?_
  refine zr_iload (pc := 362) S dL_law_362 rfl ?_
  refine zr_iconst (pc := 364) S dL_law_364 (by unfold zrI; omega) ?_
  refine zr_iadd (pc := 365) S dL_law_365 (by unfold zrI; omega) ?_
  refine zr_sld (pc := 366) S hs dL_law_366 (by omega) (by omega) ?_
  refine zr_invV (pc := 367) S [zI _, zI _, zI _, zI _] (m_X12_span _) kL_law_162 dL_law_367 rfl (Nat.le_of_ble_eq_true rfl) rfl (Nat.le_of_ble_eq_true rfl) ⟨by show _ ≤ 601024; omega, by show _ ≤ 7293034; omega⟩ (mo_X12_span (fun P hf => ?_) hN)
  dsimp only [zaft]
  obtain ⟨hf1, hR⟩ := hf
  refine zr_aload_n (pc := 370) S dL_law_370 rfl ?_
  refine zr_invV (pc := 371) S [] (m_X12_thrown _) kL_law_155 dL_law_371 rfl (Nat.le_of_ble_eq_true rfl) rfl (Nat.le_of_ble_eq_true rfl) ⟨by show _ ≤ 601024; omega, by show _ ≤ 7293034; omega⟩ (us_X12_thrown ?_)
  dsimp only [zaft]
  refine zr_iload (pc := 374) S dL_law_374 rfl ?_
  refine zr_icmp_eq (pc := 376) (tgt := 381) S dL_law_376 (by decide) (fun c376 => ?_) (fun c376 => absurd c376 (by omega))
  refine zr_goto (pc := 381) (tgt := 2987) S dL_law_381 (by decide) ?_
  exact zr_fg zfg8 (zr_wd ⟨by show _ ≤ b.1 + 10; omega, by show _ ≤ b.2 + 60; omega⟩ (hE _ hR))
theorem kL_law_163 : ∀ (s9 : State) (a9 : Array Value), (∀ w ∈ wzLaw, w.before a9 s9 = true) → vx_CSW room_1 s9 a9 RL 163 yL_wear cL_wear 5 (some .int) [(0, 10, 13, 19), (0, 10, 17, 13)] wzL_wear rmL_wear 2 12 4 := zcSW (zWi_18 _ (List.mem_of_getElem? (i := 20) rfl)) (zWi_30 _ (List.mem_of_getElem? (i := 49) rfl)) (zWi_12 _ (List.mem_of_getElem? (i := 8) rfl)) (zWi_6 _ (List.mem_of_getElem? (i := 45) rfl)) (by decide +kernel) rfl rfl ⟨Nat.le_of_ble_eq_true rfl, Nat.le_of_ble_eq_true rfl⟩
theorem kL_law_166 : ∀ (s9 : State) (a9 : Array Value), (∀ w ∈ wzLaw, w.before a9 s9 = true) → CallW room_1 s9 a9 RL RX12 166 yX12_wear cX12_wear 3 (some .int) wzX12_wear rmX12_wear 0 0 2 := zcV (zWi_18 _ (List.mem_of_getElem? (i := 21) rfl)) (zWi_15 _ (List.mem_of_getElem? (i := 32) rfl)) (zWi_28 _ (List.mem_of_getElem? (i := 23) rfl)) (zWi_12 _ (List.mem_of_getElem? (i := 13) rfl)) (zWi_4 _ (List.mem_of_getElem? (i := 14) rfl)) (by decide +kernel) rfl rfl ⟨Nat.le_of_ble_eq_true rfl, Nat.le_of_ble_eq_true rfl⟩
set_option maxRecDepth 20000 in
set_option maxHeartbeats 4000000 in
theorem ca_wear {E : zE} {X : zX} {L : Nat} {xs : Nat → Int32} {M : zM} {b : Nat × Nat} {B p : Int} (S : zS (zg E) X cL_law 8 wzLaw RL (some .boolean)) (hs : zSc (zg E) X L xs) (hp0 : 0 ≤ p) (hp7 : p + 7 ≤ L) (hL : L ≤ 3584) (g : RR B M) (hB : B ≤ 12300) (hb : b.1 ≤ 100000 ∧ b.2 ≤ 1000000) (hE : ∀ M', RR (B + 24) M' → zK (zg E) room_1 8 (lawQ, 601024, 7293034) X (b.1 + 10, b.2 + 60) 2987 [some (zR 2000), some (zR 0), some (zR 180), some (zR 201), some (zI p), none, none, none] [] M') : zK (zg E) room_1 8 (lawQ, 601024, 7293034) X b 384 [some (zR 2000), some (zR 0), some (zR 180), some (zR 201), some (zI p), none, none, none] [] M := by
  refine zr_aload_n (pc := 384) S dL_law_384 rfl ?_
  refine zr_aload_n (pc := 385) S dL_law_385 rfl ?_
  refine zr_iload (pc := 386) S dL_law_386 rfl ?_
  refine zr_iconst (pc := 388) S dL_law_388 (by unfold zrI; omega) ?_
  refine zr_iadd (pc := 389) S dL_law_389 (by unfold zrI; omega) ?_
  refine zr_sld (pc := 390) S hs dL_law_390 (by omega) (by omega) ?_
  refine zr_aload_n (pc := 391) S dL_law_391 rfl ?_
  refine zr_iload (pc := 392) S dL_law_392 rfl ?_
  refine zr_iconst (pc := 394) S dL_law_394 (by unfold zrI; omega) ?_
  refine zr_iadd (pc := 395) S dL_law_395 (by unfold zrI; omega) ?_
  refine zr_sld (pc := 396) S hs dL_law_396 (by omega) (by omega) ?_
  refine zr_aload_n (pc := 397) S dL_law_397 rfl ?_
  refine zr_invSW (pc := 398) S [zR _, zI _, zI _, zR _] (m_L_wear _) kL_law_163 dL_law_398 (Nat.le_of_ble_eq_true rfl) ⟨by show _ ≤ 601024; omega, by show _ ≤ 7293034; omega⟩ (⟨_, _, rfl, ?_⟩)
  suffices hc : ∀ (k : Int) (N : zM), sp_X12_wear _ N (fin B k) → zaft (zg E) room_1 8 (lawQ, 601024, 7293034) X _ _ _ _ (some (zI k)) N from mo_X11_wear (fun v N h => hpm hc h) (fun _ _ _ h => hpm hc h) (step_wear g)
  intro k N hN
  dsimp only [zaft]
  refine zr_istore (pc := 401) S dL_law_401 (by decide) ?_
  dsimp only [zst1, zst2, zset, zget, zlong]
  refine zr_aload_n (pc := 403) S dL_law_403 rfl ?_
  refine zr_aload_n (pc := 404) S dL_law_404 rfl ?_
  refine zr_iload (pc := 405) S dL_law_405 rfl ?_
  refine zr_iconst (pc := 407) S dL_law_407 (by unfold zrI; omega) ?_
  refine zr_iadd (pc := 408) S dL_law_408 (by unfold zrI; omega) ?_
  refine zr_sld (pc := 409) S hs dL_law_409 (by omega) (by omega) ?_
  refine zr_aload_n (pc := 410) S dL_law_410 rfl ?_
  refine zr_iload (pc := 411) S dL_law_411 rfl ?_
  refine zr_iconst (pc := 413) S dL_law_413 (by unfold zrI; omega) ?_
  refine zr_iadd (pc := 414) S dL_law_414 (by unfold zrI; omega) ?_
  refine zr_sld (pc := 415) S hs dL_law_415 (by omega) (by omega) ?_
  refine zr_invV (pc := 416) S [zI _, zI _] (m_X12_wear _) kL_law_166 dL_law_416 rfl (Nat.le_of_ble_eq_true rfl) rfl (Nat.le_of_ble_eq_true rfl) ⟨by show _ ≤ 601024; omega, by show _ ≤ 7293034; omega⟩ (mo_X12_wear (fun v P hf => ?_) hN)
  dsimp only [zaft]
  obtain ⟨hf1, hf2, hR⟩ := hf
  refine zr_istore (pc := 419) S dL_law_419 (by decide) ?_
  dsimp only [zst1, zst2, zset, zget, zlong]
  refine zr_aload_n (pc := 421) S dL_law_421 rfl ?_
  refine zr_invV (pc := 422) S [] (m_X12_thrown _) kL_law_155 dL_law_422 rfl (Nat.le_of_ble_eq_true rfl) rfl (Nat.le_of_ble_eq_true rfl) ⟨by show _ ≤ 601024; omega, by show _ ≤ 7293034; omega⟩ (us_X12_thrown ?_)
  dsimp only [zaft]
  refine zr_iload (pc := 425) S dL_law_425 rfl ?_
  refine zr_icmp_eq (pc := 427) (tgt := 432) S dL_law_427 (by decide) (fun c427 => ?_) (fun c427 => absurd c427 (by omega))
  refine zr_iload (pc := 432) S dL_law_432 rfl ?_
  refine zr_if_ne (pc := 434) (tgt := 449) S dL_law_434 (by decide) (fun c434 => ?_) (fun c434 => ?_)
  · refine zr_goto (pc := 449) (tgt := 2987) S dL_law_449 (by decide) ?_
    exact zr_fg zfg8 (zr_wd ⟨by show _ ≤ b.1 + 10; omega, by show _ ≤ b.2 + 60; omega⟩ (hE _ hR))
  · have h9 := hf2 (by omega)
    refine zr_aload_n (pc := 437) S dL_law_437 rfl ?_
    refine zr_iconst (pc := 438) S dL_law_438 (by unfold zrI; omega) ?_
    refine zr_laload (pc := 439) S dL_law_439 rfl (Nat.le_of_ble_eq_true rfl) (by omega) (by omega) ?_
    dsimp only [Int.reduceToNat]
    refine zr_iload (pc := 440) S dL_law_440 rfl ?_
    refine zr_i2l (pc := 442) S dL_law_442 ?_
    refine zr_lcmp_eq (pc := 443) (tgt := 449) S dL_law_443 dL_law_444 (by decide) (fun c443 => ?_) (fun c443 => absurd c443 (by omega))
    refine zr_goto (pc := 449) (tgt := 2987) S dL_law_449 (by decide) ?_
    exact zr_fg zfg8 (zr_wd ⟨by show _ ≤ b.1 + 10; omega, by show _ ≤ b.2 + 60; omega⟩ (hE _ hR))
theorem kL_law_167 : ∀ (s9 : State) (a9 : Array Value), (∀ w ∈ wzLaw, w.before a9 s9 = true) → vx_CSW room_1 s9 a9 RL 167 yL_flow cL_flow 5 (some .int) [(0, 10, 13, 19), (0, 10, 17, 13)] wzL_flow rmL_flow 2 12 4 := zcSW (zWi_18 _ (List.mem_of_getElem? (i := 22) rfl)) (zWi_30 _ (List.mem_of_getElem? (i := 22) rfl)) (zWi_12 _ (List.mem_of_getElem? (i := 8) rfl)) (zWi_6 _ (List.mem_of_getElem? (i := 18) rfl)) (by decide +kernel) rfl rfl ⟨Nat.le_of_ble_eq_true rfl, Nat.le_of_ble_eq_true rfl⟩
theorem kL_law_169 : ∀ (s9 : State) (a9 : Array Value), (∀ w ∈ wzLaw, w.before a9 s9 = true) → CallW room_1 s9 a9 RL RX12 169 yX12_flow cX12_flow 3 (some .int) wzX12_flow rmX12_flow 0 0 2 := zcV (zWi_18 _ (List.mem_of_getElem? (i := 23) rfl)) (zWi_14 _ (List.mem_of_getElem? (i := 14) rfl)) (zWi_27 _ (List.mem_of_getElem? (i := 6) rfl)) (zWi_12 _ (List.mem_of_getElem? (i := 13) rfl)) (zWi_2 _ (List.mem_of_getElem? (i := 43) rfl)) (by decide +kernel) rfl rfl ⟨Nat.le_of_ble_eq_true rfl, Nat.le_of_ble_eq_true rfl⟩
set_option maxRecDepth 20000 in
set_option maxHeartbeats 4000000 in
theorem ca_flow {E : zE} {X : zX} {L : Nat} {xs : Nat → Int32} {M : zM} {b : Nat × Nat} {B p : Int} (S : zS (zg E) X cL_law 8 wzLaw RL (some .boolean)) (hs : zSc (zg E) X L xs) (hp0 : 0 ≤ p) (hp7 : p + 7 ≤ L) (hL : L ≤ 3584) (g : RR B M) (hB : B ≤ 12300) (hb : b.1 ≤ 100000 ∧ b.2 ≤ 1000000) (hE : ∀ M', RR (B + 24) M' → zK (zg E) room_1 8 (lawQ, 601024, 7293034) X (b.1 + 10, b.2 + 60) 2987 [some (zR 2000), some (zR 0), some (zR 180), some (zR 201), some (zI p), none, none, none] [] M') : zK (zg E) room_1 8 (lawQ, 601024, 7293034) X b 452 [some (zR 2000), some (zR 0), some (zR 180), some (zR 201), some (zI p), none, none, none] [] M := by
  refine zr_aload_n (pc := 452) S dL_law_452 rfl ?_
  refine zr_aload_n (pc := 453) S dL_law_453 rfl ?_
  refine zr_iload (pc := 454) S dL_law_454 rfl ?_
  refine zr_iconst (pc := 456) S dL_law_456 (by unfold zrI; omega) ?_
  refine zr_iadd (pc := 457) S dL_law_457 (by unfold zrI; omega) ?_
  refine zr_sld (pc := 458) S hs dL_law_458 (by omega) (by omega) ?_
  refine zr_aload_n (pc := 459) S dL_law_459 rfl ?_
  refine zr_iload (pc := 460) S dL_law_460 rfl ?_
  refine zr_iconst (pc := 462) S dL_law_462 (by unfold zrI; omega) ?_
  refine zr_iadd (pc := 463) S dL_law_463 (by unfold zrI; omega) ?_
  refine zr_sld (pc := 464) S hs dL_law_464 (by omega) (by omega) ?_
  refine zr_aload_n (pc := 465) S dL_law_465 rfl ?_
  refine zr_invSW (pc := 466) S [zR _, zI _, zI _, zR _] (m_L_flow _) kL_law_167 dL_law_466 (Nat.le_of_ble_eq_true rfl) ⟨by show _ ≤ 601024; omega, by show _ ≤ 7293034; omega⟩ (⟨_, _, rfl, ?_⟩)
  suffices hc : ∀ (k : Int) (N : zM), sp_X12_flow _ N (fin B k) → zaft (zg E) room_1 8 (lawQ, 601024, 7293034) X _ _ _ _ (some (zI k)) N from mo_X11_flow (fun v N h => hpm hc h) (fun _ _ _ h => hpm hc h) (step_flow g)
  intro k N hN
  dsimp only [zaft]
  refine zr_istore (pc := 469) S dL_law_469 (by decide) ?_
  dsimp only [zst1, zst2, zset, zget, zlong]
  refine zr_aload_n (pc := 471) S dL_law_471 rfl ?_
  refine zr_aload_n (pc := 472) S dL_law_472 rfl ?_
  refine zr_iload (pc := 473) S dL_law_473 rfl ?_
  refine zr_iconst (pc := 475) S dL_law_475 (by unfold zrI; omega) ?_
  refine zr_iadd (pc := 476) S dL_law_476 (by unfold zrI; omega) ?_
  refine zr_sld (pc := 477) S hs dL_law_477 (by omega) (by omega) ?_
  refine zr_aload_n (pc := 478) S dL_law_478 rfl ?_
  refine zr_iload (pc := 479) S dL_law_479 rfl ?_
  refine zr_iconst (pc := 481) S dL_law_481 (by unfold zrI; omega) ?_
  refine zr_iadd (pc := 482) S dL_law_482 (by unfold zrI; omega) ?_
  refine zr_sld (pc := 483) S hs dL_law_483 (by omega) (by omega) ?_
  refine zr_invV (pc := 484) S [zI _, zI _] (m_X12_flow _) kL_law_169 dL_law_484 rfl (Nat.le_of_ble_eq_true rfl) rfl (Nat.le_of_ble_eq_true rfl) ⟨by show _ ≤ 601024; omega, by show _ ≤ 7293034; omega⟩ (mo_X12_flow (fun v P hf => ?_) hN)
  dsimp only [zaft]
  obtain ⟨hf1, hf2, hR⟩ := hf
  refine zr_istore (pc := 487) S dL_law_487 (by decide) ?_
  dsimp only [zst1, zst2, zset, zget, zlong]
  refine zr_aload_n (pc := 489) S dL_law_489 rfl ?_
  refine zr_invV (pc := 490) S [] (m_X12_thrown _) kL_law_155 dL_law_490 rfl (Nat.le_of_ble_eq_true rfl) rfl (Nat.le_of_ble_eq_true rfl) ⟨by show _ ≤ 601024; omega, by show _ ≤ 7293034; omega⟩ (us_X12_thrown ?_)
  dsimp only [zaft]
  refine zr_iload (pc := 493) S dL_law_493 rfl ?_
  refine zr_icmp_eq (pc := 495) (tgt := 500) S dL_law_495 (by decide) (fun c495 => ?_) (fun c495 => absurd c495 (by omega))
  refine zr_iload (pc := 500) S dL_law_500 rfl ?_
  refine zr_if_ne (pc := 502) (tgt := 517) S dL_law_502 (by decide) (fun c502 => ?_) (fun c502 => ?_)
  · refine zr_goto (pc := 517) (tgt := 2987) S dL_law_517 (by decide) ?_
    exact zr_fg zfg8 (zr_wd ⟨by show _ ≤ b.1 + 10; omega, by show _ ≤ b.2 + 60; omega⟩ (hE _ hR))
  · have h9 := hf2 (by omega)
    refine zr_aload_n (pc := 505) S dL_law_505 rfl ?_
    refine zr_iconst (pc := 506) S dL_law_506 (by unfold zrI; omega) ?_
    refine zr_laload (pc := 507) S dL_law_507 rfl (Nat.le_of_ble_eq_true rfl) (by omega) (by omega) ?_
    dsimp only [Int.reduceToNat]
    refine zr_iload (pc := 508) S dL_law_508 rfl ?_
    refine zr_i2l (pc := 510) S dL_law_510 ?_
    refine zr_lcmp_eq (pc := 511) (tgt := 517) S dL_law_511 dL_law_512 (by decide) (fun c511 => ?_) (fun c511 => absurd c511 (by omega))
    refine zr_goto (pc := 517) (tgt := 2987) S dL_law_517 (by decide) ?_
    exact zr_fg zfg8 (zr_wd ⟨by show _ ≤ b.1 + 10; omega, by show _ ≤ b.2 + 60; omega⟩ (hE _ hR))
theorem kL_law_170 : ∀ (s9 : State) (a9 : Array Value), (∀ w ∈ wzLaw, w.before a9 s9 = true) → vx_CSW room_1 s9 a9 RL 170 yL_set cL_set 5 (some .int) [(0, 10, 13, 19), (0, 10, 17, 13)] wzL_set rmL_set 5 30 4 := zcSW (zWi_18 _ (List.mem_of_getElem? (i := 24) rfl)) (zWi_30 _ (List.mem_of_getElem? (i := 42) rfl)) (zWi_12 _ (List.mem_of_getElem? (i := 8) rfl)) (zWi_6 _ (List.mem_of_getElem? (i := 38) rfl)) (by decide +kernel) rfl rfl ⟨Nat.le_of_ble_eq_true rfl, Nat.le_of_ble_eq_true rfl⟩
theorem kL_law_172 : ∀ (s9 : State) (a9 : Array Value), (∀ w ∈ wzLaw, w.before a9 s9 = true) → CallW room_1 s9 a9 RL RX12 172 yX12_set cX12_set 5 (some .int) wzX12_set rmX12_set 0 0 2 := zcV (zWi_18 _ (List.mem_of_getElem? (i := 25) rfl)) (zWi_15 _ (List.mem_of_getElem? (i := 16) rfl)) (zWi_28 _ (List.mem_of_getElem? (i := 7) rfl)) (zWi_12 _ (List.mem_of_getElem? (i := 13) rfl)) (zWi_3 _ (List.mem_of_getElem? (i := 48) rfl)) (by decide +kernel) rfl rfl ⟨Nat.le_of_ble_eq_true rfl, Nat.le_of_ble_eq_true rfl⟩
set_option maxRecDepth 20000 in
set_option maxHeartbeats 4000000 in
theorem ca_set {E : zE} {X : zX} {L : Nat} {xs : Nat → Int32} {M : zM} {b : Nat × Nat} {B p : Int} (S : zS (zg E) X cL_law 8 wzLaw RL (some .boolean)) (hs : zSc (zg E) X L xs) (hp0 : 0 ≤ p) (hp7 : p + 7 ≤ L) (hL : L ≤ 3584) (g : RR B M) (hB : B ≤ 12300) (hb : b.1 ≤ 100000 ∧ b.2 ≤ 1000000) (hE : ∀ M', RR (B + 24) M' → zK (zg E) room_1 8 (lawQ, 601024, 7293034) X (b.1 + 10, b.2 + 60) 2987 [some (zR 2000), some (zR 0), some (zR 180), some (zR 201), some (zI p), none, none, none] [] M') : zK (zg E) room_1 8 (lawQ, 601024, 7293034) X b 520 [some (zR 2000), some (zR 0), some (zR 180), some (zR 201), some (zI p), none, none, none] [] M := by
  refine zr_aload_n (pc := 520) S dL_law_520 rfl ?_
  refine zr_aload_n (pc := 521) S dL_law_521 rfl ?_
  refine zr_iload (pc := 522) S dL_law_522 rfl ?_
  refine zr_iconst (pc := 524) S dL_law_524 (by unfold zrI; omega) ?_
  refine zr_iadd (pc := 525) S dL_law_525 (by unfold zrI; omega) ?_
  refine zr_sld (pc := 526) S hs dL_law_526 (by omega) (by omega) ?_
  refine zr_aload_n (pc := 527) S dL_law_527 rfl ?_
  refine zr_iload (pc := 528) S dL_law_528 rfl ?_
  refine zr_iconst (pc := 530) S dL_law_530 (by unfold zrI; omega) ?_
  refine zr_iadd (pc := 531) S dL_law_531 (by unfold zrI; omega) ?_
  refine zr_sld (pc := 532) S hs dL_law_532 (by omega) (by omega) ?_
  refine zr_aload_n (pc := 533) S dL_law_533 rfl ?_
  refine zr_invSW (pc := 534) S [zR _, zI _, zI _, zR _] (m_L_set _) kL_law_170 dL_law_534 (Nat.le_of_ble_eq_true rfl) ⟨by show _ ≤ 601024; omega, by show _ ≤ 7293034; omega⟩ (⟨_, _, rfl, ?_⟩)
  suffices hc : ∀ (k : Int) (N : zM), sp_X12_set _ N (fin B k) → zaft (zg E) room_1 8 (lawQ, 601024, 7293034) X _ _ _ _ (some (zI k)) N from mo_X11_set (fun v N h => hpm hc h) (fun _ _ _ h => hpm hc h) (step_set g)
  intro k N hN
  dsimp only [zaft]
  refine zr_istore (pc := 537) S dL_law_537 (by decide) ?_
  dsimp only [zst1, zst2, zset, zget, zlong]
  refine zr_aload_n (pc := 539) S dL_law_539 rfl ?_
  refine zr_aload_n (pc := 540) S dL_law_540 rfl ?_
  refine zr_iload (pc := 541) S dL_law_541 rfl ?_
  refine zr_iconst (pc := 543) S dL_law_543 (by unfold zrI; omega) ?_
  refine zr_iadd (pc := 544) S dL_law_544 (by unfold zrI; omega) ?_
  refine zr_sld (pc := 545) S hs dL_law_545 (by omega) (by omega) ?_
  refine zr_aload_n (pc := 546) S dL_law_546 rfl ?_
  refine zr_iload (pc := 547) S dL_law_547 rfl ?_
  refine zr_iconst (pc := 549) S dL_law_549 (by unfold zrI; omega) ?_
  refine zr_iadd (pc := 550) S dL_law_550 (by unfold zrI; omega) ?_
  refine zr_sld (pc := 551) S hs dL_law_551 (by omega) (by omega) ?_
  refine zr_invV (pc := 552) S [zI _, zI _] (m_X12_set _) kL_law_172 dL_law_552 rfl (Nat.le_of_ble_eq_true rfl) rfl (Nat.le_of_ble_eq_true rfl) ⟨by show _ ≤ 601024; omega, by show _ ≤ 7293034; omega⟩ (mo_X12_set (fun v P hf => ?_) hN)
  dsimp only [zaft]
  obtain ⟨hf1, hf2, hR⟩ := hf
  refine zr_istore (pc := 555) S dL_law_555 (by decide) ?_
  dsimp only [zst1, zst2, zset, zget, zlong]
  refine zr_aload_n (pc := 557) S dL_law_557 rfl ?_
  refine zr_invV (pc := 558) S [] (m_X12_thrown _) kL_law_155 dL_law_558 rfl (Nat.le_of_ble_eq_true rfl) rfl (Nat.le_of_ble_eq_true rfl) ⟨by show _ ≤ 601024; omega, by show _ ≤ 7293034; omega⟩ (us_X12_thrown ?_)
  dsimp only [zaft]
  refine zr_iload (pc := 561) S dL_law_561 rfl ?_
  refine zr_icmp_eq (pc := 563) (tgt := 568) S dL_law_563 (by decide) (fun c563 => ?_) (fun c563 => absurd c563 (by omega))
  refine zr_iload (pc := 568) S dL_law_568 rfl ?_
  refine zr_if_ne (pc := 570) (tgt := 585) S dL_law_570 (by decide) (fun c570 => ?_) (fun c570 => ?_)
  · refine zr_goto (pc := 585) (tgt := 2987) S dL_law_585 (by decide) ?_
    exact zr_fg zfg8 (zr_wd ⟨by show _ ≤ b.1 + 10; omega, by show _ ≤ b.2 + 60; omega⟩ (hE _ hR))
  · have h9 := hf2 (by omega)
    refine zr_aload_n (pc := 573) S dL_law_573 rfl ?_
    refine zr_iconst (pc := 574) S dL_law_574 (by unfold zrI; omega) ?_
    refine zr_laload (pc := 575) S dL_law_575 rfl (Nat.le_of_ble_eq_true rfl) (by omega) (by omega) ?_
    dsimp only [Int.reduceToNat]
    refine zr_iload (pc := 576) S dL_law_576 rfl ?_
    refine zr_i2l (pc := 578) S dL_law_578 ?_
    refine zr_lcmp_eq (pc := 579) (tgt := 585) S dL_law_579 dL_law_580 (by decide) (fun c579 => ?_) (fun c579 => absurd c579 (by omega))
    refine zr_goto (pc := 585) (tgt := 2987) S dL_law_585 (by decide) ?_
    exact zr_fg zfg8 (zr_wd ⟨by show _ ≤ b.1 + 10; omega, by show _ ≤ b.2 + 60; omega⟩ (hE _ hR))
theorem kL_law_173 : ∀ (s9 : State) (a9 : Array Value), (∀ w ∈ wzLaw, w.before a9 s9 = true) → vx_CSW room_1 s9 a9 RL 173 yL_good cL_good 4 (some .int) [(0, 16, 19, 19)] wzL_good rmL_good 1 6 3 := zcSW (zWi_18 _ (List.mem_of_getElem? (i := 26) rfl)) (zWi_30 _ (List.mem_of_getElem? (i := 24) rfl)) (zWi_12 _ (List.mem_of_getElem? (i := 8) rfl)) (zWi_6 _ (List.mem_of_getElem? (i := 20) rfl)) (by decide +kernel) rfl rfl ⟨Nat.le_of_ble_eq_true rfl, Nat.le_of_ble_eq_true rfl⟩
theorem kL_law_176 : ∀ (s9 : State) (a9 : Array Value), (∀ w ∈ wzLaw, w.before a9 s9 = true) → CallW room_1 s9 a9 RL RX12 176 yX12_good cX12_good 2 (some .boolean) wzX12_good rmX12_good 0 0 1 := zcV (zWi_18 _ (List.mem_of_getElem? (i := 27) rfl)) (zWi_14 _ (List.mem_of_getElem? (i := 19) rfl)) (zWi_27 _ (List.mem_of_getElem? (i := 11) rfl)) (zWi_12 _ (List.mem_of_getElem? (i := 13) rfl)) (zWi_2 _ (List.mem_of_getElem? (i := 48) rfl)) (by decide +kernel) rfl rfl ⟨Nat.le_of_ble_eq_true rfl, Nat.le_of_ble_eq_true rfl⟩
set_option maxRecDepth 20000 in
set_option maxHeartbeats 4000000 in
theorem ca_good {E : zE} {X : zX} {L : Nat} {xs : Nat → Int32} {M : zM} {b : Nat × Nat} {B p : Int} (S : zS (zg E) X cL_law 8 wzLaw RL (some .boolean)) (hs : zSc (zg E) X L xs) (hp0 : 0 ≤ p) (hp7 : p + 7 ≤ L) (hL : L ≤ 3584) (g : RR B M) (hB : B ≤ 12300) (hb : b.1 ≤ 100000 ∧ b.2 ≤ 1000000) (hE : ∀ M', RR (B + 24) M' → zK (zg E) room_1 8 (lawQ, 601024, 7293034) X (b.1 + 10, b.2 + 60) 2987 [some (zR 2000), some (zR 0), some (zR 180), some (zR 201), some (zI p), none, none, none] [] M') : zK (zg E) room_1 8 (lawQ, 601024, 7293034) X b 588 [some (zR 2000), some (zR 0), some (zR 180), some (zR 201), some (zI p), none, none, none] [] M := by
  refine zr_aload_n (pc := 588) S dL_law_588 rfl ?_
  refine zr_aload_n (pc := 589) S dL_law_589 rfl ?_
  refine zr_iload (pc := 590) S dL_law_590 rfl ?_
  refine zr_iconst (pc := 592) S dL_law_592 (by unfold zrI; omega) ?_
  refine zr_iadd (pc := 593) S dL_law_593 (by unfold zrI; omega) ?_
  refine zr_sld (pc := 594) S hs dL_law_594 (by omega) (by omega) ?_
  refine zr_aload_n (pc := 595) S dL_law_595 rfl ?_
  refine zr_invSW (pc := 596) S [zR _, zI _, zR _] (m_L_good _) kL_law_173 dL_law_596 (Nat.le_of_ble_eq_true rfl) ⟨by show _ ≤ 601024; omega, by show _ ≤ 7293034; omega⟩ (⟨_, rfl, ?_⟩)
  suffices hc : ∀ (k : Int) (N : zM), sp_X12_good _ N (fin B k) → zaft (zg E) room_1 8 (lawQ, 601024, 7293034) X _ _ _ _ (some (zI k)) N from mo_X11_good (fun v N _ h => hpm hc h) (fun _ _ _ h => hpm hc h) (step_good g)
  intro k N hN
  dsimp only [zaft]
  refine zr_istore (pc := 599) S dL_law_599 (by decide) ?_
  dsimp only [zst1, zst2, zset, zget, zlong]
  refine zr_aload_n (pc := 601) S dL_law_601 rfl ?_
  refine zr_aload_n (pc := 602) S dL_law_602 rfl ?_
  refine zr_iload (pc := 603) S dL_law_603 rfl ?_
  refine zr_iconst (pc := 605) S dL_law_605 (by unfold zrI; omega) ?_
  refine zr_iadd (pc := 606) S dL_law_606 (by unfold zrI; omega) ?_
  refine zr_sld (pc := 607) S hs dL_law_607 (by omega) (by omega) ?_
  refine zr_invV (pc := 608) S [zI _] (m_X12_good _) kL_law_176 dL_law_608 rfl (Nat.le_of_ble_eq_true rfl) rfl (Nat.le_of_ble_eq_true rfl) ⟨by show _ ≤ 601024; omega, by show _ ≤ 7293034; omega⟩ (mo_X12_good (fun v P h01 hf => ?_) hN)
  dsimp only [zaft]
  obtain ⟨hf1, hf2, hR⟩ := hf
  refine zr_istore (pc := 611) S dL_law_611 (by decide) ?_
  dsimp only [zst1, zst2, zset, zget, zlong]
  refine zr_aload_n (pc := 613) S dL_law_613 rfl ?_
  refine zr_invV (pc := 614) S [] (m_X12_thrown _) kL_law_155 dL_law_614 rfl (Nat.le_of_ble_eq_true rfl) rfl (Nat.le_of_ble_eq_true rfl) ⟨by show _ ≤ 601024; omega, by show _ ≤ 7293034; omega⟩ (us_X12_thrown ?_)
  dsimp only [zaft]
  refine zr_iload (pc := 617) S dL_law_617 rfl ?_
  refine zr_icmp_eq (pc := 619) (tgt := 624) S dL_law_619 (by decide) (fun c619 => ?_) (fun c619 => absurd c619 (by omega))
  refine zr_iload (pc := 624) S dL_law_624 rfl ?_
  refine zr_if_ne (pc := 626) (tgt := 648) S dL_law_626 (by decide) (fun c626 => ?_) (fun c626 => ?_)
  · refine zr_goto (pc := 648) (tgt := 2987) S dL_law_648 (by decide) ?_
    exact zr_fg zfg8 (zr_wd ⟨by show _ ≤ b.1 + 10; omega, by show _ ≤ b.2 + 60; omega⟩ (hE _ hR))
  · have h9 := hf2 (by omega)
    refine zr_aload_n (pc := 629) S dL_law_629 rfl ?_
    refine zr_iconst (pc := 630) S dL_law_630 (by unfold zrI; omega) ?_
    refine zr_laload (pc := 631) S dL_law_631 rfl (Nat.le_of_ble_eq_true rfl) (by omega) (by omega) ?_
    dsimp only [Int.reduceToNat]
    refine zr_iload (pc := 632) S dL_law_632 rfl ?_
    refine zr_if_eq (pc := 634) (tgt := 641) S dL_law_634 (by decide) (fun c634 => ?_) (fun c634 => ?_)
    · refine zr_lconst0 (pc := 641) S dL_law_641 ?_
      refine zr_lcmp_eq (pc := 642) (tgt := 648) S dL_law_642 dL_law_643 (by decide) (fun c642 => ?_) (fun c642 => absurd c642 (by omega))
      refine zr_goto (pc := 648) (tgt := 2987) S dL_law_648 (by decide) ?_
      exact zr_fg zfg8 (zr_wd ⟨by show _ ≤ b.1 + 10; omega, by show _ ≤ b.2 + 60; omega⟩ (hE _ hR))
    · refine zr_lconst1 (pc := 637) S dL_law_637 ?_
      refine zr_goto (pc := 638) (tgt := 642) S dL_law_638 (by decide) ?_
      refine zr_lcmp_eq (pc := 642) (tgt := 648) S dL_law_642 dL_law_643 (by decide) (fun c642 => ?_) (fun c642 => absurd c642 (by omega))
      refine zr_goto (pc := 648) (tgt := 2987) S dL_law_648 (by decide) ?_
      exact zr_fg zfg8 (zr_wd ⟨by show _ ≤ b.1 + 10; omega, by show _ ≤ b.2 + 60; omega⟩ (hE _ hR))
theorem kL_law_177 : ∀ (s9 : State) (a9 : Array Value), (∀ w ∈ wzLaw, w.before a9 s9 = true) → CallW room_1 s9 a9 RL RX11 177 yX11_feed cX11_feed 6 (some .int) wzX11_feed rmX11_feed 0 0 5 := zcV (zWi_18 _ (List.mem_of_getElem? (i := 28) rfl)) (zWi_13 _ (List.mem_of_getElem? (i := 1) rfl)) (zWi_25 _ (List.mem_of_getElem? (i := 44) rfl)) (zWi_12 _ (List.mem_of_getElem? (i := 12) rfl)) (zWi_1 _ (List.mem_of_getElem? (i := 26) rfl)) (by decide +kernel) rfl rfl ⟨Nat.le_of_ble_eq_true rfl, Nat.le_of_ble_eq_true rfl⟩
theorem kL_law_180 : ∀ (s9 : State) (a9 : Array Value), (∀ w ∈ wzLaw, w.before a9 s9 = true) → CallW room_1 s9 a9 RL RX12 180 yX12_feed cX12_feed 8 (some .int) wzX12_feed rmX12_feed 0 0 5 := zcV (zWi_18 _ (List.mem_of_getElem? (i := 29) rfl)) (zWi_14 _ (List.mem_of_getElem? (i := 12) rfl)) (zWi_27 _ (List.mem_of_getElem? (i := 4) rfl)) (zWi_12 _ (List.mem_of_getElem? (i := 13) rfl)) (zWi_2 _ (List.mem_of_getElem? (i := 41) rfl)) (by decide +kernel) rfl rfl ⟨Nat.le_of_ble_eq_true rfl, Nat.le_of_ble_eq_true rfl⟩
set_option maxRecDepth 20000 in
set_option maxHeartbeats 4000000 in
theorem ca_feed {E : zE} {X : zX} {L : Nat} {xs : Nat → Int32} {M : zM} {b : Nat × Nat} {B p : Int} (S : zS (zg E) X cL_law 8 wzLaw RL (some .boolean)) (hs : zSc (zg E) X L xs) (hp0 : 0 ≤ p) (hp7 : p + 7 ≤ L) (hL : L ≤ 3584) (g : RR B M) (hB : B ≤ 12300) (hb : b.1 ≤ 100000 ∧ b.2 ≤ 1000000) (hE : ∀ M', RR (B + 24) M' → zK (zg E) room_1 8 (lawQ, 601024, 7293034) X (b.1 + 10, b.2 + 60) 2987 [some (zR 2000), some (zR 0), some (zR 180), some (zR 201), some (zI p), none, none, none] [] M') : zK (zg E) room_1 8 (lawQ, 601024, 7293034) X b 651 [some (zR 2000), some (zR 0), some (zR 180), some (zR 201), some (zI p), none, none, none] [] M := by
  refine zr_aload_n (pc := 651) S dL_law_651 rfl ?_
  refine zr_aload_n (pc := 652) S dL_law_652 rfl ?_
  refine zr_iload (pc := 653) S dL_law_653 rfl ?_
  refine zr_iconst (pc := 655) S dL_law_655 (by unfold zrI; omega) ?_
  refine zr_iadd (pc := 656) S dL_law_656 (by unfold zrI; omega) ?_
  refine zr_sld (pc := 657) S hs dL_law_657 (by omega) (by omega) ?_
  refine zr_aload_n (pc := 658) S dL_law_658 rfl ?_
  refine zr_iload (pc := 659) S dL_law_659 rfl ?_
  refine zr_iconst (pc := 661) S dL_law_661 (by unfold zrI; omega) ?_
  refine zr_iadd (pc := 662) S dL_law_662 (by unfold zrI; omega) ?_
  refine zr_sld (pc := 663) S hs dL_law_663 (by omega) (by omega) ?_
  refine zr_aload_n (pc := 664) S dL_law_664 rfl ?_
  refine zr_iload (pc := 665) S dL_law_665 rfl ?_
  refine zr_iconst (pc := 667) S dL_law_667 (by unfold zrI; omega) ?_
  refine zr_iadd (pc := 668) S dL_law_668 (by unfold zrI; omega) ?_
  refine zr_sld (pc := 669) S hs dL_law_669 (by omega) (by omega) ?_
  refine zr_aload_n (pc := 670) S dL_law_670 rfl ?_
  refine zr_iload (pc := 671) S dL_law_671 rfl ?_
  refine zr_iconst (pc := 673) S dL_law_673 (by unfold zrI; omega) ?_
  refine zr_iadd (pc := 674) S dL_law_674 (by unfold zrI; omega) ?_
  refine zr_sld (pc := 675) S hs dL_law_675 (by omega) (by omega) ?_
  refine zr_aload_n (pc := 676) S dL_law_676 rfl ?_
  refine zr_iload (pc := 677) S dL_law_677 rfl ?_
  refine zr_iconst (pc := 679) S dL_law_679 (by unfold zrI; omega) ?_
  refine zr_iadd (pc := 680) S dL_law_680 (by unfold zrI; omega) ?_
  refine zr_sld (pc := 681) S hs dL_law_681 (by omega) (by omega) ?_
  refine zr_invV (pc := 682) S [zI _, zI _, zI _, zI _, zI _] (m_X11_feed _) kL_law_177 dL_law_682 rfl (Nat.le_of_ble_eq_true rfl) rfl (Nat.le_of_ble_eq_true rfl) ⟨by show _ ≤ 601024; omega, by show _ ≤ 7293034; omega⟩ (mo_X11_feed (fun v N hN => ?_) (step_feed g))
  dsimp only [zaft]
  refine zr_aload_n (pc := 685) S dL_law_685 rfl ?_
  refine zr_aload_n (pc := 686) S dL_law_686 rfl ?_
  refine zr_iload (pc := 687) S dL_law_687 rfl ?_
  refine zr_iconst (pc := 689) S dL_law_689 (by unfold zrI; omega) ?_
  refine zr_iadd (pc := 690) S dL_law_690 (by unfold zrI; omega) ?_
  refine zr_sld (pc := 691) S hs dL_law_691 (by omega) (by omega) ?_
  refine zr_aload_n (pc := 692) S dL_law_692 rfl ?_
  refine zr_iload (pc := 693) S dL_law_693 rfl ?_
  refine zr_iconst (pc := 695) S dL_law_695 (by unfold zrI; omega) ?_
  refine zr_iadd (pc := 696) S dL_law_696 (by unfold zrI; omega) ?_
  refine zr_sld (pc := 697) S hs dL_law_697 (by omega) (by omega) ?_
  refine zr_aload_n (pc := 698) S dL_law_698 rfl ?_
  refine zr_iload (pc := 699) S dL_law_699 rfl ?_
  refine zr_iconst (pc := 701) S dL_law_701 (by unfold zrI; omega) ?_
  refine zr_iadd (pc := 702) S dL_law_702 (by unfold zrI; omega) ?_
  refine zr_sld (pc := 703) S hs dL_law_703 (by omega) (by omega) ?_
  refine zr_aload_n (pc := 704) S dL_law_704 rfl ?_
  refine zr_iload (pc := 705) S dL_law_705 rfl ?_
  refine zr_iconst (pc := 707) S dL_law_707 (by unfold zrI; omega) ?_
  refine zr_iadd (pc := 708) S dL_law_708 (by unfold zrI; omega) ?_
  refine zr_sld (pc := 709) S hs dL_law_709 (by omega) (by omega) ?_
  refine zr_aload_n (pc := 710) S dL_law_710 rfl ?_
  refine zr_iload (pc := 711) S dL_law_711 rfl ?_
  refine zr_iconst (pc := 713) S dL_law_713 (by unfold zrI; omega) ?_
  refine zr_iadd (pc := 714) S dL_law_714 (by unfold zrI; omega) ?_
  refine zr_sld (pc := 715) S hs dL_law_715 (by omega) (by omega) ?_
  refine zr_invV (pc := 716) S [zI _, zI _, zI _, zI _, zI _] (m_X12_feed _) kL_law_180 dL_law_716 rfl (Nat.le_of_ble_eq_true rfl) rfl (Nat.le_of_ble_eq_true rfl) ⟨by show _ ≤ 601024; omega, by show _ ≤ 7293034; omega⟩ (mo_X12_feed (fun w P hf => ?_) hN)
  dsimp only [zaft]
  obtain ⟨⟨u9, e1, e2⟩, hR⟩ := hf
  cases e1
  cases e2
  refine zr_icmp_eq (pc := 719) (tgt := 2987) S dL_law_719 (by decide) (fun c719 => ?_) (fun c719 => absurd c719 (by omega))
  exact zr_fg zfg8 (zr_wd ⟨by show _ ≤ b.1 + 10; omega, by show _ ≤ b.2 + 60; omega⟩ (hE _ hR))
theorem kL_law_181 : ∀ (s9 : State) (a9 : Array Value), (∀ w ∈ wzLaw, w.before a9 s9 = true) → vx_CSW room_1 s9 a9 RL 181 yL_text cL_text 4 (some .int) [(0, 9, 12, 13)] wzL_text rmL_text 1 6 3 := zcSW (zWi_18 _ (List.mem_of_getElem? (i := 30) rfl)) (zWi_30 _ (List.mem_of_getElem? (i := 46) rfl)) (zWi_12 _ (List.mem_of_getElem? (i := 8) rfl)) (zWi_6 _ (List.mem_of_getElem? (i := 42) rfl)) (by decide +kernel) rfl rfl ⟨Nat.le_of_ble_eq_true rfl, Nat.le_of_ble_eq_true rfl⟩
theorem kL_law_183 : ∀ (s9 : State) (a9 : Array Value), (∀ w ∈ wzLaw, w.before a9 s9 = true) → CallW room_1 s9 a9 RL RX12 183 yX12_text cX12_text 4 (some .int) wzX12_text rmX12_text 0 0 1 := zcV (zWi_18 _ (List.mem_of_getElem? (i := 31) rfl)) (zWi_15 _ (List.mem_of_getElem? (i := 25) rfl)) (zWi_28 _ (List.mem_of_getElem? (i := 16) rfl)) (zWi_12 _ (List.mem_of_getElem? (i := 13) rfl)) (zWi_4 _ (List.mem_of_getElem? (i := 7) rfl)) (by decide +kernel) rfl rfl ⟨Nat.le_of_ble_eq_true rfl, Nat.le_of_ble_eq_true rfl⟩
set_option maxRecDepth 20000 in
set_option maxHeartbeats 4000000 in
theorem ca_text {E : zE} {X : zX} {L : Nat} {xs : Nat → Int32} {M : zM} {b : Nat × Nat} {B p : Int} (S : zS (zg E) X cL_law 8 wzLaw RL (some .boolean)) (hs : zSc (zg E) X L xs) (hp0 : 0 ≤ p) (hp7 : p + 7 ≤ L) (hL : L ≤ 3584) (g : RR B M) (hB : B ≤ 12300) (hb : b.1 ≤ 100000 ∧ b.2 ≤ 1000000) (hE : ∀ M', RR (B + 24) M' → zK (zg E) room_1 8 (lawQ, 601024, 7293034) X (b.1 + 10, b.2 + 60) 2987 [some (zR 2000), some (zR 0), some (zR 180), some (zR 201), some (zI p), none, none, none] [] M') : zK (zg E) room_1 8 (lawQ, 601024, 7293034) X b 724 [some (zR 2000), some (zR 0), some (zR 180), some (zR 201), some (zI p), none, none, none] [] M := by
  refine zr_aload_n (pc := 724) S dL_law_724 rfl ?_
  refine zr_aload_n (pc := 725) S dL_law_725 rfl ?_
  refine zr_iload (pc := 726) S dL_law_726 rfl ?_
  refine zr_iconst (pc := 728) S dL_law_728 (by unfold zrI; omega) ?_
  refine zr_iadd (pc := 729) S dL_law_729 (by unfold zrI; omega) ?_
  refine zr_sld (pc := 730) S hs dL_law_730 (by omega) (by omega) ?_
  refine zr_aload_n (pc := 731) S dL_law_731 rfl ?_
  refine zr_invSW (pc := 732) S [zR _, zI _, zR _] (m_L_text _) kL_law_181 dL_law_732 (Nat.le_of_ble_eq_true rfl) ⟨by show _ ≤ 601024; omega, by show _ ≤ 7293034; omega⟩ (⟨_, rfl, ?_⟩)
  suffices hc : ∀ (k : Int) (N : zM), sp_X12_text _ N (fin B k) → zaft (zg E) room_1 8 (lawQ, 601024, 7293034) X _ _ _ _ (some (zI k)) N from mo_X11_text (fun v N h => hpm hc h) (fun _ _ _ h => hpm hc h) (step_text g)
  intro k N hN
  dsimp only [zaft]
  refine zr_istore (pc := 735) S dL_law_735 (by decide) ?_
  dsimp only [zst1, zst2, zset, zget, zlong]
  refine zr_aload_n (pc := 737) S dL_law_737 rfl ?_
  refine zr_aload_n (pc := 738) S dL_law_738 rfl ?_
  refine zr_iload (pc := 739) S dL_law_739 rfl ?_
  refine zr_iconst (pc := 741) S dL_law_741 (by unfold zrI; omega) ?_
  refine zr_iadd (pc := 742) S dL_law_742 (by unfold zrI; omega) ?_
  refine zr_sld (pc := 743) S hs dL_law_743 (by omega) (by omega) ?_
  refine zr_invV (pc := 744) S [zI _] (m_X12_text _) kL_law_183 dL_law_744 rfl (Nat.le_of_ble_eq_true rfl) rfl (Nat.le_of_ble_eq_true rfl) ⟨by show _ ≤ 601024; omega, by show _ ≤ 7293034; omega⟩ (mo_X12_text (fun v P hf => ?_) hN)
  dsimp only [zaft]
  obtain ⟨hf1, hf2, hR⟩ := hf
  refine zr_istore (pc := 747) S dL_law_747 (by decide) ?_
  dsimp only [zst1, zst2, zset, zget, zlong]
  refine zr_aload_n (pc := 749) S dL_law_749 rfl ?_
  refine zr_invV (pc := 750) S [] (m_X12_thrown _) kL_law_155 dL_law_750 rfl (Nat.le_of_ble_eq_true rfl) rfl (Nat.le_of_ble_eq_true rfl) ⟨by show _ ≤ 601024; omega, by show _ ≤ 7293034; omega⟩ (us_X12_thrown ?_)
  dsimp only [zaft]
  refine zr_iload (pc := 753) S dL_law_753 rfl ?_
  refine zr_icmp_eq (pc := 755) (tgt := 760) S dL_law_755 (by decide) (fun c755 => ?_) (fun c755 => absurd c755 (by omega))
  refine zr_iload (pc := 760) S dL_law_760 rfl ?_
  refine zr_if_ne (pc := 762) (tgt := 777) S dL_law_762 (by decide) (fun c762 => ?_) (fun c762 => ?_)
  · refine zr_goto (pc := 777) (tgt := 2987) S dL_law_777 (by decide) ?_
    exact zr_fg zfg8 (zr_wd ⟨by show _ ≤ b.1 + 10; omega, by show _ ≤ b.2 + 60; omega⟩ (hE _ hR))
  · have h9 := hf2 (by omega)
    refine zr_aload_n (pc := 765) S dL_law_765 rfl ?_
    refine zr_iconst (pc := 766) S dL_law_766 (by unfold zrI; omega) ?_
    refine zr_laload (pc := 767) S dL_law_767 rfl (Nat.le_of_ble_eq_true rfl) (by omega) (by omega) ?_
    dsimp only [Int.reduceToNat]
    refine zr_iload (pc := 768) S dL_law_768 rfl ?_
    refine zr_i2l (pc := 770) S dL_law_770 ?_
    refine zr_lcmp_eq (pc := 771) (tgt := 777) S dL_law_771 dL_law_772 (by decide) (fun c771 => ?_) (fun c771 => absurd c771 (by omega))
    refine zr_goto (pc := 777) (tgt := 2987) S dL_law_777 (by decide) ?_
    exact zr_fg zfg8 (zr_wd ⟨by show _ ≤ b.1 + 10; omega, by show _ ≤ b.2 + 60; omega⟩ (hE _ hR))
theorem kL_law_184 : ∀ (s9 : State) (a9 : Array Value), (∀ w ∈ wzLaw, w.before a9 s9 = true) → CallW room_1 s9 a9 RL RX11 184 yX11_fault cX11_fault 2 (some .int) wzX11_fault rmX11_fault 0 0 1 := zcV (zWi_18 _ (List.mem_of_getElem? (i := 32) rfl)) (zWi_13 _ (List.mem_of_getElem? (i := 0) rfl)) (zWi_25 _ (List.mem_of_getElem? (i := 43) rfl)) (zWi_12 _ (List.mem_of_getElem? (i := 12) rfl)) (zWi_1 _ (List.mem_of_getElem? (i := 25) rfl)) (by decide +kernel) rfl rfl ⟨Nat.le_of_ble_eq_true rfl, Nat.le_of_ble_eq_true rfl⟩
theorem kL_law_187 : ∀ (s9 : State) (a9 : Array Value), (∀ w ∈ wzLaw, w.before a9 s9 = true) → CallW room_1 s9 a9 RL RX12 187 yX12_fault cX12_fault 2 (some .int) wzX12_fault rmX12_fault 0 0 1 := zcV (zWi_18 _ (List.mem_of_getElem? (i := 33) rfl)) (zWi_14 _ (List.mem_of_getElem? (i := 11) rfl)) (zWi_27 _ (List.mem_of_getElem? (i := 3) rfl)) (zWi_12 _ (List.mem_of_getElem? (i := 13) rfl)) (zWi_2 _ (List.mem_of_getElem? (i := 40) rfl)) (by decide +kernel) rfl rfl ⟨Nat.le_of_ble_eq_true rfl, Nat.le_of_ble_eq_true rfl⟩
set_option maxRecDepth 20000 in
set_option maxHeartbeats 4000000 in
theorem ca_fault {E : zE} {X : zX} {L : Nat} {xs : Nat → Int32} {M : zM} {b : Nat × Nat} {B p : Int} (S : zS (zg E) X cL_law 8 wzLaw RL (some .boolean)) (hs : zSc (zg E) X L xs) (hp0 : 0 ≤ p) (hp7 : p + 7 ≤ L) (hL : L ≤ 3584) (g : RR B M) (hB : B ≤ 12300) (hb : b.1 ≤ 100000 ∧ b.2 ≤ 1000000) (hE : ∀ M', RR (B + 24) M' → zK (zg E) room_1 8 (lawQ, 601024, 7293034) X (b.1 + 10, b.2 + 60) 2987 [some (zR 2000), some (zR 0), some (zR 180), some (zR 201), some (zI p), none, none, none] [] M') : zK (zg E) room_1 8 (lawQ, 601024, 7293034) X b 780 [some (zR 2000), some (zR 0), some (zR 180), some (zR 201), some (zI p), none, none, none] [] M := by
  refine zr_aload_n (pc := 780) S dL_law_780 rfl ?_
  refine zr_aload_n (pc := 781) S dL_law_781 rfl ?_
  refine zr_iload (pc := 782) S dL_law_782 rfl ?_
  refine zr_iconst (pc := 784) S dL_law_784 (by unfold zrI; omega) ?_
  refine zr_iadd (pc := 785) S dL_law_785 (by unfold zrI; omega) ?_
  refine zr_sld (pc := 786) S hs dL_law_786 (by omega) (by omega) ?_
  refine zr_invV (pc := 787) S [zI _] (m_X11_fault _) kL_law_184 dL_law_787 rfl (Nat.le_of_ble_eq_true rfl) rfl (Nat.le_of_ble_eq_true rfl) ⟨by show _ ≤ 601024; omega, by show _ ≤ 7293034; omega⟩ (mo_X11_fault (fun v N hN => ?_) (step_fault g))
  dsimp only [zaft]
  refine zr_aload_n (pc := 790) S dL_law_790 rfl ?_
  refine zr_aload_n (pc := 791) S dL_law_791 rfl ?_
  refine zr_iload (pc := 792) S dL_law_792 rfl ?_
  refine zr_iconst (pc := 794) S dL_law_794 (by unfold zrI; omega) ?_
  refine zr_iadd (pc := 795) S dL_law_795 (by unfold zrI; omega) ?_
  refine zr_sld (pc := 796) S hs dL_law_796 (by omega) (by omega) ?_
  refine zr_invV (pc := 797) S [zI _] (m_X12_fault _) kL_law_187 dL_law_797 rfl (Nat.le_of_ble_eq_true rfl) rfl (Nat.le_of_ble_eq_true rfl) ⟨by show _ ≤ 601024; omega, by show _ ≤ 7293034; omega⟩ (mo_X12_fault (fun w P hf => ?_) hN)
  dsimp only [zaft]
  obtain ⟨⟨u9, e1, e2⟩, hR⟩ := hf
  cases e1
  cases e2
  refine zr_icmp_eq (pc := 800) (tgt := 2987) S dL_law_800 (by decide) (fun c800 => ?_) (fun c800 => absurd c800 (by omega))
  exact zr_fg zfg8 (zr_wd ⟨by show _ ≤ b.1 + 10; omega, by show _ ≤ b.2 + 60; omega⟩ (hE _ hR))
theorem kL_law_188 : ∀ (s9 : State) (a9 : Array Value), (∀ w ∈ wzLaw, w.before a9 s9 = true) → vx_CSW room_1 s9 a9 RL 188 yL_gate cL_gate 5 (some .int) [(0, 10, 13, 19), (0, 10, 17, 13)] wzL_gate rmL_gate 2 12 4 := zcSW (zWi_18 _ (List.mem_of_getElem? (i := 34) rfl)) (zWi_30 _ (List.mem_of_getElem? (i := 23) rfl)) (zWi_12 _ (List.mem_of_getElem? (i := 8) rfl)) (zWi_6 _ (List.mem_of_getElem? (i := 19) rfl)) (by decide +kernel) rfl rfl ⟨Nat.le_of_ble_eq_true rfl, Nat.le_of_ble_eq_true rfl⟩
theorem kL_law_190 : ∀ (s9 : State) (a9 : Array Value), (∀ w ∈ wzLaw, w.before a9 s9 = true) → CallW room_1 s9 a9 RL RX12 190 yX12_gate cX12_gate 3 (some .int) wzX12_gate rmX12_gate 0 0 2 := zcV (zWi_18 _ (List.mem_of_getElem? (i := 35) rfl)) (zWi_14 _ (List.mem_of_getElem? (i := 15) rfl)) (zWi_27 _ (List.mem_of_getElem? (i := 7) rfl)) (zWi_12 _ (List.mem_of_getElem? (i := 13) rfl)) (zWi_2 _ (List.mem_of_getElem? (i := 44) rfl)) (by decide +kernel) rfl rfl ⟨Nat.le_of_ble_eq_true rfl, Nat.le_of_ble_eq_true rfl⟩
set_option maxRecDepth 20000 in
set_option maxHeartbeats 4000000 in
theorem ca_gate {E : zE} {X : zX} {L : Nat} {xs : Nat → Int32} {M : zM} {b : Nat × Nat} {B p : Int} (S : zS (zg E) X cL_law 8 wzLaw RL (some .boolean)) (hs : zSc (zg E) X L xs) (hp0 : 0 ≤ p) (hp7 : p + 7 ≤ L) (hL : L ≤ 3584) (g : RR B M) (hB : B ≤ 12300) (hb : b.1 ≤ 100000 ∧ b.2 ≤ 1000000) (hE : ∀ M', RR (B + 24) M' → zK (zg E) room_1 8 (lawQ, 601024, 7293034) X (b.1 + 10, b.2 + 60) 2987 [some (zR 2000), some (zR 0), some (zR 180), some (zR 201), some (zI p), none, none, none] [] M') : zK (zg E) room_1 8 (lawQ, 601024, 7293034) X b 805 [some (zR 2000), some (zR 0), some (zR 180), some (zR 201), some (zI p), none, none, none] [] M := by
  refine zr_aload_n (pc := 805) S dL_law_805 rfl ?_
  refine zr_aload_n (pc := 806) S dL_law_806 rfl ?_
  refine zr_iload (pc := 807) S dL_law_807 rfl ?_
  refine zr_iconst (pc := 809) S dL_law_809 (by unfold zrI; omega) ?_
  refine zr_iadd (pc := 810) S dL_law_810 (by unfold zrI; omega) ?_
  refine zr_sld (pc := 811) S hs dL_law_811 (by omega) (by omega) ?_
  refine zr_aload_n (pc := 812) S dL_law_812 rfl ?_
  refine zr_iload (pc := 813) S dL_law_813 rfl ?_
  refine zr_iconst (pc := 815) S dL_law_815 (by unfold zrI; omega) ?_
  refine zr_iadd (pc := 816) S dL_law_816 (by unfold zrI; omega) ?_
  refine zr_sld (pc := 817) S hs dL_law_817 (by omega) (by omega) ?_
  refine zr_aload_n (pc := 818) S dL_law_818 rfl ?_
  refine zr_invSW (pc := 819) S [zR _, zI _, zI _, zR _] (m_L_gate _) kL_law_188 dL_law_819 (Nat.le_of_ble_eq_true rfl) ⟨by show _ ≤ 601024; omega, by show _ ≤ 7293034; omega⟩ (⟨_, _, rfl, ?_⟩)
  suffices hc : ∀ (k : Int) (N : zM), sp_X12_gate _ N (fin B k) → zaft (zg E) room_1 8 (lawQ, 601024, 7293034) X _ _ _ _ (some (zI k)) N from mo_X11_gate (fun v N h => hpm hc h) (fun _ _ _ h => hpm hc h) (step_gate g)
  intro k N hN
  dsimp only [zaft]
  refine zr_istore (pc := 822) S dL_law_822 (by decide) ?_
  dsimp only [zst1, zst2, zset, zget, zlong]
  refine zr_aload_n (pc := 824) S dL_law_824 rfl ?_
  refine zr_aload_n (pc := 825) S dL_law_825 rfl ?_
  refine zr_iload (pc := 826) S dL_law_826 rfl ?_
  refine zr_iconst (pc := 828) S dL_law_828 (by unfold zrI; omega) ?_
  refine zr_iadd (pc := 829) S dL_law_829 (by unfold zrI; omega) ?_
  refine zr_sld (pc := 830) S hs dL_law_830 (by omega) (by omega) ?_
  refine zr_aload_n (pc := 831) S dL_law_831 rfl ?_
  refine zr_iload (pc := 832) S dL_law_832 rfl ?_
  refine zr_iconst (pc := 834) S dL_law_834 (by unfold zrI; omega) ?_
  refine zr_iadd (pc := 835) S dL_law_835 (by unfold zrI; omega) ?_
  refine zr_sld (pc := 836) S hs dL_law_836 (by omega) (by omega) ?_
  refine zr_invV (pc := 837) S [zI _, zI _] (m_X12_gate _) kL_law_190 dL_law_837 rfl (Nat.le_of_ble_eq_true rfl) rfl (Nat.le_of_ble_eq_true rfl) ⟨by show _ ≤ 601024; omega, by show _ ≤ 7293034; omega⟩ (mo_X12_gate (fun v P hf => ?_) hN)
  dsimp only [zaft]
  obtain ⟨hf1, hf2, hR⟩ := hf
  refine zr_istore (pc := 840) S dL_law_840 (by decide) ?_
  dsimp only [zst1, zst2, zset, zget, zlong]
  refine zr_aload_n (pc := 842) S dL_law_842 rfl ?_
  refine zr_invV (pc := 843) S [] (m_X12_thrown _) kL_law_155 dL_law_843 rfl (Nat.le_of_ble_eq_true rfl) rfl (Nat.le_of_ble_eq_true rfl) ⟨by show _ ≤ 601024; omega, by show _ ≤ 7293034; omega⟩ (us_X12_thrown ?_)
  dsimp only [zaft]
  refine zr_iload (pc := 846) S dL_law_846 rfl ?_
  refine zr_icmp_eq (pc := 848) (tgt := 853) S dL_law_848 (by decide) (fun c848 => ?_) (fun c848 => absurd c848 (by omega))
  refine zr_iload (pc := 853) S dL_law_853 rfl ?_
  refine zr_if_ne (pc := 855) (tgt := 870) S dL_law_855 (by decide) (fun c855 => ?_) (fun c855 => ?_)
  · refine zr_goto (pc := 870) (tgt := 2987) S dL_law_870 (by decide) ?_
    exact zr_fg zfg8 (zr_wd ⟨by show _ ≤ b.1 + 10; omega, by show _ ≤ b.2 + 60; omega⟩ (hE _ hR))
  · have h9 := hf2 (by omega)
    refine zr_aload_n (pc := 858) S dL_law_858 rfl ?_
    refine zr_iconst (pc := 859) S dL_law_859 (by unfold zrI; omega) ?_
    refine zr_laload (pc := 860) S dL_law_860 rfl (Nat.le_of_ble_eq_true rfl) (by omega) (by omega) ?_
    dsimp only [Int.reduceToNat]
    refine zr_iload (pc := 861) S dL_law_861 rfl ?_
    refine zr_i2l (pc := 863) S dL_law_863 ?_
    refine zr_lcmp_eq (pc := 864) (tgt := 870) S dL_law_864 dL_law_865 (by decide) (fun c864 => ?_) (fun c864 => absurd c864 (by omega))
    refine zr_goto (pc := 870) (tgt := 2987) S dL_law_870 (by decide) ?_
    exact zr_fg zfg8 (zr_wd ⟨by show _ ≤ b.1 + 10; omega, by show _ ≤ b.2 + 60; omega⟩ (hE _ hR))
theorem kL_law_191 : ∀ (s9 : State) (a9 : Array Value), (∀ w ∈ wzLaw, w.before a9 s9 = true) → vx_CSW room_1 s9 a9 RL 191 yL_taken cL_taken 6 (some .int) [(0, 12, 15, 13)] wzL_taken rmL_taken 3 18 5 := zcSW (zWi_18 _ (List.mem_of_getElem? (i := 36) rfl)) (zWi_30 _ (List.mem_of_getElem? (i := 45) rfl)) (zWi_12 _ (List.mem_of_getElem? (i := 8) rfl)) (zWi_6 _ (List.mem_of_getElem? (i := 41) rfl)) (by decide +kernel) rfl rfl ⟨Nat.le_of_ble_eq_true rfl, Nat.le_of_ble_eq_true rfl⟩
theorem kL_law_193 : ∀ (s9 : State) (a9 : Array Value), (∀ w ∈ wzLaw, w.before a9 s9 = true) → CallW room_1 s9 a9 RL RX12 193 yX12_taken cX12_taken 4 (some .int) wzX12_taken rmX12_taken 0 0 3 := zcV (zWi_18 _ (List.mem_of_getElem? (i := 37) rfl)) (zWi_15 _ (List.mem_of_getElem? (i := 22) rfl)) (zWi_28 _ (List.mem_of_getElem? (i := 13) rfl)) (zWi_12 _ (List.mem_of_getElem? (i := 13) rfl)) (zWi_4 _ (List.mem_of_getElem? (i := 4) rfl)) (by decide +kernel) rfl rfl ⟨Nat.le_of_ble_eq_true rfl, Nat.le_of_ble_eq_true rfl⟩
set_option maxRecDepth 20000 in
set_option maxHeartbeats 4000000 in
theorem ca_taken {E : zE} {X : zX} {L : Nat} {xs : Nat → Int32} {M : zM} {b : Nat × Nat} {B p : Int} (S : zS (zg E) X cL_law 8 wzLaw RL (some .boolean)) (hs : zSc (zg E) X L xs) (hp0 : 0 ≤ p) (hp7 : p + 7 ≤ L) (hL : L ≤ 3584) (g : RR B M) (hB : B ≤ 12300) (hb : b.1 ≤ 100000 ∧ b.2 ≤ 1000000) (hE : ∀ M', RR (B + 24) M' → zK (zg E) room_1 8 (lawQ, 601024, 7293034) X (b.1 + 10, b.2 + 60) 2987 [some (zR 2000), some (zR 0), some (zR 180), some (zR 201), some (zI p), none, none, none] [] M') : zK (zg E) room_1 8 (lawQ, 601024, 7293034) X b 873 [some (zR 2000), some (zR 0), some (zR 180), some (zR 201), some (zI p), none, none, none] [] M := by
  refine zr_aload_n (pc := 873) S dL_law_873 rfl ?_
  refine zr_aload_n (pc := 874) S dL_law_874 rfl ?_
  refine zr_iload (pc := 875) S dL_law_875 rfl ?_
  refine zr_iconst (pc := 877) S dL_law_877 (by unfold zrI; omega) ?_
  refine zr_iadd (pc := 878) S dL_law_878 (by unfold zrI; omega) ?_
  refine zr_sld (pc := 879) S hs dL_law_879 (by omega) (by omega) ?_
  refine zr_aload_n (pc := 880) S dL_law_880 rfl ?_
  refine zr_iload (pc := 881) S dL_law_881 rfl ?_
  refine zr_iconst (pc := 883) S dL_law_883 (by unfold zrI; omega) ?_
  refine zr_iadd (pc := 884) S dL_law_884 (by unfold zrI; omega) ?_
  refine zr_sld (pc := 885) S hs dL_law_885 (by omega) (by omega) ?_
  refine zr_aload_n (pc := 886) S dL_law_886 rfl ?_
  refine zr_iload (pc := 887) S dL_law_887 rfl ?_
  refine zr_iconst (pc := 889) S dL_law_889 (by unfold zrI; omega) ?_
  refine zr_iadd (pc := 890) S dL_law_890 (by unfold zrI; omega) ?_
  refine zr_sld (pc := 891) S hs dL_law_891 (by omega) (by omega) ?_
  refine zr_aload_n (pc := 892) S dL_law_892 rfl ?_
  refine zr_invSW (pc := 893) S [zR _, zI _, zI _, zI _, zR _] (m_L_taken _) kL_law_191 dL_law_893 (Nat.le_of_ble_eq_true rfl) ⟨by show _ ≤ 601024; omega, by show _ ≤ 7293034; omega⟩ (⟨_, _, _, rfl, ?_⟩)
  suffices hc : ∀ (k : Int) (N : zM), sp_X12_taken _ N (fin B k) → zaft (zg E) room_1 8 (lawQ, 601024, 7293034) X _ _ _ _ (some (zI k)) N from mo_X11_taken (fun v N h => hpm hc h) (fun _ _ _ h => hpm hc h) (step_taken g)
  intro k N hN
  dsimp only [zaft]
  refine zr_istore (pc := 896) S dL_law_896 (by decide) ?_
  dsimp only [zst1, zst2, zset, zget, zlong]
  refine zr_aload_n (pc := 898) S dL_law_898 rfl ?_
  refine zr_aload_n (pc := 899) S dL_law_899 rfl ?_
  refine zr_iload (pc := 900) S dL_law_900 rfl ?_
  refine zr_iconst (pc := 902) S dL_law_902 (by unfold zrI; omega) ?_
  refine zr_iadd (pc := 903) S dL_law_903 (by unfold zrI; omega) ?_
  refine zr_sld (pc := 904) S hs dL_law_904 (by omega) (by omega) ?_
  refine zr_aload_n (pc := 905) S dL_law_905 rfl ?_
  refine zr_iload (pc := 906) S dL_law_906 rfl ?_
  refine zr_iconst (pc := 908) S dL_law_908 (by unfold zrI; omega) ?_
  refine zr_iadd (pc := 909) S dL_law_909 (by unfold zrI; omega) ?_
  refine zr_sld (pc := 910) S hs dL_law_910 (by omega) (by omega) ?_
  refine zr_aload_n (pc := 911) S dL_law_911 rfl ?_
  refine zr_iload (pc := 912) S dL_law_912 rfl ?_
  refine zr_iconst (pc := 914) S dL_law_914 (by unfold zrI; omega) ?_
  refine zr_iadd (pc := 915) S dL_law_915 (by unfold zrI; omega) ?_
  refine zr_sld (pc := 916) S hs dL_law_916 (by omega) (by omega) ?_
  refine zr_invV (pc := 917) S [zI _, zI _, zI _] (m_X12_taken _) kL_law_193 dL_law_917 rfl (Nat.le_of_ble_eq_true rfl) rfl (Nat.le_of_ble_eq_true rfl) ⟨by show _ ≤ 601024; omega, by show _ ≤ 7293034; omega⟩ (mo_X12_taken (fun v P hf => ?_) hN)
  dsimp only [zaft]
  obtain ⟨hf1, hf2, hR⟩ := hf
  refine zr_istore (pc := 920) S dL_law_920 (by decide) ?_
  dsimp only [zst1, zst2, zset, zget, zlong]
  refine zr_aload_n (pc := 922) S dL_law_922 rfl ?_
  refine zr_invV (pc := 923) S [] (m_X12_thrown _) kL_law_155 dL_law_923 rfl (Nat.le_of_ble_eq_true rfl) rfl (Nat.le_of_ble_eq_true rfl) ⟨by show _ ≤ 601024; omega, by show _ ≤ 7293034; omega⟩ (us_X12_thrown ?_)
  dsimp only [zaft]
  refine zr_iload (pc := 926) S dL_law_926 rfl ?_
  refine zr_icmp_eq (pc := 928) (tgt := 933) S dL_law_928 (by decide) (fun c928 => ?_) (fun c928 => absurd c928 (by omega))
  refine zr_iload (pc := 933) S dL_law_933 rfl ?_
  refine zr_if_ne (pc := 935) (tgt := 950) S dL_law_935 (by decide) (fun c935 => ?_) (fun c935 => ?_)
  · refine zr_goto (pc := 950) (tgt := 2987) S dL_law_950 (by decide) ?_
    exact zr_fg zfg8 (zr_wd ⟨by show _ ≤ b.1 + 10; omega, by show _ ≤ b.2 + 60; omega⟩ (hE _ hR))
  · have h9 := hf2 (by omega)
    refine zr_aload_n (pc := 938) S dL_law_938 rfl ?_
    refine zr_iconst (pc := 939) S dL_law_939 (by unfold zrI; omega) ?_
    refine zr_laload (pc := 940) S dL_law_940 rfl (Nat.le_of_ble_eq_true rfl) (by omega) (by omega) ?_
    dsimp only [Int.reduceToNat]
    refine zr_iload (pc := 941) S dL_law_941 rfl ?_
    refine zr_i2l (pc := 943) S dL_law_943 ?_
    refine zr_lcmp_eq (pc := 944) (tgt := 950) S dL_law_944 dL_law_945 (by decide) (fun c944 => ?_) (fun c944 => absurd c944 (by omega))
    refine zr_goto (pc := 950) (tgt := 2987) S dL_law_950 (by decide) ?_
    exact zr_fg zfg8 (zr_wd ⟨by show _ ≤ b.1 + 10; omega, by show _ ≤ b.2 + 60; omega⟩ (hE _ hR))
theorem kL_law_194 : ∀ (s9 : State) (a9 : Array Value), (∀ w ∈ wzLaw, w.before a9 s9 = true) → vx_CSW room_1 s9 a9 RL 194 yL_coins cL_coins 4 (some .int) [(0, 8, 11, 19)] wzL_coins rmL_coins 1 6 3 := zcSW (zWi_18 _ (List.mem_of_getElem? (i := 38) rfl)) (zWi_30 _ (List.mem_of_getElem? (i := 18) rfl)) (zWi_12 _ (List.mem_of_getElem? (i := 8) rfl)) (zWi_6 _ (List.mem_of_getElem? (i := 14) rfl)) (by decide +kernel) rfl rfl ⟨Nat.le_of_ble_eq_true rfl, Nat.le_of_ble_eq_true rfl⟩
theorem kL_law_196 : ∀ (s9 : State) (a9 : Array Value), (∀ w ∈ wzLaw, w.before a9 s9 = true) → CallW room_1 s9 a9 RL RX12 196 yX12_coins cX12_coins 2 (some .long) wzX12_coins rmX12_coins 0 0 1 := zcV (zWi_18 _ (List.mem_of_getElem? (i := 39) rfl)) (zWi_14 _ (List.mem_of_getElem? (i := 0) rfl)) (zWi_26 _ (List.mem_of_getElem? (i := 42) rfl)) (zWi_12 _ (List.mem_of_getElem? (i := 13) rfl)) (zWi_2 _ (List.mem_of_getElem? (i := 29) rfl)) (by decide +kernel) rfl rfl ⟨Nat.le_of_ble_eq_true rfl, Nat.le_of_ble_eq_true rfl⟩
set_option maxRecDepth 20000 in
set_option maxHeartbeats 4000000 in
theorem ca_coins {E : zE} {X : zX} {L : Nat} {xs : Nat → Int32} {M : zM} {b : Nat × Nat} {B p : Int} (S : zS (zg E) X cL_law 8 wzLaw RL (some .boolean)) (hs : zSc (zg E) X L xs) (hp0 : 0 ≤ p) (hp7 : p + 7 ≤ L) (hL : L ≤ 3584) (g : RR B M) (hB : B ≤ 12300) (hb : b.1 ≤ 100000 ∧ b.2 ≤ 1000000) (hE : ∀ M', RR (B + 24) M' → zK (zg E) room_1 8 (lawQ, 601024, 7293034) X (b.1 + 10, b.2 + 60) 2987 [some (zR 2000), some (zR 0), some (zR 180), some (zR 201), some (zI p), none, none, none] [] M') : zK (zg E) room_1 8 (lawQ, 601024, 7293034) X b 953 [some (zR 2000), some (zR 0), some (zR 180), some (zR 201), some (zI p), none, none, none] [] M := by
  refine zr_aload_n (pc := 953) S dL_law_953 rfl ?_
  refine zr_aload_n (pc := 954) S dL_law_954 rfl ?_
  refine zr_iload (pc := 955) S dL_law_955 rfl ?_
  refine zr_iconst (pc := 957) S dL_law_957 (by unfold zrI; omega) ?_
  refine zr_iadd (pc := 958) S dL_law_958 (by unfold zrI; omega) ?_
  refine zr_sld (pc := 959) S hs dL_law_959 (by omega) (by omega) ?_
  refine zr_aload_n (pc := 960) S dL_law_960 rfl ?_
  refine zr_invSW (pc := 961) S [zR _, zI _, zR _] (m_L_coins _) kL_law_194 dL_law_961 (Nat.le_of_ble_eq_true rfl) ⟨by show _ ≤ 601024; omega, by show _ ≤ 7293034; omega⟩ (⟨_, rfl, ?_⟩)
  suffices hc : ∀ (k : Int) (N : zM), sp_X12_coins _ N (fin B k) → zaft (zg E) room_1 8 (lawQ, 601024, 7293034) X _ _ _ _ (some (zI k)) N from mo_X11_coins (fun v N h => hpm hc h) (fun _ _ _ h => hpm hc h) (step_coins g)
  intro k N hN
  dsimp only [zaft]
  refine zr_istore (pc := 964) S dL_law_964 (by decide) ?_
  dsimp only [zst1, zst2, zset, zget, zlong]
  refine zr_aload_n (pc := 966) S dL_law_966 rfl ?_
  refine zr_aload_n (pc := 967) S dL_law_967 rfl ?_
  refine zr_iload (pc := 968) S dL_law_968 rfl ?_
  refine zr_iconst (pc := 970) S dL_law_970 (by unfold zrI; omega) ?_
  refine zr_iadd (pc := 971) S dL_law_971 (by unfold zrI; omega) ?_
  refine zr_sld (pc := 972) S hs dL_law_972 (by omega) (by omega) ?_
  refine zr_invV (pc := 973) S [zI _] (m_X12_coins _) kL_law_196 dL_law_973 rfl (Nat.le_of_ble_eq_true rfl) rfl (Nat.le_of_ble_eq_true rfl) ⟨by show _ ≤ 601024; omega, by show _ ≤ 7293034; omega⟩ (mo_X12_coins (fun v P hf => ?_) hN)
  dsimp only [zaft]
  obtain ⟨hf1, hf2, hR⟩ := hf
  refine zr_lstore (pc := 976) S dL_law_976 (by decide) ?_
  dsimp only [zst1, zst2, zset, zget, zlong]
  refine zr_aload_n (pc := 978) S dL_law_978 rfl ?_
  refine zr_invV (pc := 979) S [] (m_X12_thrown _) kL_law_155 dL_law_979 rfl (Nat.le_of_ble_eq_true rfl) rfl (Nat.le_of_ble_eq_true rfl) ⟨by show _ ≤ 601024; omega, by show _ ≤ 7293034; omega⟩ (us_X12_thrown ?_)
  dsimp only [zaft]
  refine zr_iload (pc := 982) S dL_law_982 rfl ?_
  refine zr_icmp_eq (pc := 984) (tgt := 989) S dL_law_984 (by decide) (fun c984 => ?_) (fun c984 => absurd c984 (by omega))
  refine zr_iload (pc := 989) S dL_law_989 rfl ?_
  refine zr_if_ne (pc := 991) (tgt := 1005) S dL_law_991 (by decide) (fun c991 => ?_) (fun c991 => ?_)
  · refine zr_goto (pc := 1005) (tgt := 2987) S dL_law_1005 (by decide) ?_
    exact zr_fg zfg8 (zr_wd ⟨by show _ ≤ b.1 + 10; omega, by show _ ≤ b.2 + 60; omega⟩ (hE _ hR))
  · have h9 := hf2 (by omega)
    refine zr_aload_n (pc := 994) S dL_law_994 rfl ?_
    refine zr_iconst (pc := 995) S dL_law_995 (by unfold zrI; omega) ?_
    refine zr_laload (pc := 996) S dL_law_996 rfl (Nat.le_of_ble_eq_true rfl) (by omega) (by omega) ?_
    dsimp only [Int.reduceToNat]
    refine zr_lload (pc := 997) S dL_law_997 rfl ?_
    refine zr_lcmp_eq (pc := 999) (tgt := 1005) S dL_law_999 dL_law_1000 (by decide) (fun c999 => ?_) (fun c999 => absurd c999 (by omega))
    refine zr_goto (pc := 1005) (tgt := 2987) S dL_law_1005 (by decide) ?_
    exact zr_fg zfg8 (zr_wd ⟨by show _ ≤ b.1 + 10; omega, by show _ ≤ b.2 + 60; omega⟩ (hE _ hR))
theorem kL_law_197 : ∀ (s9 : State) (a9 : Array Value), (∀ w ∈ wzLaw, w.before a9 s9 = true) → vx_CSW room_1 s9 a9 RL 197 yL_passes cL_passes 5 (some .int) [(0, 9, 12, 19)] wzL_passes rmL_passes 2 12 4 := zcSW (zWi_18 _ (List.mem_of_getElem? (i := 40) rfl)) (zWi_30 _ (List.mem_of_getElem? (i := 34) rfl)) (zWi_12 _ (List.mem_of_getElem? (i := 8) rfl)) (zWi_6 _ (List.mem_of_getElem? (i := 30) rfl)) (by decide +kernel) rfl rfl ⟨Nat.le_of_ble_eq_true rfl, Nat.le_of_ble_eq_true rfl⟩
theorem kL_law_199 : ∀ (s9 : State) (a9 : Array Value), (∀ w ∈ wzLaw, w.before a9 s9 = true) → CallW room_1 s9 a9 RL RX12 199 yX12_passes cX12_passes 3 (some .long) wzX12_passes rmX12_passes 0 0 2 := zcV (zWi_18 _ (List.mem_of_getElem? (i := 41) rfl)) (zWi_15 _ (List.mem_of_getElem? (i := 2) rfl)) (zWi_27 _ (List.mem_of_getElem? (i := 43) rfl)) (zWi_12 _ (List.mem_of_getElem? (i := 13) rfl)) (zWi_3 _ (List.mem_of_getElem? (i := 34) rfl)) (by decide +kernel) rfl rfl ⟨Nat.le_of_ble_eq_true rfl, Nat.le_of_ble_eq_true rfl⟩
set_option maxRecDepth 20000 in
set_option maxHeartbeats 4000000 in
theorem ca_passes {E : zE} {X : zX} {L : Nat} {xs : Nat → Int32} {M : zM} {b : Nat × Nat} {B p : Int} (S : zS (zg E) X cL_law 8 wzLaw RL (some .boolean)) (hs : zSc (zg E) X L xs) (hp0 : 0 ≤ p) (hp7 : p + 7 ≤ L) (hL : L ≤ 3584) (g : RR B M) (hB : B ≤ 12300) (hb : b.1 ≤ 100000 ∧ b.2 ≤ 1000000) (hE : ∀ M', RR (B + 24) M' → zK (zg E) room_1 8 (lawQ, 601024, 7293034) X (b.1 + 10, b.2 + 60) 2987 [some (zR 2000), some (zR 0), some (zR 180), some (zR 201), some (zI p), none, none, none] [] M') : zK (zg E) room_1 8 (lawQ, 601024, 7293034) X b 1008 [some (zR 2000), some (zR 0), some (zR 180), some (zR 201), some (zI p), none, none, none] [] M := by
  refine zr_aload_n (pc := 1008) S dL_law_1008 rfl ?_
  refine zr_aload_n (pc := 1009) S dL_law_1009 rfl ?_
  refine zr_iload (pc := 1010) S dL_law_1010 rfl ?_
  refine zr_iconst (pc := 1012) S dL_law_1012 (by unfold zrI; omega) ?_
  refine zr_iadd (pc := 1013) S dL_law_1013 (by unfold zrI; omega) ?_
  refine zr_sld (pc := 1014) S hs dL_law_1014 (by omega) (by omega) ?_
  refine zr_aload_n (pc := 1015) S dL_law_1015 rfl ?_
  refine zr_iload (pc := 1016) S dL_law_1016 rfl ?_
  refine zr_iconst (pc := 1018) S dL_law_1018 (by unfold zrI; omega) ?_
  refine zr_iadd (pc := 1019) S dL_law_1019 (by unfold zrI; omega) ?_
  refine zr_sld (pc := 1020) S hs dL_law_1020 (by omega) (by omega) ?_
  refine zr_aload_n (pc := 1021) S dL_law_1021 rfl ?_
  refine zr_invSW (pc := 1022) S [zR _, zI _, zI _, zR _] (m_L_passes _) kL_law_197 dL_law_1022 (Nat.le_of_ble_eq_true rfl) ⟨by show _ ≤ 601024; omega, by show _ ≤ 7293034; omega⟩ (⟨_, _, rfl, ?_⟩)
  suffices hc : ∀ (k : Int) (N : zM), sp_X12_passes _ N (fin B k) → zaft (zg E) room_1 8 (lawQ, 601024, 7293034) X _ _ _ _ (some (zI k)) N from mo_X11_passes (fun v N h => hpm hc h) (fun _ _ _ h => hpm hc h) (step_passes g)
  intro k N hN
  dsimp only [zaft]
  refine zr_istore (pc := 1025) S dL_law_1025 (by decide) ?_
  dsimp only [zst1, zst2, zset, zget, zlong]
  refine zr_aload_n (pc := 1027) S dL_law_1027 rfl ?_
  refine zr_aload_n (pc := 1028) S dL_law_1028 rfl ?_
  refine zr_iload (pc := 1029) S dL_law_1029 rfl ?_
  refine zr_iconst (pc := 1031) S dL_law_1031 (by unfold zrI; omega) ?_
  refine zr_iadd (pc := 1032) S dL_law_1032 (by unfold zrI; omega) ?_
  refine zr_sld (pc := 1033) S hs dL_law_1033 (by omega) (by omega) ?_
  refine zr_aload_n (pc := 1034) S dL_law_1034 rfl ?_
  refine zr_iload (pc := 1035) S dL_law_1035 rfl ?_
  refine zr_iconst (pc := 1037) S dL_law_1037 (by unfold zrI; omega) ?_
  refine zr_iadd (pc := 1038) S dL_law_1038 (by unfold zrI; omega) ?_
  refine zr_sld (pc := 1039) S hs dL_law_1039 (by omega) (by omega) ?_
  refine zr_invV (pc := 1040) S [zI _, zI _] (m_X12_passes _) kL_law_199 dL_law_1040 rfl (Nat.le_of_ble_eq_true rfl) rfl (Nat.le_of_ble_eq_true rfl) ⟨by show _ ≤ 601024; omega, by show _ ≤ 7293034; omega⟩ (mo_X12_passes (fun v P hf => ?_) hN)
  dsimp only [zaft]
  obtain ⟨hf1, hf2, hR⟩ := hf
  refine zr_lstore (pc := 1043) S dL_law_1043 (by decide) ?_
  dsimp only [zst1, zst2, zset, zget, zlong]
  refine zr_aload_n (pc := 1045) S dL_law_1045 rfl ?_
  refine zr_invV (pc := 1046) S [] (m_X12_thrown _) kL_law_155 dL_law_1046 rfl (Nat.le_of_ble_eq_true rfl) rfl (Nat.le_of_ble_eq_true rfl) ⟨by show _ ≤ 601024; omega, by show _ ≤ 7293034; omega⟩ (us_X12_thrown ?_)
  dsimp only [zaft]
  refine zr_iload (pc := 1049) S dL_law_1049 rfl ?_
  refine zr_icmp_eq (pc := 1051) (tgt := 1056) S dL_law_1051 (by decide) (fun c1051 => ?_) (fun c1051 => absurd c1051 (by omega))
  refine zr_iload (pc := 1056) S dL_law_1056 rfl ?_
  refine zr_if_ne (pc := 1058) (tgt := 1072) S dL_law_1058 (by decide) (fun c1058 => ?_) (fun c1058 => ?_)
  · refine zr_goto (pc := 1072) (tgt := 2987) S dL_law_1072 (by decide) ?_
    exact zr_fg zfg8 (zr_wd ⟨by show _ ≤ b.1 + 10; omega, by show _ ≤ b.2 + 60; omega⟩ (hE _ hR))
  · have h9 := hf2 (by omega)
    refine zr_aload_n (pc := 1061) S dL_law_1061 rfl ?_
    refine zr_iconst (pc := 1062) S dL_law_1062 (by unfold zrI; omega) ?_
    refine zr_laload (pc := 1063) S dL_law_1063 rfl (Nat.le_of_ble_eq_true rfl) (by omega) (by omega) ?_
    dsimp only [Int.reduceToNat]
    refine zr_lload (pc := 1064) S dL_law_1064 rfl ?_
    refine zr_lcmp_eq (pc := 1066) (tgt := 1072) S dL_law_1066 dL_law_1067 (by decide) (fun c1066 => ?_) (fun c1066 => absurd c1066 (by omega))
    refine zr_goto (pc := 1072) (tgt := 2987) S dL_law_1072 (by decide) ?_
    exact zr_fg zfg8 (zr_wd ⟨by show _ ≤ b.1 + 10; omega, by show _ ≤ b.2 + 60; omega⟩ (hE _ hR))
theorem kL_law_200 : ∀ (s9 : State) (a9 : Array Value), (∀ w ∈ wzLaw, w.before a9 s9 = true) → vx_CSW room_1 s9 a9 RL 200 yL_wrong cL_wrong 4 (some .int) [(0, 8, 11, 19)] wzL_wrong rmL_wrong 1 6 3 := zcSW (zWi_18 _ (List.mem_of_getElem? (i := 42) rfl)) (zWi_31 _ (List.mem_of_getElem? (i := 2) rfl)) (zWi_12 _ (List.mem_of_getElem? (i := 8) rfl)) (zWi_6 _ (List.mem_of_getElem? (i := 48) rfl)) (by decide +kernel) rfl rfl ⟨Nat.le_of_ble_eq_true rfl, Nat.le_of_ble_eq_true rfl⟩
theorem kL_law_202 : ∀ (s9 : State) (a9 : Array Value), (∀ w ∈ wzLaw, w.before a9 s9 = true) → CallW room_1 s9 a9 RL RX12 202 yX12_wrong cX12_wrong 2 (some .long) wzX12_wrong rmX12_wrong 0 0 1 := zcV (zWi_18 _ (List.mem_of_getElem? (i := 43) rfl)) (zWi_15 _ (List.mem_of_getElem? (i := 36) rfl)) (zWi_28 _ (List.mem_of_getElem? (i := 27) rfl)) (zWi_12 _ (List.mem_of_getElem? (i := 13) rfl)) (zWi_4 _ (List.mem_of_getElem? (i := 19) rfl)) (by decide +kernel) rfl rfl ⟨Nat.le_of_ble_eq_true rfl, Nat.le_of_ble_eq_true rfl⟩
set_option maxRecDepth 20000 in
set_option maxHeartbeats 4000000 in
theorem ca_wrong {E : zE} {X : zX} {L : Nat} {xs : Nat → Int32} {M : zM} {b : Nat × Nat} {B p : Int} (S : zS (zg E) X cL_law 8 wzLaw RL (some .boolean)) (hs : zSc (zg E) X L xs) (hp0 : 0 ≤ p) (hp7 : p + 7 ≤ L) (hL : L ≤ 3584) (g : RR B M) (hB : B ≤ 12300) (hb : b.1 ≤ 100000 ∧ b.2 ≤ 1000000) (hE : ∀ M', RR (B + 24) M' → zK (zg E) room_1 8 (lawQ, 601024, 7293034) X (b.1 + 10, b.2 + 60) 2987 [some (zR 2000), some (zR 0), some (zR 180), some (zR 201), some (zI p), none, none, none] [] M') : zK (zg E) room_1 8 (lawQ, 601024, 7293034) X b 1075 [some (zR 2000), some (zR 0), some (zR 180), some (zR 201), some (zI p), none, none, none] [] M := by
  refine zr_aload_n (pc := 1075) S dL_law_1075 rfl ?_
  refine zr_aload_n (pc := 1076) S dL_law_1076 rfl ?_
  refine zr_iload (pc := 1077) S dL_law_1077 rfl ?_
  refine zr_iconst (pc := 1079) S dL_law_1079 (by unfold zrI; omega) ?_
  refine zr_iadd (pc := 1080) S dL_law_1080 (by unfold zrI; omega) ?_
  refine zr_sld (pc := 1081) S hs dL_law_1081 (by omega) (by omega) ?_
  refine zr_aload_n (pc := 1082) S dL_law_1082 rfl ?_
  refine zr_invSW (pc := 1083) S [zR _, zI _, zR _] (m_L_wrong _) kL_law_200 dL_law_1083 (Nat.le_of_ble_eq_true rfl) ⟨by show _ ≤ 601024; omega, by show _ ≤ 7293034; omega⟩ (⟨_, rfl, ?_⟩)
  suffices hc : ∀ (k : Int) (N : zM), sp_X12_wrong _ N (fin B k) → zaft (zg E) room_1 8 (lawQ, 601024, 7293034) X _ _ _ _ (some (zI k)) N from mo_X11_wrong (fun v N h => hpm hc h) (fun _ _ _ h => hpm hc h) (step_wrong g)
  intro k N hN
  dsimp only [zaft]
  refine zr_istore (pc := 1086) S dL_law_1086 (by decide) ?_
  dsimp only [zst1, zst2, zset, zget, zlong]
  refine zr_aload_n (pc := 1088) S dL_law_1088 rfl ?_
  refine zr_aload_n (pc := 1089) S dL_law_1089 rfl ?_
  refine zr_iload (pc := 1090) S dL_law_1090 rfl ?_
  refine zr_iconst (pc := 1092) S dL_law_1092 (by unfold zrI; omega) ?_
  refine zr_iadd (pc := 1093) S dL_law_1093 (by unfold zrI; omega) ?_
  refine zr_sld (pc := 1094) S hs dL_law_1094 (by omega) (by omega) ?_
  refine zr_invV (pc := 1095) S [zI _] (m_X12_wrong _) kL_law_202 dL_law_1095 rfl (Nat.le_of_ble_eq_true rfl) rfl (Nat.le_of_ble_eq_true rfl) ⟨by show _ ≤ 601024; omega, by show _ ≤ 7293034; omega⟩ (mo_X12_wrong (fun v P hf => ?_) hN)
  dsimp only [zaft]
  obtain ⟨hf1, hf2, hR⟩ := hf
  refine zr_lstore (pc := 1098) S dL_law_1098 (by decide) ?_
  dsimp only [zst1, zst2, zset, zget, zlong]
  refine zr_aload_n (pc := 1100) S dL_law_1100 rfl ?_
  refine zr_invV (pc := 1101) S [] (m_X12_thrown _) kL_law_155 dL_law_1101 rfl (Nat.le_of_ble_eq_true rfl) rfl (Nat.le_of_ble_eq_true rfl) ⟨by show _ ≤ 601024; omega, by show _ ≤ 7293034; omega⟩ (us_X12_thrown ?_)
  dsimp only [zaft]
  refine zr_iload (pc := 1104) S dL_law_1104 rfl ?_
  refine zr_icmp_eq (pc := 1106) (tgt := 1111) S dL_law_1106 (by decide) (fun c1106 => ?_) (fun c1106 => absurd c1106 (by omega))
  refine zr_iload (pc := 1111) S dL_law_1111 rfl ?_
  refine zr_if_ne (pc := 1113) (tgt := 1127) S dL_law_1113 (by decide) (fun c1113 => ?_) (fun c1113 => ?_)
  · refine zr_goto (pc := 1127) (tgt := 2987) S dL_law_1127 (by decide) ?_
    exact zr_fg zfg8 (zr_wd ⟨by show _ ≤ b.1 + 10; omega, by show _ ≤ b.2 + 60; omega⟩ (hE _ hR))
  · have h9 := hf2 (by omega)
    refine zr_aload_n (pc := 1116) S dL_law_1116 rfl ?_
    refine zr_iconst (pc := 1117) S dL_law_1117 (by unfold zrI; omega) ?_
    refine zr_laload (pc := 1118) S dL_law_1118 rfl (Nat.le_of_ble_eq_true rfl) (by omega) (by omega) ?_
    dsimp only [Int.reduceToNat]
    refine zr_lload (pc := 1119) S dL_law_1119 rfl ?_
    refine zr_lcmp_eq (pc := 1121) (tgt := 1127) S dL_law_1121 dL_law_1122 (by decide) (fun c1121 => ?_) (fun c1121 => absurd c1121 (by omega))
    refine zr_goto (pc := 1127) (tgt := 2987) S dL_law_1127 (by decide) ?_
    exact zr_fg zfg8 (zr_wd ⟨by show _ ≤ b.1 + 10; omega, by show _ ≤ b.2 + 60; omega⟩ (hE _ hR))
theorem kL_law_203 : ∀ (s9 : State) (a9 : Array Value), (∀ w ∈ wzLaw, w.before a9 s9 = true) → vx_CSW room_1 s9 a9 RL 203 yL_loss cL_loss 6 (some .int) [(0, 11, 14, 19), (0, 11, 18, 13)] wzL_loss rmL_loss 3 18 5 := zcSW (zWi_18 _ (List.mem_of_getElem? (i := 44) rfl)) (zWi_30 _ (List.mem_of_getElem? (i := 28) rfl)) (zWi_12 _ (List.mem_of_getElem? (i := 8) rfl)) (zWi_6 _ (List.mem_of_getElem? (i := 24) rfl)) (by decide +kernel) rfl rfl ⟨Nat.le_of_ble_eq_true rfl, Nat.le_of_ble_eq_true rfl⟩
theorem kL_law_205 : ∀ (s9 : State) (a9 : Array Value), (∀ w ∈ wzLaw, w.before a9 s9 = true) → CallW room_1 s9 a9 RL RX12 205 yX12_loss cX12_loss 4 (some .long) wzX12_loss rmX12_loss 0 0 3 := zcV (zWi_18 _ (List.mem_of_getElem? (i := 45) rfl)) (zWi_14 _ (List.mem_of_getElem? (i := 36) rfl)) (zWi_27 _ (List.mem_of_getElem? (i := 27) rfl)) (zWi_12 _ (List.mem_of_getElem? (i := 13) rfl)) (zWi_3 _ (List.mem_of_getElem? (i := 18) rfl)) (by decide +kernel) rfl rfl ⟨Nat.le_of_ble_eq_true rfl, Nat.le_of_ble_eq_true rfl⟩
set_option maxRecDepth 20000 in
set_option maxHeartbeats 4000000 in
theorem ca_loss {E : zE} {X : zX} {L : Nat} {xs : Nat → Int32} {M : zM} {b : Nat × Nat} {B p : Int} (S : zS (zg E) X cL_law 8 wzLaw RL (some .boolean)) (hs : zSc (zg E) X L xs) (hp0 : 0 ≤ p) (hp7 : p + 7 ≤ L) (hL : L ≤ 3584) (g : RR B M) (hB : B ≤ 12300) (hb : b.1 ≤ 100000 ∧ b.2 ≤ 1000000) (hE : ∀ M', RR (B + 24) M' → zK (zg E) room_1 8 (lawQ, 601024, 7293034) X (b.1 + 10, b.2 + 60) 2987 [some (zR 2000), some (zR 0), some (zR 180), some (zR 201), some (zI p), none, none, none] [] M') : zK (zg E) room_1 8 (lawQ, 601024, 7293034) X b 1130 [some (zR 2000), some (zR 0), some (zR 180), some (zR 201), some (zI p), none, none, none] [] M := by
  refine zr_aload_n (pc := 1130) S dL_law_1130 rfl ?_
  refine zr_aload_n (pc := 1131) S dL_law_1131 rfl ?_
  refine zr_iload (pc := 1132) S dL_law_1132 rfl ?_
  refine zr_iconst (pc := 1134) S dL_law_1134 (by unfold zrI; omega) ?_
  refine zr_iadd (pc := 1135) S dL_law_1135 (by unfold zrI; omega) ?_
  refine zr_sld (pc := 1136) S hs dL_law_1136 (by omega) (by omega) ?_
  refine zr_aload_n (pc := 1137) S dL_law_1137 rfl ?_
  refine zr_iload (pc := 1138) S dL_law_1138 rfl ?_
  refine zr_iconst (pc := 1140) S dL_law_1140 (by unfold zrI; omega) ?_
  refine zr_iadd (pc := 1141) S dL_law_1141 (by unfold zrI; omega) ?_
  refine zr_sld (pc := 1142) S hs dL_law_1142 (by omega) (by omega) ?_
  refine zr_aload_n (pc := 1143) S dL_law_1143 rfl ?_
  refine zr_iload (pc := 1144) S dL_law_1144 rfl ?_
  refine zr_iconst (pc := 1146) S dL_law_1146 (by unfold zrI; omega) ?_
  refine zr_iadd (pc := 1147) S dL_law_1147 (by unfold zrI; omega) ?_
  refine zr_sld (pc := 1148) S hs dL_law_1148 (by omega) (by omega) ?_
  refine zr_aload_n (pc := 1149) S dL_law_1149 rfl ?_
  refine zr_invSW (pc := 1150) S [zR _, zI _, zI _, zI _, zR _] (m_L_loss _) kL_law_203 dL_law_1150 (Nat.le_of_ble_eq_true rfl) ⟨by show _ ≤ 601024; omega, by show _ ≤ 7293034; omega⟩ (⟨_, _, _, rfl, ?_⟩)
  suffices hc : ∀ (k : Int) (N : zM), sp_X12_loss _ N (fin B k) → zaft (zg E) room_1 8 (lawQ, 601024, 7293034) X _ _ _ _ (some (zI k)) N from mo_X11_loss (fun v N h => hpm hc h) (fun _ _ _ h => hpm hc h) (step_loss g)
  intro k N hN
  dsimp only [zaft]
  refine zr_istore (pc := 1153) S dL_law_1153 (by decide) ?_
  dsimp only [zst1, zst2, zset, zget, zlong]
  refine zr_aload_n (pc := 1155) S dL_law_1155 rfl ?_
  refine zr_aload_n (pc := 1156) S dL_law_1156 rfl ?_
  refine zr_iload (pc := 1157) S dL_law_1157 rfl ?_
  refine zr_iconst (pc := 1159) S dL_law_1159 (by unfold zrI; omega) ?_
  refine zr_iadd (pc := 1160) S dL_law_1160 (by unfold zrI; omega) ?_
  refine zr_sld (pc := 1161) S hs dL_law_1161 (by omega) (by omega) ?_
  refine zr_aload_n (pc := 1162) S dL_law_1162 rfl ?_
  refine zr_iload (pc := 1163) S dL_law_1163 rfl ?_
  refine zr_iconst (pc := 1165) S dL_law_1165 (by unfold zrI; omega) ?_
  refine zr_iadd (pc := 1166) S dL_law_1166 (by unfold zrI; omega) ?_
  refine zr_sld (pc := 1167) S hs dL_law_1167 (by omega) (by omega) ?_
  refine zr_aload_n (pc := 1168) S dL_law_1168 rfl ?_
  refine zr_iload (pc := 1169) S dL_law_1169 rfl ?_
  refine zr_iconst (pc := 1171) S dL_law_1171 (by unfold zrI; omega) ?_
  refine zr_iadd (pc := 1172) S dL_law_1172 (by unfold zrI; omega) ?_
  refine zr_sld (pc := 1173) S hs dL_law_1173 (by omega) (by omega) ?_
  refine zr_invV (pc := 1174) S [zI _, zI _, zI _] (m_X12_loss _) kL_law_205 dL_law_1174 rfl (Nat.le_of_ble_eq_true rfl) rfl (Nat.le_of_ble_eq_true rfl) ⟨by show _ ≤ 601024; omega, by show _ ≤ 7293034; omega⟩ (mo_X12_loss (fun v P hf => ?_) hN)
  dsimp only [zaft]
  obtain ⟨hf1, hf2, hR⟩ := hf
  refine zr_lstore (pc := 1177) S dL_law_1177 (by decide) ?_
  dsimp only [zst1, zst2, zset, zget, zlong]
  refine zr_aload_n (pc := 1179) S dL_law_1179 rfl ?_
  refine zr_invV (pc := 1180) S [] (m_X12_thrown _) kL_law_155 dL_law_1180 rfl (Nat.le_of_ble_eq_true rfl) rfl (Nat.le_of_ble_eq_true rfl) ⟨by show _ ≤ 601024; omega, by show _ ≤ 7293034; omega⟩ (us_X12_thrown ?_)
  dsimp only [zaft]
  refine zr_iload (pc := 1183) S dL_law_1183 rfl ?_
  refine zr_icmp_eq (pc := 1185) (tgt := 1190) S dL_law_1185 (by decide) (fun c1185 => ?_) (fun c1185 => absurd c1185 (by omega))
  refine zr_iload (pc := 1190) S dL_law_1190 rfl ?_
  refine zr_if_ne (pc := 1192) (tgt := 1206) S dL_law_1192 (by decide) (fun c1192 => ?_) (fun c1192 => ?_)
  · refine zr_goto (pc := 1206) (tgt := 2987) S dL_law_1206 (by decide) ?_
    exact zr_fg zfg8 (zr_wd ⟨by show _ ≤ b.1 + 10; omega, by show _ ≤ b.2 + 60; omega⟩ (hE _ hR))
  · have h9 := hf2 (by omega)
    refine zr_aload_n (pc := 1195) S dL_law_1195 rfl ?_
    refine zr_iconst (pc := 1196) S dL_law_1196 (by unfold zrI; omega) ?_
    refine zr_laload (pc := 1197) S dL_law_1197 rfl (Nat.le_of_ble_eq_true rfl) (by omega) (by omega) ?_
    dsimp only [Int.reduceToNat]
    refine zr_lload (pc := 1198) S dL_law_1198 rfl ?_
    refine zr_lcmp_eq (pc := 1200) (tgt := 1206) S dL_law_1200 dL_law_1201 (by decide) (fun c1200 => ?_) (fun c1200 => absurd c1200 (by omega))
    refine zr_goto (pc := 1206) (tgt := 2987) S dL_law_1206 (by decide) ?_
    exact zr_fg zfg8 (zr_wd ⟨by show _ ≤ b.1 + 10; omega, by show _ ≤ b.2 + 60; omega⟩ (hE _ hR))
theorem kL_law_206 : ∀ (s9 : State) (a9 : Array Value), (∀ w ∈ wzLaw, w.before a9 s9 = true) → vx_CSW room_1 s9 a9 RL 206 yL_best cL_best 5 (some .int) [(0, 9, 12, 19), (0, 9, 16, 13)] wzL_best rmL_best 2 12 4 := zcSW (zWi_18 _ (List.mem_of_getElem? (i := 46) rfl)) (zWi_30 _ (List.mem_of_getElem? (i := 16) rfl)) (zWi_12 _ (List.mem_of_getElem? (i := 8) rfl)) (zWi_6 _ (List.mem_of_getElem? (i := 12) rfl)) (by decide +kernel) rfl rfl ⟨Nat.le_of_ble_eq_true rfl, Nat.le_of_ble_eq_true rfl⟩
theorem kL_law_208 : ∀ (s9 : State) (a9 : Array Value), (∀ w ∈ wzLaw, w.before a9 s9 = true) → CallW room_1 s9 a9 RL RX12 208 yX12_best cX12_best 13 (some .long) wzX12_best rmX12_best 0 0 2 := zcV (zWi_18 _ (List.mem_of_getElem? (i := 47) rfl)) (zWi_13 _ (List.mem_of_getElem? (i := 44) rfl)) (zWi_26 _ (List.mem_of_getElem? (i := 36) rfl)) (zWi_12 _ (List.mem_of_getElem? (i := 13) rfl)) (zWi_2 _ (List.mem_of_getElem? (i := 23) rfl)) (by decide +kernel) rfl rfl ⟨Nat.le_of_ble_eq_true rfl, Nat.le_of_ble_eq_true rfl⟩
set_option maxRecDepth 20000 in
set_option maxHeartbeats 4000000 in
theorem ca_best {E : zE} {X : zX} {L : Nat} {xs : Nat → Int32} {M : zM} {b : Nat × Nat} {B p : Int} (S : zS (zg E) X cL_law 8 wzLaw RL (some .boolean)) (hs : zSc (zg E) X L xs) (hp0 : 0 ≤ p) (hp7 : p + 7 ≤ L) (hL : L ≤ 3584) (g : RR B M) (hB : B ≤ 12300) (hb : b.1 ≤ 100000 ∧ b.2 ≤ 1000000) (hE : ∀ M', RR (B + 24) M' → zK (zg E) room_1 8 (lawQ, 601024, 7293034) X (b.1 + 10, b.2 + 60) 2987 [some (zR 2000), some (zR 0), some (zR 180), some (zR 201), some (zI p), none, none, none] [] M') : zK (zg E) room_1 8 (lawQ, 601024, 7293034) X b 1209 [some (zR 2000), some (zR 0), some (zR 180), some (zR 201), some (zI p), none, none, none] [] M := by
  refine zr_aload_n (pc := 1209) S dL_law_1209 rfl ?_
  refine zr_aload_n (pc := 1210) S dL_law_1210 rfl ?_
  refine zr_iload (pc := 1211) S dL_law_1211 rfl ?_
  refine zr_iconst (pc := 1213) S dL_law_1213 (by unfold zrI; omega) ?_
  refine zr_iadd (pc := 1214) S dL_law_1214 (by unfold zrI; omega) ?_
  refine zr_sld (pc := 1215) S hs dL_law_1215 (by omega) (by omega) ?_
  refine zr_aload_n (pc := 1216) S dL_law_1216 rfl ?_
  refine zr_iload (pc := 1217) S dL_law_1217 rfl ?_
  refine zr_iconst (pc := 1219) S dL_law_1219 (by unfold zrI; omega) ?_
  refine zr_iadd (pc := 1220) S dL_law_1220 (by unfold zrI; omega) ?_
  refine zr_sld (pc := 1221) S hs dL_law_1221 (by omega) (by omega) ?_
  refine zr_aload_n (pc := 1222) S dL_law_1222 rfl ?_
  refine zr_invSW (pc := 1223) S [zR _, zI _, zI _, zR _] (m_L_best _) kL_law_206 dL_law_1223 (Nat.le_of_ble_eq_true rfl) ⟨by show _ ≤ 601024; omega, by show _ ≤ 7293034; omega⟩ (⟨_, _, rfl, ?_⟩)
  suffices hc : ∀ (k : Int) (N : zM), sp_X12_best _ N (fin B k) → zaft (zg E) room_1 8 (lawQ, 601024, 7293034) X _ _ _ _ (some (zI k)) N from mo_X11_best (fun v N h => hpm hc h) (fun _ _ _ h => hpm hc h) (step_best g)
  intro k N hN
  dsimp only [zaft]
  refine zr_istore (pc := 1226) S dL_law_1226 (by decide) ?_
  dsimp only [zst1, zst2, zset, zget, zlong]
  refine zr_aload_n (pc := 1228) S dL_law_1228 rfl ?_
  refine zr_aload_n (pc := 1229) S dL_law_1229 rfl ?_
  refine zr_iload (pc := 1230) S dL_law_1230 rfl ?_
  refine zr_iconst (pc := 1232) S dL_law_1232 (by unfold zrI; omega) ?_
  refine zr_iadd (pc := 1233) S dL_law_1233 (by unfold zrI; omega) ?_
  refine zr_sld (pc := 1234) S hs dL_law_1234 (by omega) (by omega) ?_
  refine zr_aload_n (pc := 1235) S dL_law_1235 rfl ?_
  refine zr_iload (pc := 1236) S dL_law_1236 rfl ?_
  refine zr_iconst (pc := 1238) S dL_law_1238 (by unfold zrI; omega) ?_
  refine zr_iadd (pc := 1239) S dL_law_1239 (by unfold zrI; omega) ?_
  refine zr_sld (pc := 1240) S hs dL_law_1240 (by omega) (by omega) ?_
  refine zr_invV (pc := 1241) S [zI _, zI _] (m_X12_best _) kL_law_208 dL_law_1241 rfl (Nat.le_of_ble_eq_true rfl) rfl (Nat.le_of_ble_eq_true rfl) ⟨by show _ ≤ 601024; omega, by show _ ≤ 7293034; omega⟩ (mo_X12_best (fun v P hf => ?_) hN)
  dsimp only [zaft]
  obtain ⟨hf1, hf2, hR⟩ := hf
  refine zr_lstore (pc := 1244) S dL_law_1244 (by decide) ?_
  dsimp only [zst1, zst2, zset, zget, zlong]
  refine zr_aload_n (pc := 1246) S dL_law_1246 rfl ?_
  refine zr_invV (pc := 1247) S [] (m_X12_thrown _) kL_law_155 dL_law_1247 rfl (Nat.le_of_ble_eq_true rfl) rfl (Nat.le_of_ble_eq_true rfl) ⟨by show _ ≤ 601024; omega, by show _ ≤ 7293034; omega⟩ (us_X12_thrown ?_)
  dsimp only [zaft]
  refine zr_iload (pc := 1250) S dL_law_1250 rfl ?_
  refine zr_icmp_eq (pc := 1252) (tgt := 1257) S dL_law_1252 (by decide) (fun c1252 => ?_) (fun c1252 => absurd c1252 (by omega))
  refine zr_iload (pc := 1257) S dL_law_1257 rfl ?_
  refine zr_if_ne (pc := 1259) (tgt := 1273) S dL_law_1259 (by decide) (fun c1259 => ?_) (fun c1259 => ?_)
  · refine zr_goto (pc := 1273) (tgt := 2987) S dL_law_1273 (by decide) ?_
    exact zr_fg zfg8 (zr_wd ⟨by show _ ≤ b.1 + 10; omega, by show _ ≤ b.2 + 60; omega⟩ (hE _ hR))
  · have h9 := hf2 (by omega)
    refine zr_aload_n (pc := 1262) S dL_law_1262 rfl ?_
    refine zr_iconst (pc := 1263) S dL_law_1263 (by unfold zrI; omega) ?_
    refine zr_laload (pc := 1264) S dL_law_1264 rfl (Nat.le_of_ble_eq_true rfl) (by omega) (by omega) ?_
    dsimp only [Int.reduceToNat]
    refine zr_lload (pc := 1265) S dL_law_1265 rfl ?_
    refine zr_lcmp_eq (pc := 1267) (tgt := 1273) S dL_law_1267 dL_law_1268 (by decide) (fun c1267 => ?_) (fun c1267 => absurd c1267 (by omega))
    refine zr_goto (pc := 1273) (tgt := 2987) S dL_law_1273 (by decide) ?_
    exact zr_fg zfg8 (zr_wd ⟨by show _ ≤ b.1 + 10; omega, by show _ ≤ b.2 + 60; omega⟩ (hE _ hR))
theorem kL_law_209 : ∀ (s9 : State) (a9 : Array Value), (∀ w ∈ wzLaw, w.before a9 s9 = true) → vx_CSW room_1 s9 a9 RL 209 yL_move cL_move 6 (some .int) [(0, 19, 22, 19), (0, 19, 26, 13)] wzL_move rmL_move 3 18 5 := zcSW (zWi_18 _ (List.mem_of_getElem? (i := 48) rfl)) (zWi_30 _ (List.mem_of_getElem? (i := 32) rfl)) (zWi_12 _ (List.mem_of_getElem? (i := 8) rfl)) (zWi_6 _ (List.mem_of_getElem? (i := 28) rfl)) (by decide +kernel) rfl rfl ⟨Nat.le_of_ble_eq_true rfl, Nat.le_of_ble_eq_true rfl⟩
theorem kL_law_211 : ∀ (s9 : State) (a9 : Array Value), (∀ w ∈ wzLaw, w.before a9 s9 = true) → CallW room_1 s9 a9 RL RX12 211 yX12_move cX12_move 4 (some .boolean) wzX12_move rmX12_move 0 0 3 := zcV (zWi_19 _ (List.mem_of_getElem? (i := 0) rfl)) (zWi_14 _ (List.mem_of_getElem? (i := 44) rfl)) (zWi_27 _ (List.mem_of_getElem? (i := 35) rfl)) (zWi_12 _ (List.mem_of_getElem? (i := 13) rfl)) (zWi_3 _ (List.mem_of_getElem? (i := 26) rfl)) (by decide +kernel) rfl rfl ⟨Nat.le_of_ble_eq_true rfl, Nat.le_of_ble_eq_true rfl⟩
set_option maxRecDepth 20000 in
set_option maxHeartbeats 4000000 in
theorem ca_move {E : zE} {X : zX} {L : Nat} {xs : Nat → Int32} {M : zM} {b : Nat × Nat} {B p : Int} (S : zS (zg E) X cL_law 8 wzLaw RL (some .boolean)) (hs : zSc (zg E) X L xs) (hp0 : 0 ≤ p) (hp7 : p + 7 ≤ L) (hL : L ≤ 3584) (g : RR B M) (hB : B ≤ 12300) (hb : b.1 ≤ 100000 ∧ b.2 ≤ 1000000) (hE : ∀ M', RR (B + 24) M' → zK (zg E) room_1 8 (lawQ, 601024, 7293034) X (b.1 + 10, b.2 + 60) 2987 [some (zR 2000), some (zR 0), some (zR 180), some (zR 201), some (zI p), none, none, none] [] M') : zK (zg E) room_1 8 (lawQ, 601024, 7293034) X b 1276 [some (zR 2000), some (zR 0), some (zR 180), some (zR 201), some (zI p), none, none, none] [] M := by
  refine zr_aload_n (pc := 1276) S dL_law_1276 rfl ?_
  refine zr_aload_n (pc := 1277) S dL_law_1277 rfl ?_
  refine zr_iload (pc := 1278) S dL_law_1278 rfl ?_
  refine zr_iconst (pc := 1280) S dL_law_1280 (by unfold zrI; omega) ?_
  refine zr_iadd (pc := 1281) S dL_law_1281 (by unfold zrI; omega) ?_
  refine zr_sld (pc := 1282) S hs dL_law_1282 (by omega) (by omega) ?_
  refine zr_aload_n (pc := 1283) S dL_law_1283 rfl ?_
  refine zr_iload (pc := 1284) S dL_law_1284 rfl ?_
  refine zr_iconst (pc := 1286) S dL_law_1286 (by unfold zrI; omega) ?_
  refine zr_iadd (pc := 1287) S dL_law_1287 (by unfold zrI; omega) ?_
  refine zr_sld (pc := 1288) S hs dL_law_1288 (by omega) (by omega) ?_
  refine zr_aload_n (pc := 1289) S dL_law_1289 rfl ?_
  refine zr_iload (pc := 1290) S dL_law_1290 rfl ?_
  refine zr_iconst (pc := 1292) S dL_law_1292 (by unfold zrI; omega) ?_
  refine zr_iadd (pc := 1293) S dL_law_1293 (by unfold zrI; omega) ?_
  refine zr_sld (pc := 1294) S hs dL_law_1294 (by omega) (by omega) ?_
  refine zr_aload_n (pc := 1295) S dL_law_1295 rfl ?_
  refine zr_invSW (pc := 1296) S [zR _, zI _, zI _, zI _, zR _] (m_L_move _) kL_law_209 dL_law_1296 (Nat.le_of_ble_eq_true rfl) ⟨by show _ ≤ 601024; omega, by show _ ≤ 7293034; omega⟩ (⟨_, _, _, rfl, ?_⟩)
  suffices hc : ∀ (k : Int) (N : zM), sp_X12_move _ N (fin B k) → zaft (zg E) room_1 8 (lawQ, 601024, 7293034) X _ _ _ _ (some (zI k)) N from mo_X11_move (fun v N _ h => hpm hc h) (fun _ _ _ h => hpm hc h) (step_move g)
  intro k N hN
  dsimp only [zaft]
  refine zr_istore (pc := 1299) S dL_law_1299 (by decide) ?_
  dsimp only [zst1, zst2, zset, zget, zlong]
  refine zr_aload_n (pc := 1301) S dL_law_1301 rfl ?_
  refine zr_aload_n (pc := 1302) S dL_law_1302 rfl ?_
  refine zr_iload (pc := 1303) S dL_law_1303 rfl ?_
  refine zr_iconst (pc := 1305) S dL_law_1305 (by unfold zrI; omega) ?_
  refine zr_iadd (pc := 1306) S dL_law_1306 (by unfold zrI; omega) ?_
  refine zr_sld (pc := 1307) S hs dL_law_1307 (by omega) (by omega) ?_
  refine zr_aload_n (pc := 1308) S dL_law_1308 rfl ?_
  refine zr_iload (pc := 1309) S dL_law_1309 rfl ?_
  refine zr_iconst (pc := 1311) S dL_law_1311 (by unfold zrI; omega) ?_
  refine zr_iadd (pc := 1312) S dL_law_1312 (by unfold zrI; omega) ?_
  refine zr_sld (pc := 1313) S hs dL_law_1313 (by omega) (by omega) ?_
  refine zr_aload_n (pc := 1314) S dL_law_1314 rfl ?_
  refine zr_iload (pc := 1315) S dL_law_1315 rfl ?_
  refine zr_iconst (pc := 1317) S dL_law_1317 (by unfold zrI; omega) ?_
  refine zr_iadd (pc := 1318) S dL_law_1318 (by unfold zrI; omega) ?_
  refine zr_sld (pc := 1319) S hs dL_law_1319 (by omega) (by omega) ?_
  refine zr_invV (pc := 1320) S [zI _, zI _, zI _] (m_X12_move _) kL_law_211 dL_law_1320 rfl (Nat.le_of_ble_eq_true rfl) rfl (Nat.le_of_ble_eq_true rfl) ⟨by show _ ≤ 601024; omega, by show _ ≤ 7293034; omega⟩ (mo_X12_move (fun v P h01 hf => ?_) hN)
  dsimp only [zaft]
  obtain ⟨hf1, hf2, hR⟩ := hf
  refine zr_istore (pc := 1323) S dL_law_1323 (by decide) ?_
  dsimp only [zst1, zst2, zset, zget, zlong]
  refine zr_aload_n (pc := 1325) S dL_law_1325 rfl ?_
  refine zr_invV (pc := 1326) S [] (m_X12_thrown _) kL_law_155 dL_law_1326 rfl (Nat.le_of_ble_eq_true rfl) rfl (Nat.le_of_ble_eq_true rfl) ⟨by show _ ≤ 601024; omega, by show _ ≤ 7293034; omega⟩ (us_X12_thrown ?_)
  dsimp only [zaft]
  refine zr_iload (pc := 1329) S dL_law_1329 rfl ?_
  refine zr_icmp_eq (pc := 1331) (tgt := 1336) S dL_law_1331 (by decide) (fun c1331 => ?_) (fun c1331 => absurd c1331 (by omega))
  refine zr_iload (pc := 1336) S dL_law_1336 rfl ?_
  refine zr_if_ne (pc := 1338) (tgt := 1360) S dL_law_1338 (by decide) (fun c1338 => ?_) (fun c1338 => ?_)
  · refine zr_goto (pc := 1360) (tgt := 2987) S dL_law_1360 (by decide) ?_
    exact zr_fg zfg8 (zr_wd ⟨by show _ ≤ b.1 + 10; omega, by show _ ≤ b.2 + 60; omega⟩ (hE _ hR))
  · have h9 := hf2 (by omega)
    refine zr_aload_n (pc := 1341) S dL_law_1341 rfl ?_
    refine zr_iconst (pc := 1342) S dL_law_1342 (by unfold zrI; omega) ?_
    refine zr_laload (pc := 1343) S dL_law_1343 rfl (Nat.le_of_ble_eq_true rfl) (by omega) (by omega) ?_
    dsimp only [Int.reduceToNat]
    refine zr_iload (pc := 1344) S dL_law_1344 rfl ?_
    refine zr_if_eq (pc := 1346) (tgt := 1353) S dL_law_1346 (by decide) (fun c1346 => ?_) (fun c1346 => ?_)
    · refine zr_lconst0 (pc := 1353) S dL_law_1353 ?_
      refine zr_lcmp_eq (pc := 1354) (tgt := 1360) S dL_law_1354 dL_law_1355 (by decide) (fun c1354 => ?_) (fun c1354 => absurd c1354 (by omega))
      refine zr_goto (pc := 1360) (tgt := 2987) S dL_law_1360 (by decide) ?_
      exact zr_fg zfg8 (zr_wd ⟨by show _ ≤ b.1 + 10; omega, by show _ ≤ b.2 + 60; omega⟩ (hE _ hR))
    · refine zr_lconst1 (pc := 1349) S dL_law_1349 ?_
      refine zr_goto (pc := 1350) (tgt := 1354) S dL_law_1350 (by decide) ?_
      refine zr_lcmp_eq (pc := 1354) (tgt := 1360) S dL_law_1354 dL_law_1355 (by decide) (fun c1354 => ?_) (fun c1354 => absurd c1354 (by omega))
      refine zr_goto (pc := 1360) (tgt := 2987) S dL_law_1360 (by decide) ?_
      exact zr_fg zfg8 (zr_wd ⟨by show _ ≤ b.1 + 10; omega, by show _ ≤ b.2 + 60; omega⟩ (hE _ hR))
theorem kL_law_212 : ∀ (s9 : State) (a9 : Array Value), (∀ w ∈ wzLaw, w.before a9 s9 = true) → vx_CSW room_1 s9 a9 RL 212 yL_offer cL_offer 4 (some .int) [(0, 9, 12, 13)] wzL_offer rmL_offer 1 6 3 := zcSW (zWi_19 _ (List.mem_of_getElem? (i := 1) rfl)) (zWi_30 _ (List.mem_of_getElem? (i := 33) rfl)) (zWi_12 _ (List.mem_of_getElem? (i := 8) rfl)) (zWi_6 _ (List.mem_of_getElem? (i := 29) rfl)) (by decide +kernel) rfl rfl ⟨Nat.le_of_ble_eq_true rfl, Nat.le_of_ble_eq_true rfl⟩
theorem kL_law_214 : ∀ (s9 : State) (a9 : Array Value), (∀ w ∈ wzLaw, w.before a9 s9 = true) → CallW room_1 s9 a9 RL RX12 214 yX12_offer cX12_offer 2 (some .int) wzX12_offer rmX12_offer 0 0 1 := zcV (zWi_19 _ (List.mem_of_getElem? (i := 2) rfl)) (zWi_15 _ (List.mem_of_getElem? (i := 1) rfl)) (zWi_27 _ (List.mem_of_getElem? (i := 42) rfl)) (zWi_12 _ (List.mem_of_getElem? (i := 13) rfl)) (zWi_3 _ (List.mem_of_getElem? (i := 33) rfl)) (by decide +kernel) rfl rfl ⟨Nat.le_of_ble_eq_true rfl, Nat.le_of_ble_eq_true rfl⟩
set_option maxRecDepth 20000 in
set_option maxHeartbeats 4000000 in
theorem ca_offer {E : zE} {X : zX} {L : Nat} {xs : Nat → Int32} {M : zM} {b : Nat × Nat} {B p : Int} (S : zS (zg E) X cL_law 8 wzLaw RL (some .boolean)) (hs : zSc (zg E) X L xs) (hp0 : 0 ≤ p) (hp7 : p + 7 ≤ L) (hL : L ≤ 3584) (g : RR B M) (hB : B ≤ 12300) (hb : b.1 ≤ 100000 ∧ b.2 ≤ 1000000) (hE : ∀ M', RR (B + 24) M' → zK (zg E) room_1 8 (lawQ, 601024, 7293034) X (b.1 + 10, b.2 + 60) 2987 [some (zR 2000), some (zR 0), some (zR 180), some (zR 201), some (zI p), none, none, none] [] M') : zK (zg E) room_1 8 (lawQ, 601024, 7293034) X b 1363 [some (zR 2000), some (zR 0), some (zR 180), some (zR 201), some (zI p), none, none, none] [] M := by
  refine zr_aload_n (pc := 1363) S dL_law_1363 rfl ?_
  refine zr_aload_n (pc := 1364) S dL_law_1364 rfl ?_
  refine zr_iload (pc := 1365) S dL_law_1365 rfl ?_
  refine zr_iconst (pc := 1367) S dL_law_1367 (by unfold zrI; omega) ?_
  refine zr_iadd (pc := 1368) S dL_law_1368 (by unfold zrI; omega) ?_
  refine zr_sld (pc := 1369) S hs dL_law_1369 (by omega) (by omega) ?_
  refine zr_aload_n (pc := 1370) S dL_law_1370 rfl ?_
  refine zr_invSW (pc := 1371) S [zR _, zI _, zR _] (m_L_offer _) kL_law_212 dL_law_1371 (Nat.le_of_ble_eq_true rfl) ⟨by show _ ≤ 601024; omega, by show _ ≤ 7293034; omega⟩ (⟨_, rfl, ?_⟩)
  suffices hc : ∀ (k : Int) (N : zM), sp_X12_offer _ N (fin B k) → zaft (zg E) room_1 8 (lawQ, 601024, 7293034) X _ _ _ _ (some (zI k)) N from mo_X11_offer (fun v N h => hpm hc h) (fun _ _ _ h => hpm hc h) (step_offer g)
  intro k N hN
  dsimp only [zaft]
  refine zr_istore (pc := 1374) S dL_law_1374 (by decide) ?_
  dsimp only [zst1, zst2, zset, zget, zlong]
  refine zr_aload_n (pc := 1376) S dL_law_1376 rfl ?_
  refine zr_aload_n (pc := 1377) S dL_law_1377 rfl ?_
  refine zr_iload (pc := 1378) S dL_law_1378 rfl ?_
  refine zr_iconst (pc := 1380) S dL_law_1380 (by unfold zrI; omega) ?_
  refine zr_iadd (pc := 1381) S dL_law_1381 (by unfold zrI; omega) ?_
  refine zr_sld (pc := 1382) S hs dL_law_1382 (by omega) (by omega) ?_
  refine zr_invV (pc := 1383) S [zI _] (m_X12_offer _) kL_law_214 dL_law_1383 rfl (Nat.le_of_ble_eq_true rfl) rfl (Nat.le_of_ble_eq_true rfl) ⟨by show _ ≤ 601024; omega, by show _ ≤ 7293034; omega⟩ (mo_X12_offer (fun v P hf => ?_) hN)
  dsimp only [zaft]
  obtain ⟨hf1, hf2, hR⟩ := hf
  refine zr_istore (pc := 1386) S dL_law_1386 (by decide) ?_
  dsimp only [zst1, zst2, zset, zget, zlong]
  refine zr_aload_n (pc := 1388) S dL_law_1388 rfl ?_
  refine zr_invV (pc := 1389) S [] (m_X12_thrown _) kL_law_155 dL_law_1389 rfl (Nat.le_of_ble_eq_true rfl) rfl (Nat.le_of_ble_eq_true rfl) ⟨by show _ ≤ 601024; omega, by show _ ≤ 7293034; omega⟩ (us_X12_thrown ?_)
  dsimp only [zaft]
  refine zr_iload (pc := 1392) S dL_law_1392 rfl ?_
  refine zr_icmp_eq (pc := 1394) (tgt := 1399) S dL_law_1394 (by decide) (fun c1394 => ?_) (fun c1394 => absurd c1394 (by omega))
  refine zr_iload (pc := 1399) S dL_law_1399 rfl ?_
  refine zr_if_ne (pc := 1401) (tgt := 1416) S dL_law_1401 (by decide) (fun c1401 => ?_) (fun c1401 => ?_)
  · refine zr_goto (pc := 1416) (tgt := 2987) S dL_law_1416 (by decide) ?_
    exact zr_fg zfg8 (zr_wd ⟨by show _ ≤ b.1 + 10; omega, by show _ ≤ b.2 + 60; omega⟩ (hE _ hR))
  · have h9 := hf2 (by omega)
    refine zr_aload_n (pc := 1404) S dL_law_1404 rfl ?_
    refine zr_iconst (pc := 1405) S dL_law_1405 (by unfold zrI; omega) ?_
    refine zr_laload (pc := 1406) S dL_law_1406 rfl (Nat.le_of_ble_eq_true rfl) (by omega) (by omega) ?_
    dsimp only [Int.reduceToNat]
    refine zr_iload (pc := 1407) S dL_law_1407 rfl ?_
    refine zr_i2l (pc := 1409) S dL_law_1409 ?_
    refine zr_lcmp_eq (pc := 1410) (tgt := 1416) S dL_law_1410 dL_law_1411 (by decide) (fun c1410 => ?_) (fun c1410 => absurd c1410 (by omega))
    refine zr_goto (pc := 1416) (tgt := 2987) S dL_law_1416 (by decide) ?_
    exact zr_fg zfg8 (zr_wd ⟨by show _ ≤ b.1 + 10; omega, by show _ ≤ b.2 + 60; omega⟩ (hE _ hR))
theorem kL_law_215 : ∀ (s9 : State) (a9 : Array Value), (∀ w ∈ wzLaw, w.before a9 s9 = true) → vx_CSW room_1 s9 a9 RL 215 yL_price cL_price 5 (some .int) [(0, 10, 13, 19), (0, 10, 17, 13)] wzL_price rmL_price 2 12 4 := zcSW (zWi_19 _ (List.mem_of_getElem? (i := 3) rfl)) (zWi_30 _ (List.mem_of_getElem? (i := 36) rfl)) (zWi_12 _ (List.mem_of_getElem? (i := 8) rfl)) (zWi_6 _ (List.mem_of_getElem? (i := 32) rfl)) (by decide +kernel) rfl rfl ⟨Nat.le_of_ble_eq_true rfl, Nat.le_of_ble_eq_true rfl⟩
theorem kL_law_217 : ∀ (s9 : State) (a9 : Array Value), (∀ w ∈ wzLaw, w.before a9 s9 = true) → CallW room_1 s9 a9 RL RX12 217 yX12_price cX12_price 3 (some .int) wzX12_price rmX12_price 0 0 2 := zcV (zWi_19 _ (List.mem_of_getElem? (i := 4) rfl)) (zWi_15 _ (List.mem_of_getElem? (i := 5) rfl)) (zWi_27 _ (List.mem_of_getElem? (i := 46) rfl)) (zWi_12 _ (List.mem_of_getElem? (i := 13) rfl)) (zWi_3 _ (List.mem_of_getElem? (i := 37) rfl)) (by decide +kernel) rfl rfl ⟨Nat.le_of_ble_eq_true rfl, Nat.le_of_ble_eq_true rfl⟩
set_option maxRecDepth 20000 in
set_option maxHeartbeats 4000000 in
theorem ca_price {E : zE} {X : zX} {L : Nat} {xs : Nat → Int32} {M : zM} {b : Nat × Nat} {B p : Int} (S : zS (zg E) X cL_law 8 wzLaw RL (some .boolean)) (hs : zSc (zg E) X L xs) (hp0 : 0 ≤ p) (hp7 : p + 7 ≤ L) (hL : L ≤ 3584) (g : RR B M) (hB : B ≤ 12300) (hb : b.1 ≤ 100000 ∧ b.2 ≤ 1000000) (hE : ∀ M', RR (B + 24) M' → zK (zg E) room_1 8 (lawQ, 601024, 7293034) X (b.1 + 10, b.2 + 60) 2987 [some (zR 2000), some (zR 0), some (zR 180), some (zR 201), some (zI p), none, none, none] [] M') : zK (zg E) room_1 8 (lawQ, 601024, 7293034) X b 1419 [some (zR 2000), some (zR 0), some (zR 180), some (zR 201), some (zI p), none, none, none] [] M := by
  refine zr_aload_n (pc := 1419) S dL_law_1419 rfl ?_
  refine zr_aload_n (pc := 1420) S dL_law_1420 rfl ?_
  refine zr_iload (pc := 1421) S dL_law_1421 rfl ?_
  refine zr_iconst (pc := 1423) S dL_law_1423 (by unfold zrI; omega) ?_
  refine zr_iadd (pc := 1424) S dL_law_1424 (by unfold zrI; omega) ?_
  refine zr_sld (pc := 1425) S hs dL_law_1425 (by omega) (by omega) ?_
  refine zr_aload_n (pc := 1426) S dL_law_1426 rfl ?_
  refine zr_iload (pc := 1427) S dL_law_1427 rfl ?_
  refine zr_iconst (pc := 1429) S dL_law_1429 (by unfold zrI; omega) ?_
  refine zr_iadd (pc := 1430) S dL_law_1430 (by unfold zrI; omega) ?_
  refine zr_sld (pc := 1431) S hs dL_law_1431 (by omega) (by omega) ?_
  refine zr_aload_n (pc := 1432) S dL_law_1432 rfl ?_
  refine zr_invSW (pc := 1433) S [zR _, zI _, zI _, zR _] (m_L_price _) kL_law_215 dL_law_1433 (Nat.le_of_ble_eq_true rfl) ⟨by show _ ≤ 601024; omega, by show _ ≤ 7293034; omega⟩ (⟨_, _, rfl, ?_⟩)
  suffices hc : ∀ (k : Int) (N : zM), sp_X12_price _ N (fin B k) → zaft (zg E) room_1 8 (lawQ, 601024, 7293034) X _ _ _ _ (some (zI k)) N from mo_X11_price (fun v N h => hpm hc h) (fun _ _ _ h => hpm hc h) (step_price g)
  intro k N hN
  dsimp only [zaft]
  refine zr_istore (pc := 1436) S dL_law_1436 (by decide) ?_
  dsimp only [zst1, zst2, zset, zget, zlong]
  refine zr_aload_n (pc := 1438) S dL_law_1438 rfl ?_
  refine zr_aload_n (pc := 1439) S dL_law_1439 rfl ?_
  refine zr_iload (pc := 1440) S dL_law_1440 rfl ?_
  refine zr_iconst (pc := 1442) S dL_law_1442 (by unfold zrI; omega) ?_
  refine zr_iadd (pc := 1443) S dL_law_1443 (by unfold zrI; omega) ?_
  refine zr_sld (pc := 1444) S hs dL_law_1444 (by omega) (by omega) ?_
  refine zr_aload_n (pc := 1445) S dL_law_1445 rfl ?_
  refine zr_iload (pc := 1446) S dL_law_1446 rfl ?_
  refine zr_iconst (pc := 1448) S dL_law_1448 (by unfold zrI; omega) ?_
  refine zr_iadd (pc := 1449) S dL_law_1449 (by unfold zrI; omega) ?_
  refine zr_sld (pc := 1450) S hs dL_law_1450 (by omega) (by omega) ?_
  refine zr_invV (pc := 1451) S [zI _, zI _] (m_X12_price _) kL_law_217 dL_law_1451 rfl (Nat.le_of_ble_eq_true rfl) rfl (Nat.le_of_ble_eq_true rfl) ⟨by show _ ≤ 601024; omega, by show _ ≤ 7293034; omega⟩ (mo_X12_price (fun v P hf => ?_) hN)
  dsimp only [zaft]
  obtain ⟨hf1, hf2, hR⟩ := hf
  refine zr_istore (pc := 1454) S dL_law_1454 (by decide) ?_
  dsimp only [zst1, zst2, zset, zget, zlong]
  refine zr_aload_n (pc := 1456) S dL_law_1456 rfl ?_
  refine zr_invV (pc := 1457) S [] (m_X12_thrown _) kL_law_155 dL_law_1457 rfl (Nat.le_of_ble_eq_true rfl) rfl (Nat.le_of_ble_eq_true rfl) ⟨by show _ ≤ 601024; omega, by show _ ≤ 7293034; omega⟩ (us_X12_thrown ?_)
  dsimp only [zaft]
  refine zr_iload (pc := 1460) S dL_law_1460 rfl ?_
  refine zr_icmp_eq (pc := 1462) (tgt := 1467) S dL_law_1462 (by decide) (fun c1462 => ?_) (fun c1462 => absurd c1462 (by omega))
  refine zr_iload (pc := 1467) S dL_law_1467 rfl ?_
  refine zr_if_ne (pc := 1469) (tgt := 1484) S dL_law_1469 (by decide) (fun c1469 => ?_) (fun c1469 => ?_)
  · refine zr_goto (pc := 1484) (tgt := 2987) S dL_law_1484 (by decide) ?_
    exact zr_fg zfg8 (zr_wd ⟨by show _ ≤ b.1 + 10; omega, by show _ ≤ b.2 + 60; omega⟩ (hE _ hR))
  · have h9 := hf2 (by omega)
    refine zr_aload_n (pc := 1472) S dL_law_1472 rfl ?_
    refine zr_iconst (pc := 1473) S dL_law_1473 (by unfold zrI; omega) ?_
    refine zr_laload (pc := 1474) S dL_law_1474 rfl (Nat.le_of_ble_eq_true rfl) (by omega) (by omega) ?_
    dsimp only [Int.reduceToNat]
    refine zr_iload (pc := 1475) S dL_law_1475 rfl ?_
    refine zr_i2l (pc := 1477) S dL_law_1477 ?_
    refine zr_lcmp_eq (pc := 1478) (tgt := 1484) S dL_law_1478 dL_law_1479 (by decide) (fun c1478 => ?_) (fun c1478 => absurd c1478 (by omega))
    refine zr_goto (pc := 1484) (tgt := 2987) S dL_law_1484 (by decide) ?_
    exact zr_fg zfg8 (zr_wd ⟨by show _ ≤ b.1 + 10; omega, by show _ ≤ b.2 + 60; omega⟩ (hE _ hR))
theorem kL_law_218 : ∀ (s9 : State) (a9 : Array Value), (∀ w ∈ wzLaw, w.before a9 s9 = true) → vx_CSW room_1 s9 a9 RL 218 yL_load cL_load 6 (some .int) [(0, 12, 15, 19), (0, 12, 19, 13)] wzL_load rmL_load 3 18 5 := zcSW (zWi_19 _ (List.mem_of_getElem? (i := 5) rfl)) (zWi_30 _ (List.mem_of_getElem? (i := 27) rfl)) (zWi_12 _ (List.mem_of_getElem? (i := 8) rfl)) (zWi_6 _ (List.mem_of_getElem? (i := 23) rfl)) (by decide +kernel) rfl rfl ⟨Nat.le_of_ble_eq_true rfl, Nat.le_of_ble_eq_true rfl⟩
theorem kL_law_220 : ∀ (s9 : State) (a9 : Array Value), (∀ w ∈ wzLaw, w.before a9 s9 = true) → CallW room_1 s9 a9 RL RX12 220 yX12_load cX12_load 5 (some .int) wzX12_load rmX12_load 0 0 3 := zcV (zWi_19 _ (List.mem_of_getElem? (i := 6) rfl)) (zWi_14 _ (List.mem_of_getElem? (i := 35) rfl)) (zWi_27 _ (List.mem_of_getElem? (i := 26) rfl)) (zWi_12 _ (List.mem_of_getElem? (i := 13) rfl)) (zWi_3 _ (List.mem_of_getElem? (i := 17) rfl)) (by decide +kernel) rfl rfl ⟨Nat.le_of_ble_eq_true rfl, Nat.le_of_ble_eq_true rfl⟩
set_option maxRecDepth 20000 in
set_option maxHeartbeats 4000000 in
theorem ca_load {E : zE} {X : zX} {L : Nat} {xs : Nat → Int32} {M : zM} {b : Nat × Nat} {B p : Int} (S : zS (zg E) X cL_law 8 wzLaw RL (some .boolean)) (hs : zSc (zg E) X L xs) (hp0 : 0 ≤ p) (hp7 : p + 7 ≤ L) (hL : L ≤ 3584) (g : RR B M) (hB : B ≤ 12300) (hb : b.1 ≤ 100000 ∧ b.2 ≤ 1000000) (hE : ∀ M', RR (B + 24) M' → zK (zg E) room_1 8 (lawQ, 601024, 7293034) X (b.1 + 10, b.2 + 60) 2987 [some (zR 2000), some (zR 0), some (zR 180), some (zR 201), some (zI p), none, none, none] [] M') : zK (zg E) room_1 8 (lawQ, 601024, 7293034) X b 1487 [some (zR 2000), some (zR 0), some (zR 180), some (zR 201), some (zI p), none, none, none] [] M := by
  refine zr_aload_n (pc := 1487) S dL_law_1487 rfl ?_
  refine zr_aload_n (pc := 1488) S dL_law_1488 rfl ?_
  refine zr_iload (pc := 1489) S dL_law_1489 rfl ?_
  refine zr_iconst (pc := 1491) S dL_law_1491 (by unfold zrI; omega) ?_
  refine zr_iadd (pc := 1492) S dL_law_1492 (by unfold zrI; omega) ?_
  refine zr_sld (pc := 1493) S hs dL_law_1493 (by omega) (by omega) ?_
  refine zr_aload_n (pc := 1494) S dL_law_1494 rfl ?_
  refine zr_iload (pc := 1495) S dL_law_1495 rfl ?_
  refine zr_iconst (pc := 1497) S dL_law_1497 (by unfold zrI; omega) ?_
  refine zr_iadd (pc := 1498) S dL_law_1498 (by unfold zrI; omega) ?_
  refine zr_sld (pc := 1499) S hs dL_law_1499 (by omega) (by omega) ?_
  refine zr_aload_n (pc := 1500) S dL_law_1500 rfl ?_
  refine zr_iload (pc := 1501) S dL_law_1501 rfl ?_
  refine zr_iconst (pc := 1503) S dL_law_1503 (by unfold zrI; omega) ?_
  refine zr_iadd (pc := 1504) S dL_law_1504 (by unfold zrI; omega) ?_
  refine zr_sld (pc := 1505) S hs dL_law_1505 (by omega) (by omega) ?_
  refine zr_aload_n (pc := 1506) S dL_law_1506 rfl ?_
  refine zr_invSW (pc := 1507) S [zR _, zI _, zI _, zI _, zR _] (m_L_load _) kL_law_218 dL_law_1507 (Nat.le_of_ble_eq_true rfl) ⟨by show _ ≤ 601024; omega, by show _ ≤ 7293034; omega⟩ (⟨_, _, _, rfl, ?_⟩)
  suffices hc : ∀ (k : Int) (N : zM), sp_X12_load _ N (fin B k) → zaft (zg E) room_1 8 (lawQ, 601024, 7293034) X _ _ _ _ (some (zI k)) N from mo_X11_load (fun v N h => hpm hc h) (fun _ _ _ h => hpm hc h) (step_load g hB)
  intro k N hN
  dsimp only [zaft]
  refine zr_istore (pc := 1510) S dL_law_1510 (by decide) ?_
  dsimp only [zst1, zst2, zset, zget, zlong]
  refine zr_aload_n (pc := 1512) S dL_law_1512 rfl ?_
  refine zr_aload_n (pc := 1513) S dL_law_1513 rfl ?_
  refine zr_iload (pc := 1514) S dL_law_1514 rfl ?_
  refine zr_iconst (pc := 1516) S dL_law_1516 (by unfold zrI; omega) ?_
  refine zr_iadd (pc := 1517) S dL_law_1517 (by unfold zrI; omega) ?_
  refine zr_sld (pc := 1518) S hs dL_law_1518 (by omega) (by omega) ?_
  refine zr_aload_n (pc := 1519) S dL_law_1519 rfl ?_
  refine zr_iload (pc := 1520) S dL_law_1520 rfl ?_
  refine zr_iconst (pc := 1522) S dL_law_1522 (by unfold zrI; omega) ?_
  refine zr_iadd (pc := 1523) S dL_law_1523 (by unfold zrI; omega) ?_
  refine zr_sld (pc := 1524) S hs dL_law_1524 (by omega) (by omega) ?_
  refine zr_aload_n (pc := 1525) S dL_law_1525 rfl ?_
  refine zr_iload (pc := 1526) S dL_law_1526 rfl ?_
  refine zr_iconst (pc := 1528) S dL_law_1528 (by unfold zrI; omega) ?_
  refine zr_iadd (pc := 1529) S dL_law_1529 (by unfold zrI; omega) ?_
  refine zr_sld (pc := 1530) S hs dL_law_1530 (by omega) (by omega) ?_
  refine zr_invV (pc := 1531) S [zI _, zI _, zI _] (m_X12_load _) kL_law_220 dL_law_1531 rfl (Nat.le_of_ble_eq_true rfl) rfl (Nat.le_of_ble_eq_true rfl) ⟨by show _ ≤ 601024; omega, by show _ ≤ 7293034; omega⟩ (mo_X12_load (fun v P hf => ?_) hN)
  dsimp only [zaft]
  obtain ⟨hf1, hf2, hR⟩ := hf
  refine zr_istore (pc := 1534) S dL_law_1534 (by decide) ?_
  dsimp only [zst1, zst2, zset, zget, zlong]
  refine zr_aload_n (pc := 1536) S dL_law_1536 rfl ?_
  refine zr_invV (pc := 1537) S [] (m_X12_thrown _) kL_law_155 dL_law_1537 rfl (Nat.le_of_ble_eq_true rfl) rfl (Nat.le_of_ble_eq_true rfl) ⟨by show _ ≤ 601024; omega, by show _ ≤ 7293034; omega⟩ (us_X12_thrown ?_)
  dsimp only [zaft]
  refine zr_iload (pc := 1540) S dL_law_1540 rfl ?_
  refine zr_icmp_eq (pc := 1542) (tgt := 1547) S dL_law_1542 (by decide) (fun c1542 => ?_) (fun c1542 => absurd c1542 (by omega))
  refine zr_iload (pc := 1547) S dL_law_1547 rfl ?_
  refine zr_if_ne (pc := 1549) (tgt := 1564) S dL_law_1549 (by decide) (fun c1549 => ?_) (fun c1549 => ?_)
  · refine zr_goto (pc := 1564) (tgt := 2987) S dL_law_1564 (by decide) ?_
    exact zr_fg zfg8 (zr_wd ⟨by show _ ≤ b.1 + 10; omega, by show _ ≤ b.2 + 60; omega⟩ (hE _ hR))
  · have h9 := hf2 (by omega)
    refine zr_aload_n (pc := 1552) S dL_law_1552 rfl ?_
    refine zr_iconst (pc := 1553) S dL_law_1553 (by unfold zrI; omega) ?_
    refine zr_laload (pc := 1554) S dL_law_1554 rfl (Nat.le_of_ble_eq_true rfl) (by omega) (by omega) ?_
    dsimp only [Int.reduceToNat]
    refine zr_iload (pc := 1555) S dL_law_1555 rfl ?_
    refine zr_i2l (pc := 1557) S dL_law_1557 ?_
    refine zr_lcmp_eq (pc := 1558) (tgt := 1564) S dL_law_1558 dL_law_1559 (by decide) (fun c1558 => ?_) (fun c1558 => absurd c1558 (by omega))
    refine zr_goto (pc := 1564) (tgt := 2987) S dL_law_1564 (by decide) ?_
    exact zr_fg zfg8 (zr_wd ⟨by show _ ≤ b.1 + 10; omega, by show _ ≤ b.2 + 60; omega⟩ (hE _ hR))
theorem kL_law_221 : ∀ (s9 : State) (a9 : Array Value), (∀ w ∈ wzLaw, w.before a9 s9 = true) → vx_CSW room_1 s9 a9 RL 221 yL_put cL_put 8 (some .int) [(0, 16, 19, 19), (0, 16, 23, 13)] wzL_put rmL_put 3 18 7 := zcSW (zWi_19 _ (List.mem_of_getElem? (i := 7) rfl)) (zWi_30 _ (List.mem_of_getElem? (i := 37) rfl)) (zWi_12 _ (List.mem_of_getElem? (i := 8) rfl)) (zWi_6 _ (List.mem_of_getElem? (i := 33) rfl)) (by decide +kernel) rfl rfl ⟨Nat.le_of_ble_eq_true rfl, Nat.le_of_ble_eq_true rfl⟩
theorem kL_law_224 : ∀ (s9 : State) (a9 : Array Value), (∀ w ∈ wzLaw, w.before a9 s9 = true) → CallW room_1 s9 a9 RL RX12 224 yX12_put cX12_put 8 (some .int) wzX12_put rmX12_put 0 0 5 := zcV (zWi_19 _ (List.mem_of_getElem? (i := 8) rfl)) (zWi_15 _ (List.mem_of_getElem? (i := 6) rfl)) (zWi_27 _ (List.mem_of_getElem? (i := 47) rfl)) (zWi_12 _ (List.mem_of_getElem? (i := 13) rfl)) (zWi_3 _ (List.mem_of_getElem? (i := 38) rfl)) (by decide +kernel) rfl rfl ⟨Nat.le_of_ble_eq_true rfl, Nat.le_of_ble_eq_true rfl⟩
set_option maxRecDepth 20000 in
set_option maxHeartbeats 4000000 in
theorem ca_put {E : zE} {X : zX} {L : Nat} {xs : Nat → Int32} {M : zM} {b : Nat × Nat} {B p : Int} (S : zS (zg E) X cL_law 8 wzLaw RL (some .boolean)) (hs : zSc (zg E) X L xs) (hp0 : 0 ≤ p) (hp7 : p + 7 ≤ L) (hL : L ≤ 3584) (g : RR B M) (hB : B ≤ 12300) (hb : b.1 ≤ 100000 ∧ b.2 ≤ 1000000) (hE : ∀ M', RR (B + 24) M' → zK (zg E) room_1 8 (lawQ, 601024, 7293034) X (b.1 + 10, b.2 + 60) 2987 [some (zR 2000), some (zR 0), some (zR 180), some (zR 201), some (zI p), none, none, none] [] M') : zK (zg E) room_1 8 (lawQ, 601024, 7293034) X b 1567 [some (zR 2000), some (zR 0), some (zR 180), some (zR 201), some (zI p), none, none, none] [] M := by
  refine zr_aload_n (pc := 1567) S dL_law_1567 rfl ?_
  refine zr_aload_n (pc := 1568) S dL_law_1568 rfl ?_
  refine zr_iload (pc := 1569) S dL_law_1569 rfl ?_
  refine zr_iconst (pc := 1571) S dL_law_1571 (by unfold zrI; omega) ?_
  refine zr_iadd (pc := 1572) S dL_law_1572 (by unfold zrI; omega) ?_
  refine zr_sld (pc := 1573) S hs dL_law_1573 (by omega) (by omega) ?_
  refine zr_aload_n (pc := 1574) S dL_law_1574 rfl ?_
  refine zr_iload (pc := 1575) S dL_law_1575 rfl ?_
  refine zr_iconst (pc := 1577) S dL_law_1577 (by unfold zrI; omega) ?_
  refine zr_iadd (pc := 1578) S dL_law_1578 (by unfold zrI; omega) ?_
  refine zr_sld (pc := 1579) S hs dL_law_1579 (by omega) (by omega) ?_
  refine zr_aload_n (pc := 1580) S dL_law_1580 rfl ?_
  refine zr_iload (pc := 1581) S dL_law_1581 rfl ?_
  refine zr_iconst (pc := 1583) S dL_law_1583 (by unfold zrI; omega) ?_
  refine zr_iadd (pc := 1584) S dL_law_1584 (by unfold zrI; omega) ?_
  refine zr_sld (pc := 1585) S hs dL_law_1585 (by omega) (by omega) ?_
  refine zr_aload_n (pc := 1586) S dL_law_1586 rfl ?_
  refine zr_iload (pc := 1587) S dL_law_1587 rfl ?_
  refine zr_iconst (pc := 1589) S dL_law_1589 (by unfold zrI; omega) ?_
  refine zr_iadd (pc := 1590) S dL_law_1590 (by unfold zrI; omega) ?_
  refine zr_sld (pc := 1591) S hs dL_law_1591 (by omega) (by omega) ?_
  refine zr_aload_n (pc := 1592) S dL_law_1592 rfl ?_
  refine zr_iload (pc := 1593) S dL_law_1593 rfl ?_
  refine zr_iconst (pc := 1595) S dL_law_1595 (by unfold zrI; omega) ?_
  refine zr_iadd (pc := 1596) S dL_law_1596 (by unfold zrI; omega) ?_
  refine zr_sld (pc := 1597) S hs dL_law_1597 (by omega) (by omega) ?_
  refine zr_aload_n (pc := 1598) S dL_law_1598 rfl ?_
  refine zr_invSW (pc := 1599) S [zR _, zI _, zI _, zI _, zI _, zI _, zR _] (m_L_put _) kL_law_221 dL_law_1599 (Nat.le_of_ble_eq_true rfl) ⟨by show _ ≤ 601024; omega, by show _ ≤ 7293034; omega⟩ (⟨_, _, _, _, _, rfl, ?_⟩)
  suffices hc : ∀ (k : Int) (N : zM), sp_X12_put _ N (fin B k) → zaft (zg E) room_1 8 (lawQ, 601024, 7293034) X _ _ _ _ (some (zI k)) N from mo_X11_put (fun v N h => hpm hc h) (fun _ _ _ h => hpm hc h) (step_put g hB (takes_g M))
  intro k N hN
  dsimp only [zaft]
  refine zr_istore (pc := 1602) S dL_law_1602 (by decide) ?_
  dsimp only [zst1, zst2, zset, zget, zlong]
  refine zr_aload_n (pc := 1604) S dL_law_1604 rfl ?_
  refine zr_aload_n (pc := 1605) S dL_law_1605 rfl ?_
  refine zr_iload (pc := 1606) S dL_law_1606 rfl ?_
  refine zr_iconst (pc := 1608) S dL_law_1608 (by unfold zrI; omega) ?_
  refine zr_iadd (pc := 1609) S dL_law_1609 (by unfold zrI; omega) ?_
  refine zr_sld (pc := 1610) S hs dL_law_1610 (by omega) (by omega) ?_
  refine zr_aload_n (pc := 1611) S dL_law_1611 rfl ?_
  refine zr_iload (pc := 1612) S dL_law_1612 rfl ?_
  refine zr_iconst (pc := 1614) S dL_law_1614 (by unfold zrI; omega) ?_
  refine zr_iadd (pc := 1615) S dL_law_1615 (by unfold zrI; omega) ?_
  refine zr_sld (pc := 1616) S hs dL_law_1616 (by omega) (by omega) ?_
  refine zr_aload_n (pc := 1617) S dL_law_1617 rfl ?_
  refine zr_iload (pc := 1618) S dL_law_1618 rfl ?_
  refine zr_iconst (pc := 1620) S dL_law_1620 (by unfold zrI; omega) ?_
  refine zr_iadd (pc := 1621) S dL_law_1621 (by unfold zrI; omega) ?_
  refine zr_sld (pc := 1622) S hs dL_law_1622 (by omega) (by omega) ?_
  refine zr_aload_n (pc := 1623) S dL_law_1623 rfl ?_
  refine zr_iload (pc := 1624) S dL_law_1624 rfl ?_
  refine zr_iconst (pc := 1626) S dL_law_1626 (by unfold zrI; omega) ?_
  refine zr_iadd (pc := 1627) S dL_law_1627 (by unfold zrI; omega) ?_
  refine zr_sld (pc := 1628) S hs dL_law_1628 (by omega) (by omega) ?_
  refine zr_aload_n (pc := 1629) S dL_law_1629 rfl ?_
  refine zr_iload (pc := 1630) S dL_law_1630 rfl ?_
  refine zr_iconst (pc := 1632) S dL_law_1632 (by unfold zrI; omega) ?_
  refine zr_iadd (pc := 1633) S dL_law_1633 (by unfold zrI; omega) ?_
  refine zr_sld (pc := 1634) S hs dL_law_1634 (by omega) (by omega) ?_
  refine zr_invV (pc := 1635) S [zI _, zI _, zI _, zI _, zI _] (m_X12_put _) kL_law_224 dL_law_1635 rfl (Nat.le_of_ble_eq_true rfl) rfl (Nat.le_of_ble_eq_true rfl) ⟨by show _ ≤ 601024; omega, by show _ ≤ 7293034; omega⟩ (mo_X12_put (fun v P hf => ?_) hN)
  dsimp only [zaft]
  obtain ⟨hf1, hf2, hR⟩ := hf
  refine zr_istore (pc := 1638) S dL_law_1638 (by decide) ?_
  dsimp only [zst1, zst2, zset, zget, zlong]
  refine zr_aload_n (pc := 1640) S dL_law_1640 rfl ?_
  refine zr_invV (pc := 1641) S [] (m_X12_thrown _) kL_law_155 dL_law_1641 rfl (Nat.le_of_ble_eq_true rfl) rfl (Nat.le_of_ble_eq_true rfl) ⟨by show _ ≤ 601024; omega, by show _ ≤ 7293034; omega⟩ (us_X12_thrown ?_)
  dsimp only [zaft]
  refine zr_iload (pc := 1644) S dL_law_1644 rfl ?_
  refine zr_icmp_eq (pc := 1646) (tgt := 1651) S dL_law_1646 (by decide) (fun c1646 => ?_) (fun c1646 => absurd c1646 (by omega))
  refine zr_iload (pc := 1651) S dL_law_1651 rfl ?_
  refine zr_if_ne (pc := 1653) (tgt := 1668) S dL_law_1653 (by decide) (fun c1653 => ?_) (fun c1653 => ?_)
  · refine zr_goto (pc := 1668) (tgt := 2987) S dL_law_1668 (by decide) ?_
    exact zr_fg zfg8 (zr_wd ⟨by show _ ≤ b.1 + 10; omega, by show _ ≤ b.2 + 60; omega⟩ (hE _ hR))
  · have h9 := hf2 (by omega)
    refine zr_aload_n (pc := 1656) S dL_law_1656 rfl ?_
    refine zr_iconst (pc := 1657) S dL_law_1657 (by unfold zrI; omega) ?_
    refine zr_laload (pc := 1658) S dL_law_1658 rfl (Nat.le_of_ble_eq_true rfl) (by omega) (by omega) ?_
    dsimp only [Int.reduceToNat]
    refine zr_iload (pc := 1659) S dL_law_1659 rfl ?_
    refine zr_i2l (pc := 1661) S dL_law_1661 ?_
    refine zr_lcmp_eq (pc := 1662) (tgt := 1668) S dL_law_1662 dL_law_1663 (by decide) (fun c1662 => ?_) (fun c1662 => absurd c1662 (by omega))
    refine zr_goto (pc := 1668) (tgt := 2987) S dL_law_1668 (by decide) ?_
    exact zr_fg zfg8 (zr_wd ⟨by show _ ≤ b.1 + 10; omega, by show _ ≤ b.2 + 60; omega⟩ (hE _ hR))
theorem kL_law_225 : ∀ (s9 : State) (a9 : Array Value), (∀ w ∈ wzLaw, w.before a9 s9 = true) → CallW room_1 s9 a9 RL RX11 225 yX11_credit cX11_credit 1 (some .int) wzX11_credit rmX11_credit 0 0 0 := zcV (zWi_19 _ (List.mem_of_getElem? (i := 9) rfl)) (zWi_12 _ (List.mem_of_getElem? (i := 47) rfl)) (zWi_25 _ (List.mem_of_getElem? (i := 40) rfl)) (zWi_12 _ (List.mem_of_getElem? (i := 12) rfl)) (zWi_1 _ (List.mem_of_getElem? (i := 22) rfl)) (by decide +kernel) rfl rfl ⟨Nat.le_of_ble_eq_true rfl, Nat.le_of_ble_eq_true rfl⟩
theorem kL_law_228 : ∀ (s9 : State) (a9 : Array Value), (∀ w ∈ wzLaw, w.before a9 s9 = true) → CallW room_1 s9 a9 RL RX12 228 yX12_credit cX12_credit 1 (some .int) wzX12_credit rmX12_credit 0 0 0 := zcV (zWi_19 _ (List.mem_of_getElem? (i := 10) rfl)) (zWi_14 _ (List.mem_of_getElem? (i := 3) rfl)) (zWi_26 _ (List.mem_of_getElem? (i := 45) rfl)) (zWi_12 _ (List.mem_of_getElem? (i := 13) rfl)) (zWi_2 _ (List.mem_of_getElem? (i := 32) rfl)) (by decide +kernel) rfl rfl ⟨Nat.le_of_ble_eq_true rfl, Nat.le_of_ble_eq_true rfl⟩
set_option maxRecDepth 20000 in
set_option maxHeartbeats 4000000 in
theorem ca_credit {E : zE} {X : zX} {L : Nat} {xs : Nat → Int32} {M : zM} {b : Nat × Nat} {B p : Int} (S : zS (zg E) X cL_law 8 wzLaw RL (some .boolean)) (hs : zSc (zg E) X L xs) (hp0 : 0 ≤ p) (hp7 : p + 7 ≤ L) (hL : L ≤ 3584) (g : RR B M) (hB : B ≤ 12300) (hb : b.1 ≤ 100000 ∧ b.2 ≤ 1000000) (hE : ∀ M', RR (B + 24) M' → zK (zg E) room_1 8 (lawQ, 601024, 7293034) X (b.1 + 10, b.2 + 60) 2987 [some (zR 2000), some (zR 0), some (zR 180), some (zR 201), some (zI p), none, none, none] [] M') : zK (zg E) room_1 8 (lawQ, 601024, 7293034) X b 1671 [some (zR 2000), some (zR 0), some (zR 180), some (zR 201), some (zI p), none, none, none] [] M := by
  refine zr_aload_n (pc := 1671) S dL_law_1671 rfl ?_
  refine zr_invV (pc := 1672) S [] (m_X11_credit _) kL_law_225 dL_law_1672 rfl (Nat.le_of_ble_eq_true rfl) rfl (Nat.le_of_ble_eq_true rfl) ⟨by show _ ≤ 601024; omega, by show _ ≤ 7293034; omega⟩ (mo_X11_credit (fun v N hN => ?_) (step_credit g))
  dsimp only [zaft]
  refine zr_aload_n (pc := 1675) S dL_law_1675 rfl ?_
  refine zr_invV (pc := 1676) S [] (m_X12_credit _) kL_law_228 dL_law_1676 rfl (Nat.le_of_ble_eq_true rfl) rfl (Nat.le_of_ble_eq_true rfl) ⟨by show _ ≤ 601024; omega, by show _ ≤ 7293034; omega⟩ (mo_X12_credit (fun w P hf => ?_) hN)
  dsimp only [zaft]
  obtain ⟨⟨u9, e1, e2⟩, hR⟩ := hf
  cases e1
  cases e2
  refine zr_icmp_eq (pc := 1679) (tgt := 2987) S dL_law_1679 (by decide) (fun c1679 => ?_) (fun c1679 => absurd c1679 (by omega))
  exact zr_fg zfg8 (zr_wd ⟨by show _ ≤ b.1 + 10; omega, by show _ ≤ b.2 + 60; omega⟩ (hE _ hR))
theorem kL_law_229 : ∀ (s9 : State) (a9 : Array Value), (∀ w ∈ wzLaw, w.before a9 s9 = true) → vx_CSW room_1 s9 a9 RL 229 yL_sale cL_sale 4 (some .int) [(0, 9, 12, 19)] wzL_sale rmL_sale 1 6 3 := zcSW (zWi_19 _ (List.mem_of_getElem? (i := 11) rfl)) (zWi_30 _ (List.mem_of_getElem? (i := 40) rfl)) (zWi_12 _ (List.mem_of_getElem? (i := 8) rfl)) (zWi_6 _ (List.mem_of_getElem? (i := 36) rfl)) (by decide +kernel) rfl rfl ⟨Nat.le_of_ble_eq_true rfl, Nat.le_of_ble_eq_true rfl⟩
theorem kL_law_231 : ∀ (s9 : State) (a9 : Array Value), (∀ w ∈ wzLaw, w.before a9 s9 = true) → CallW room_1 s9 a9 RL RX12 231 yX12_sale cX12_sale 6 (some .int) wzX12_sale rmX12_sale 0 0 1 := zcV (zWi_19 _ (List.mem_of_getElem? (i := 12) rfl)) (zWi_15 _ (List.mem_of_getElem? (i := 12) rfl)) (zWi_28 _ (List.mem_of_getElem? (i := 3) rfl)) (zWi_12 _ (List.mem_of_getElem? (i := 13) rfl)) (zWi_3 _ (List.mem_of_getElem? (i := 44) rfl)) (by decide +kernel) rfl rfl ⟨Nat.le_of_ble_eq_true rfl, Nat.le_of_ble_eq_true rfl⟩
set_option maxRecDepth 20000 in
set_option maxHeartbeats 4000000 in
theorem ca_sale {E : zE} {X : zX} {L : Nat} {xs : Nat → Int32} {M : zM} {b : Nat × Nat} {B p : Int} (S : zS (zg E) X cL_law 8 wzLaw RL (some .boolean)) (hs : zSc (zg E) X L xs) (hp0 : 0 ≤ p) (hp7 : p + 7 ≤ L) (hL : L ≤ 3584) (g : RR B M) (hB : B ≤ 12300) (hb : b.1 ≤ 100000 ∧ b.2 ≤ 1000000) (hE : ∀ M', RR (B + 24) M' → zK (zg E) room_1 8 (lawQ, 601024, 7293034) X (b.1 + 10, b.2 + 60) 2987 [some (zR 2000), some (zR 0), some (zR 180), some (zR 201), some (zI p), none, none, none] [] M') : zK (zg E) room_1 8 (lawQ, 601024, 7293034) X b 1684 [some (zR 2000), some (zR 0), some (zR 180), some (zR 201), some (zI p), none, none, none] [] M := by
  refine zr_aload_n (pc := 1684) S dL_law_1684 rfl ?_
  refine zr_aload_n (pc := 1685) S dL_law_1685 rfl ?_
  refine zr_iload (pc := 1686) S dL_law_1686 rfl ?_
  refine zr_iconst (pc := 1688) S dL_law_1688 (by unfold zrI; omega) ?_
  refine zr_iadd (pc := 1689) S dL_law_1689 (by unfold zrI; omega) ?_
  refine zr_sld (pc := 1690) S hs dL_law_1690 (by omega) (by omega) ?_
  refine zr_aload_n (pc := 1691) S dL_law_1691 rfl ?_
  refine zr_invSW (pc := 1692) S [zR _, zI _, zR _] (m_L_sale _) kL_law_229 dL_law_1692 (Nat.le_of_ble_eq_true rfl) ⟨by show _ ≤ 601024; omega, by show _ ≤ 7293034; omega⟩ (⟨_, rfl, ?_⟩)
  suffices hc : ∀ (k : Int) (N : zM), sp_X12_sale _ N (fin B k) → zaft (zg E) room_1 8 (lawQ, 601024, 7293034) X _ _ _ _ (some (zI k)) N from mo_X11_sale (fun v N h => hpm hc h) (fun _ _ _ h => hpm hc h) (step_sale g hB)
  intro k N hN
  dsimp only [zaft]
  refine zr_istore (pc := 1695) S dL_law_1695 (by decide) ?_
  dsimp only [zst1, zst2, zset, zget, zlong]
  refine zr_aload_n (pc := 1697) S dL_law_1697 rfl ?_
  refine zr_aload_n (pc := 1698) S dL_law_1698 rfl ?_
  refine zr_iload (pc := 1699) S dL_law_1699 rfl ?_
  refine zr_iconst (pc := 1701) S dL_law_1701 (by unfold zrI; omega) ?_
  refine zr_iadd (pc := 1702) S dL_law_1702 (by unfold zrI; omega) ?_
  refine zr_sld (pc := 1703) S hs dL_law_1703 (by omega) (by omega) ?_
  refine zr_invV (pc := 1704) S [zI _] (m_X12_sale _) kL_law_231 dL_law_1704 rfl (Nat.le_of_ble_eq_true rfl) rfl (Nat.le_of_ble_eq_true rfl) ⟨by show _ ≤ 601024; omega, by show _ ≤ 7293034; omega⟩ (mo_X12_sale (fun v P hf => ?_) hN)
  dsimp only [zaft]
  obtain ⟨hf1, hf2, hR⟩ := hf
  refine zr_istore (pc := 1707) S dL_law_1707 (by decide) ?_
  dsimp only [zst1, zst2, zset, zget, zlong]
  refine zr_aload_n (pc := 1709) S dL_law_1709 rfl ?_
  refine zr_invV (pc := 1710) S [] (m_X12_thrown _) kL_law_155 dL_law_1710 rfl (Nat.le_of_ble_eq_true rfl) rfl (Nat.le_of_ble_eq_true rfl) ⟨by show _ ≤ 601024; omega, by show _ ≤ 7293034; omega⟩ (us_X12_thrown ?_)
  dsimp only [zaft]
  refine zr_iload (pc := 1713) S dL_law_1713 rfl ?_
  refine zr_icmp_eq (pc := 1715) (tgt := 1720) S dL_law_1715 (by decide) (fun c1715 => ?_) (fun c1715 => absurd c1715 (by omega))
  refine zr_iload (pc := 1720) S dL_law_1720 rfl ?_
  refine zr_if_ne (pc := 1722) (tgt := 1737) S dL_law_1722 (by decide) (fun c1722 => ?_) (fun c1722 => ?_)
  · refine zr_goto (pc := 1737) (tgt := 2987) S dL_law_1737 (by decide) ?_
    exact zr_fg zfg8 (zr_wd ⟨by show _ ≤ b.1 + 10; omega, by show _ ≤ b.2 + 60; omega⟩ (hE _ hR))
  · have h9 := hf2 (by omega)
    refine zr_aload_n (pc := 1725) S dL_law_1725 rfl ?_
    refine zr_iconst (pc := 1726) S dL_law_1726 (by unfold zrI; omega) ?_
    refine zr_laload (pc := 1727) S dL_law_1727 rfl (Nat.le_of_ble_eq_true rfl) (by omega) (by omega) ?_
    dsimp only [Int.reduceToNat]
    refine zr_iload (pc := 1728) S dL_law_1728 rfl ?_
    refine zr_i2l (pc := 1730) S dL_law_1730 ?_
    refine zr_lcmp_eq (pc := 1731) (tgt := 1737) S dL_law_1731 dL_law_1732 (by decide) (fun c1731 => ?_) (fun c1731 => absurd c1731 (by omega))
    refine zr_goto (pc := 1737) (tgt := 2987) S dL_law_1737 (by decide) ?_
    exact zr_fg zfg8 (zr_wd ⟨by show _ ≤ b.1 + 10; omega, by show _ ≤ b.2 + 60; omega⟩ (hE _ hR))
theorem kL_law_232 : ∀ (s9 : State) (a9 : Array Value), (∀ w ∈ wzLaw, w.before a9 s9 = true) → CallW room_1 s9 a9 RL RX11 232 yX11_refund cX11_refund 1 (some .int) wzX11_refund rmX11_refund 0 0 0 := zcV (zWi_19 _ (List.mem_of_getElem? (i := 13) rfl)) (zWi_13 _ (List.mem_of_getElem? (i := 24) rfl)) (zWi_26 _ (List.mem_of_getElem? (i := 16) rfl)) (zWi_12 _ (List.mem_of_getElem? (i := 12) rfl)) (zWi_2 _ (List.mem_of_getElem? (i := 1) rfl)) (by decide +kernel) rfl rfl ⟨Nat.le_of_ble_eq_true rfl, Nat.le_of_ble_eq_true rfl⟩
theorem kL_law_235 : ∀ (s9 : State) (a9 : Array Value), (∀ w ∈ wzLaw, w.before a9 s9 = true) → CallW room_1 s9 a9 RL RX12 235 yX12_refund cX12_refund 2 (some .int) wzX12_refund rmX12_refund 0 0 0 := zcV (zWi_19 _ (List.mem_of_getElem? (i := 14) rfl)) (zWi_15 _ (List.mem_of_getElem? (i := 9) rfl)) (zWi_28 _ (List.mem_of_getElem? (i := 0) rfl)) (zWi_12 _ (List.mem_of_getElem? (i := 13) rfl)) (zWi_3 _ (List.mem_of_getElem? (i := 41) rfl)) (by decide +kernel) rfl rfl ⟨Nat.le_of_ble_eq_true rfl, Nat.le_of_ble_eq_true rfl⟩
set_option maxRecDepth 20000 in
set_option maxHeartbeats 4000000 in
theorem ca_refund {E : zE} {X : zX} {L : Nat} {xs : Nat → Int32} {M : zM} {b : Nat × Nat} {B p : Int} (S : zS (zg E) X cL_law 8 wzLaw RL (some .boolean)) (hs : zSc (zg E) X L xs) (hp0 : 0 ≤ p) (hp7 : p + 7 ≤ L) (hL : L ≤ 3584) (g : RR B M) (hB : B ≤ 12300) (hb : b.1 ≤ 100000 ∧ b.2 ≤ 1000000) (hE : ∀ M', RR (B + 24) M' → zK (zg E) room_1 8 (lawQ, 601024, 7293034) X (b.1 + 10, b.2 + 60) 2987 [some (zR 2000), some (zR 0), some (zR 180), some (zR 201), some (zI p), none, none, none] [] M') : zK (zg E) room_1 8 (lawQ, 601024, 7293034) X b 1740 [some (zR 2000), some (zR 0), some (zR 180), some (zR 201), some (zI p), none, none, none] [] M := by
  refine zr_aload_n (pc := 1740) S dL_law_1740 rfl ?_
  refine zr_invV (pc := 1741) S [] (m_X11_refund _) kL_law_232 dL_law_1741 rfl (Nat.le_of_ble_eq_true rfl) rfl (Nat.le_of_ble_eq_true rfl) ⟨by show _ ≤ 601024; omega, by show _ ≤ 7293034; omega⟩ (mo_X11_refund (fun v N hN => ?_) (step_refund g hB))
  dsimp only [zaft]
  refine zr_aload_n (pc := 1744) S dL_law_1744 rfl ?_
  refine zr_invV (pc := 1745) S [] (m_X12_refund _) kL_law_235 dL_law_1745 rfl (Nat.le_of_ble_eq_true rfl) rfl (Nat.le_of_ble_eq_true rfl) ⟨by show _ ≤ 601024; omega, by show _ ≤ 7293034; omega⟩ (mo_X12_refund (fun w P hf => ?_) hN)
  dsimp only [zaft]
  obtain ⟨⟨u9, e1, e2⟩, hR⟩ := hf
  cases e1
  cases e2
  refine zr_icmp_eq (pc := 1748) (tgt := 2987) S dL_law_1748 (by decide) (fun c1748 => ?_) (fun c1748 => absurd c1748 (by omega))
  exact zr_fg zfg8 (zr_wd ⟨by show _ ≤ b.1 + 10; omega, by show _ ≤ b.2 + 60; omega⟩ (hE _ hR))
theorem kL_law_236 : ∀ (s9 : State) (a9 : Array Value), (∀ w ∈ wzLaw, w.before a9 s9 = true) → CallW room_1 s9 a9 RL RX11 236 yX11_given cX11_given 2 (some .int) wzX11_given rmX11_given 0 0 1 := zcV (zWi_19 _ (List.mem_of_getElem? (i := 15) rfl)) (zWi_13 _ (List.mem_of_getElem? (i := 4) rfl)) (zWi_25 _ (List.mem_of_getElem? (i := 47) rfl)) (zWi_12 _ (List.mem_of_getElem? (i := 12) rfl)) (zWi_1 _ (List.mem_of_getElem? (i := 29) rfl)) (by decide +kernel) rfl rfl ⟨Nat.le_of_ble_eq_true rfl, Nat.le_of_ble_eq_true rfl⟩
theorem kL_law_239 : ∀ (s9 : State) (a9 : Array Value), (∀ w ∈ wzLaw, w.before a9 s9 = true) → CallW room_1 s9 a9 RL RX12 239 yX12_given cX12_given 2 (some .int) wzX12_given rmX12_given 0 0 1 := zcV (zWi_19 _ (List.mem_of_getElem? (i := 16) rfl)) (zWi_14 _ (List.mem_of_getElem? (i := 16) rfl)) (zWi_27 _ (List.mem_of_getElem? (i := 8) rfl)) (zWi_12 _ (List.mem_of_getElem? (i := 13) rfl)) (zWi_2 _ (List.mem_of_getElem? (i := 45) rfl)) (by decide +kernel) rfl rfl ⟨Nat.le_of_ble_eq_true rfl, Nat.le_of_ble_eq_true rfl⟩
set_option maxRecDepth 20000 in
set_option maxHeartbeats 4000000 in
theorem ca_given {E : zE} {X : zX} {L : Nat} {xs : Nat → Int32} {M : zM} {b : Nat × Nat} {B p : Int} (S : zS (zg E) X cL_law 8 wzLaw RL (some .boolean)) (hs : zSc (zg E) X L xs) (hp0 : 0 ≤ p) (hp7 : p + 7 ≤ L) (hL : L ≤ 3584) (g : RR B M) (hB : B ≤ 12300) (hb : b.1 ≤ 100000 ∧ b.2 ≤ 1000000) (hE : ∀ M', RR (B + 24) M' → zK (zg E) room_1 8 (lawQ, 601024, 7293034) X (b.1 + 10, b.2 + 60) 2987 [some (zR 2000), some (zR 0), some (zR 180), some (zR 201), some (zI p), none, none, none] [] M') : zK (zg E) room_1 8 (lawQ, 601024, 7293034) X b 1753 [some (zR 2000), some (zR 0), some (zR 180), some (zR 201), some (zI p), none, none, none] [] M := by
  refine zr_aload_n (pc := 1753) S dL_law_1753 rfl ?_
  refine zr_aload_n (pc := 1754) S dL_law_1754 rfl ?_
  refine zr_iload (pc := 1755) S dL_law_1755 rfl ?_
  refine zr_iconst (pc := 1757) S dL_law_1757 (by unfold zrI; omega) ?_
  refine zr_iadd (pc := 1758) S dL_law_1758 (by unfold zrI; omega) ?_
  refine zr_sld (pc := 1759) S hs dL_law_1759 (by omega) (by omega) ?_
  refine zr_invV (pc := 1760) S [zI _] (m_X11_given _) kL_law_236 dL_law_1760 rfl (Nat.le_of_ble_eq_true rfl) rfl (Nat.le_of_ble_eq_true rfl) ⟨by show _ ≤ 601024; omega, by show _ ≤ 7293034; omega⟩ (mo_X11_given (fun v N hN => ?_) (step_given g))
  dsimp only [zaft]
  refine zr_aload_n (pc := 1763) S dL_law_1763 rfl ?_
  refine zr_aload_n (pc := 1764) S dL_law_1764 rfl ?_
  refine zr_iload (pc := 1765) S dL_law_1765 rfl ?_
  refine zr_iconst (pc := 1767) S dL_law_1767 (by unfold zrI; omega) ?_
  refine zr_iadd (pc := 1768) S dL_law_1768 (by unfold zrI; omega) ?_
  refine zr_sld (pc := 1769) S hs dL_law_1769 (by omega) (by omega) ?_
  refine zr_invV (pc := 1770) S [zI _] (m_X12_given _) kL_law_239 dL_law_1770 rfl (Nat.le_of_ble_eq_true rfl) rfl (Nat.le_of_ble_eq_true rfl) ⟨by show _ ≤ 601024; omega, by show _ ≤ 7293034; omega⟩ (mo_X12_given (fun w P hf => ?_) hN)
  dsimp only [zaft]
  obtain ⟨⟨u9, e1, e2⟩, hR⟩ := hf
  cases e1
  cases e2
  refine zr_icmp_eq (pc := 1773) (tgt := 2987) S dL_law_1773 (by decide) (fun c1773 => ?_) (fun c1773 => absurd c1773 (by omega))
  exact zr_fg zfg8 (zr_wd ⟨by show _ ≤ b.1 + 10; omega, by show _ ≤ b.2 + 60; omega⟩ (hE _ hR))
theorem kL_law_240 : ∀ (s9 : State) (a9 : Array Value), (∀ w ∈ wzLaw, w.before a9 s9 = true) → vx_CSW room_1 s9 a9 RL 240 yL_tube cL_tube 5 (some .int) [(0, 10, 13, 19), (0, 10, 17, 13)] wzL_tube rmL_tube 2 12 4 := zcSW (zWi_19 _ (List.mem_of_getElem? (i := 17) rfl)) (zWi_30 _ (List.mem_of_getElem? (i := 48) rfl)) (zWi_12 _ (List.mem_of_getElem? (i := 8) rfl)) (zWi_6 _ (List.mem_of_getElem? (i := 44) rfl)) (by decide +kernel) rfl rfl ⟨Nat.le_of_ble_eq_true rfl, Nat.le_of_ble_eq_true rfl⟩
theorem kL_law_242 : ∀ (s9 : State) (a9 : Array Value), (∀ w ∈ wzLaw, w.before a9 s9 = true) → CallW room_1 s9 a9 RL RX12 242 yX12_tube cX12_tube 6 (some .int) wzX12_tube rmX12_tube 0 0 2 := zcV (zWi_19 _ (List.mem_of_getElem? (i := 18) rfl)) (zWi_15 _ (List.mem_of_getElem? (i := 29) rfl)) (zWi_28 _ (List.mem_of_getElem? (i := 20) rfl)) (zWi_12 _ (List.mem_of_getElem? (i := 13) rfl)) (zWi_4 _ (List.mem_of_getElem? (i := 11) rfl)) (by decide +kernel) rfl rfl ⟨Nat.le_of_ble_eq_true rfl, Nat.le_of_ble_eq_true rfl⟩
set_option maxRecDepth 20000 in
set_option maxHeartbeats 4000000 in
theorem ca_tube {E : zE} {X : zX} {L : Nat} {xs : Nat → Int32} {M : zM} {b : Nat × Nat} {B p : Int} (S : zS (zg E) X cL_law 8 wzLaw RL (some .boolean)) (hs : zSc (zg E) X L xs) (hp0 : 0 ≤ p) (hp7 : p + 7 ≤ L) (hL : L ≤ 3584) (g : RR B M) (hB : B ≤ 12300) (hb : b.1 ≤ 100000 ∧ b.2 ≤ 1000000) (hE : ∀ M', RR (B + 24) M' → zK (zg E) room_1 8 (lawQ, 601024, 7293034) X (b.1 + 10, b.2 + 60) 2987 [some (zR 2000), some (zR 0), some (zR 180), some (zR 201), some (zI p), none, none, none] [] M') : zK (zg E) room_1 8 (lawQ, 601024, 7293034) X b 1778 [some (zR 2000), some (zR 0), some (zR 180), some (zR 201), some (zI p), none, none, none] [] M := by
  refine zr_aload_n (pc := 1778) S dL_law_1778 rfl ?_
  refine zr_aload_n (pc := 1779) S dL_law_1779 rfl ?_
  refine zr_iload (pc := 1780) S dL_law_1780 rfl ?_
  refine zr_iconst (pc := 1782) S dL_law_1782 (by unfold zrI; omega) ?_
  refine zr_iadd (pc := 1783) S dL_law_1783 (by unfold zrI; omega) ?_
  refine zr_sld (pc := 1784) S hs dL_law_1784 (by omega) (by omega) ?_
  refine zr_aload_n (pc := 1785) S dL_law_1785 rfl ?_
  refine zr_iload (pc := 1786) S dL_law_1786 rfl ?_
  refine zr_iconst (pc := 1788) S dL_law_1788 (by unfold zrI; omega) ?_
  refine zr_iadd (pc := 1789) S dL_law_1789 (by unfold zrI; omega) ?_
  refine zr_sld (pc := 1790) S hs dL_law_1790 (by omega) (by omega) ?_
  refine zr_aload_n (pc := 1791) S dL_law_1791 rfl ?_
  refine zr_invSW (pc := 1792) S [zR _, zI _, zI _, zR _] (m_L_tube _) kL_law_240 dL_law_1792 (Nat.le_of_ble_eq_true rfl) ⟨by show _ ≤ 601024; omega, by show _ ≤ 7293034; omega⟩ (⟨_, _, rfl, ?_⟩)
  suffices hc : ∀ (k : Int) (N : zM), sp_X12_tube _ N (fin B k) → zaft (zg E) room_1 8 (lawQ, 601024, 7293034) X _ _ _ _ (some (zI k)) N from mo_X11_tube (fun v N h => hpm hc h) (fun _ _ _ h => hpm hc h) (step_tube g)
  intro k N hN
  dsimp only [zaft]
  refine zr_istore (pc := 1795) S dL_law_1795 (by decide) ?_
  dsimp only [zst1, zst2, zset, zget, zlong]
  refine zr_aload_n (pc := 1797) S dL_law_1797 rfl ?_
  refine zr_aload_n (pc := 1798) S dL_law_1798 rfl ?_
  refine zr_iload (pc := 1799) S dL_law_1799 rfl ?_
  refine zr_iconst (pc := 1801) S dL_law_1801 (by unfold zrI; omega) ?_
  refine zr_iadd (pc := 1802) S dL_law_1802 (by unfold zrI; omega) ?_
  refine zr_sld (pc := 1803) S hs dL_law_1803 (by omega) (by omega) ?_
  refine zr_aload_n (pc := 1804) S dL_law_1804 rfl ?_
  refine zr_iload (pc := 1805) S dL_law_1805 rfl ?_
  refine zr_iconst (pc := 1807) S dL_law_1807 (by unfold zrI; omega) ?_
  refine zr_iadd (pc := 1808) S dL_law_1808 (by unfold zrI; omega) ?_
  refine zr_sld (pc := 1809) S hs dL_law_1809 (by omega) (by omega) ?_
  refine zr_invV (pc := 1810) S [zI _, zI _] (m_X12_tube _) kL_law_242 dL_law_1810 rfl (Nat.le_of_ble_eq_true rfl) rfl (Nat.le_of_ble_eq_true rfl) ⟨by show _ ≤ 601024; omega, by show _ ≤ 7293034; omega⟩ (mo_X12_tube (fun v P hf => ?_) hN)
  dsimp only [zaft]
  obtain ⟨hf1, hf2, hR⟩ := hf
  refine zr_istore (pc := 1813) S dL_law_1813 (by decide) ?_
  dsimp only [zst1, zst2, zset, zget, zlong]
  refine zr_aload_n (pc := 1815) S dL_law_1815 rfl ?_
  refine zr_invV (pc := 1816) S [] (m_X12_thrown _) kL_law_155 dL_law_1816 rfl (Nat.le_of_ble_eq_true rfl) rfl (Nat.le_of_ble_eq_true rfl) ⟨by show _ ≤ 601024; omega, by show _ ≤ 7293034; omega⟩ (us_X12_thrown ?_)
  dsimp only [zaft]
  refine zr_iload (pc := 1819) S dL_law_1819 rfl ?_
  refine zr_icmp_eq (pc := 1821) (tgt := 1826) S dL_law_1821 (by decide) (fun c1821 => ?_) (fun c1821 => absurd c1821 (by omega))
  refine zr_iload (pc := 1826) S dL_law_1826 rfl ?_
  refine zr_if_ne (pc := 1828) (tgt := 1843) S dL_law_1828 (by decide) (fun c1828 => ?_) (fun c1828 => ?_)
  · refine zr_goto (pc := 1843) (tgt := 2987) S dL_law_1843 (by decide) ?_
    exact zr_fg zfg8 (zr_wd ⟨by show _ ≤ b.1 + 10; omega, by show _ ≤ b.2 + 60; omega⟩ (hE _ hR))
  · have h9 := hf2 (by omega)
    refine zr_aload_n (pc := 1831) S dL_law_1831 rfl ?_
    refine zr_iconst (pc := 1832) S dL_law_1832 (by unfold zrI; omega) ?_
    refine zr_laload (pc := 1833) S dL_law_1833 rfl (Nat.le_of_ble_eq_true rfl) (by omega) (by omega) ?_
    dsimp only [Int.reduceToNat]
    refine zr_iload (pc := 1834) S dL_law_1834 rfl ?_
    refine zr_i2l (pc := 1836) S dL_law_1836 ?_
    refine zr_lcmp_eq (pc := 1837) (tgt := 1843) S dL_law_1837 dL_law_1838 (by decide) (fun c1837 => ?_) (fun c1837 => absurd c1837 (by omega))
    refine zr_goto (pc := 1843) (tgt := 2987) S dL_law_1843 (by decide) ?_
    exact zr_fg zfg8 (zr_wd ⟨by show _ ≤ b.1 + 10; omega, by show _ ≤ b.2 + 60; omega⟩ (hE _ hR))
theorem kL_law_243 : ∀ (s9 : State) (a9 : Array Value), (∀ w ∈ wzLaw, w.before a9 s9 = true) → vx_CSW room_1 s9 a9 RL 243 yL_bag cL_bag 4 (some .int) [(0, 9, 12, 19)] wzL_bag rmL_bag 1 6 3 := zcSW (zWi_19 _ (List.mem_of_getElem? (i := 19) rfl)) (zWi_30 _ (List.mem_of_getElem? (i := 15) rfl)) (zWi_12 _ (List.mem_of_getElem? (i := 8) rfl)) (zWi_6 _ (List.mem_of_getElem? (i := 11) rfl)) (by decide +kernel) rfl rfl ⟨Nat.le_of_ble_eq_true rfl, Nat.le_of_ble_eq_true rfl⟩
theorem kL_law_245 : ∀ (s9 : State) (a9 : Array Value), (∀ w ∈ wzLaw, w.before a9 s9 = true) → CallW room_1 s9 a9 RL RX12 245 yX12_bag cX12_bag 2 (some .int) wzX12_bag rmX12_bag 0 0 1 := zcV (zWi_19 _ (List.mem_of_getElem? (i := 20) rfl)) (zWi_13 _ (List.mem_of_getElem? (i := 42) rfl)) (zWi_26 _ (List.mem_of_getElem? (i := 34) rfl)) (zWi_12 _ (List.mem_of_getElem? (i := 13) rfl)) (zWi_2 _ (List.mem_of_getElem? (i := 21) rfl)) (by decide +kernel) rfl rfl ⟨Nat.le_of_ble_eq_true rfl, Nat.le_of_ble_eq_true rfl⟩
set_option maxRecDepth 20000 in
set_option maxHeartbeats 4000000 in
theorem ca_bag {E : zE} {X : zX} {L : Nat} {xs : Nat → Int32} {M : zM} {b : Nat × Nat} {B p : Int} (S : zS (zg E) X cL_law 8 wzLaw RL (some .boolean)) (hs : zSc (zg E) X L xs) (hp0 : 0 ≤ p) (hp7 : p + 7 ≤ L) (hL : L ≤ 3584) (g : RR B M) (hB : B ≤ 12300) (hb : b.1 ≤ 100000 ∧ b.2 ≤ 1000000) (hE : ∀ M', RR (B + 24) M' → zK (zg E) room_1 8 (lawQ, 601024, 7293034) X (b.1 + 10, b.2 + 60) 2987 [some (zR 2000), some (zR 0), some (zR 180), some (zR 201), some (zI p), none, none, none] [] M') : zK (zg E) room_1 8 (lawQ, 601024, 7293034) X b 1846 [some (zR 2000), some (zR 0), some (zR 180), some (zR 201), some (zI p), none, none, none] [] M := by
  refine zr_aload_n (pc := 1846) S dL_law_1846 rfl ?_
  refine zr_aload_n (pc := 1847) S dL_law_1847 rfl ?_
  refine zr_iload (pc := 1848) S dL_law_1848 rfl ?_
  refine zr_iconst (pc := 1850) S dL_law_1850 (by unfold zrI; omega) ?_
  refine zr_iadd (pc := 1851) S dL_law_1851 (by unfold zrI; omega) ?_
  refine zr_sld (pc := 1852) S hs dL_law_1852 (by omega) (by omega) ?_
  refine zr_aload_n (pc := 1853) S dL_law_1853 rfl ?_
  refine zr_invSW (pc := 1854) S [zR _, zI _, zR _] (m_L_bag _) kL_law_243 dL_law_1854 (Nat.le_of_ble_eq_true rfl) ⟨by show _ ≤ 601024; omega, by show _ ≤ 7293034; omega⟩ (⟨_, rfl, ?_⟩)
  suffices hc : ∀ (k : Int) (N : zM), sp_X12_bag _ N (fin B k) → zaft (zg E) room_1 8 (lawQ, 601024, 7293034) X _ _ _ _ (some (zI k)) N from mo_X11_bag (fun v N h => hpm hc h) (fun _ _ _ h => hpm hc h) (step_bag g)
  intro k N hN
  dsimp only [zaft]
  refine zr_istore (pc := 1857) S dL_law_1857 (by decide) ?_
  dsimp only [zst1, zst2, zset, zget, zlong]
  refine zr_aload_n (pc := 1859) S dL_law_1859 rfl ?_
  refine zr_aload_n (pc := 1860) S dL_law_1860 rfl ?_
  refine zr_iload (pc := 1861) S dL_law_1861 rfl ?_
  refine zr_iconst (pc := 1863) S dL_law_1863 (by unfold zrI; omega) ?_
  refine zr_iadd (pc := 1864) S dL_law_1864 (by unfold zrI; omega) ?_
  refine zr_sld (pc := 1865) S hs dL_law_1865 (by omega) (by omega) ?_
  refine zr_invV (pc := 1866) S [zI _] (m_X12_bag _) kL_law_245 dL_law_1866 rfl (Nat.le_of_ble_eq_true rfl) rfl (Nat.le_of_ble_eq_true rfl) ⟨by show _ ≤ 601024; omega, by show _ ≤ 7293034; omega⟩ (mo_X12_bag (fun v P hf => ?_) hN)
  dsimp only [zaft]
  obtain ⟨hf1, hf2, hR⟩ := hf
  refine zr_istore (pc := 1869) S dL_law_1869 (by decide) ?_
  dsimp only [zst1, zst2, zset, zget, zlong]
  refine zr_aload_n (pc := 1871) S dL_law_1871 rfl ?_
  refine zr_invV (pc := 1872) S [] (m_X12_thrown _) kL_law_155 dL_law_1872 rfl (Nat.le_of_ble_eq_true rfl) rfl (Nat.le_of_ble_eq_true rfl) ⟨by show _ ≤ 601024; omega, by show _ ≤ 7293034; omega⟩ (us_X12_thrown ?_)
  dsimp only [zaft]
  refine zr_iload (pc := 1875) S dL_law_1875 rfl ?_
  refine zr_icmp_eq (pc := 1877) (tgt := 1882) S dL_law_1877 (by decide) (fun c1877 => ?_) (fun c1877 => absurd c1877 (by omega))
  refine zr_iload (pc := 1882) S dL_law_1882 rfl ?_
  refine zr_if_ne (pc := 1884) (tgt := 1899) S dL_law_1884 (by decide) (fun c1884 => ?_) (fun c1884 => ?_)
  · refine zr_goto (pc := 1899) (tgt := 2987) S dL_law_1899 (by decide) ?_
    exact zr_fg zfg8 (zr_wd ⟨by show _ ≤ b.1 + 10; omega, by show _ ≤ b.2 + 60; omega⟩ (hE _ hR))
  · have h9 := hf2 (by omega)
    refine zr_aload_n (pc := 1887) S dL_law_1887 rfl ?_
    refine zr_iconst (pc := 1888) S dL_law_1888 (by unfold zrI; omega) ?_
    refine zr_laload (pc := 1889) S dL_law_1889 rfl (Nat.le_of_ble_eq_true rfl) (by omega) (by omega) ?_
    dsimp only [Int.reduceToNat]
    refine zr_iload (pc := 1890) S dL_law_1890 rfl ?_
    refine zr_i2l (pc := 1892) S dL_law_1892 ?_
    refine zr_lcmp_eq (pc := 1893) (tgt := 1899) S dL_law_1893 dL_law_1894 (by decide) (fun c1893 => ?_) (fun c1893 => absurd c1893 (by omega))
    refine zr_goto (pc := 1899) (tgt := 2987) S dL_law_1899 (by decide) ?_
    exact zr_fg zfg8 (zr_wd ⟨by show _ ≤ b.1 + 10; omega, by show _ ≤ b.2 + 60; omega⟩ (hE _ hR))
theorem kL_law_246 : ∀ (s9 : State) (a9 : Array Value), (∀ w ∈ wzLaw, w.before a9 s9 = true) → vx_CSW room_1 s9 a9 RL 246 yL_empty cL_empty 4 (some .int) [(0, 9, 12, 19)] wzL_empty rmL_empty 1 6 3 := zcSW (zWi_19 _ (List.mem_of_getElem? (i := 21) rfl)) (zWi_30 _ (List.mem_of_getElem? (i := 20) rfl)) (zWi_12 _ (List.mem_of_getElem? (i := 8) rfl)) (zWi_6 _ (List.mem_of_getElem? (i := 16) rfl)) (by decide +kernel) rfl rfl ⟨Nat.le_of_ble_eq_true rfl, Nat.le_of_ble_eq_true rfl⟩
theorem kL_law_248 : ∀ (s9 : State) (a9 : Array Value), (∀ w ∈ wzLaw, w.before a9 s9 = true) → CallW room_1 s9 a9 RL RX12 248 yX12_empty cX12_empty 5 (some .int) wzX12_empty rmX12_empty 0 0 1 := zcV (zWi_19 _ (List.mem_of_getElem? (i := 22) rfl)) (zWi_14 _ (List.mem_of_getElem? (i := 7) rfl)) (zWi_26 _ (List.mem_of_getElem? (i := 49) rfl)) (zWi_12 _ (List.mem_of_getElem? (i := 13) rfl)) (zWi_2 _ (List.mem_of_getElem? (i := 36) rfl)) (by decide +kernel) rfl rfl ⟨Nat.le_of_ble_eq_true rfl, Nat.le_of_ble_eq_true rfl⟩
set_option maxRecDepth 20000 in
set_option maxHeartbeats 4000000 in
theorem ca_empty {E : zE} {X : zX} {L : Nat} {xs : Nat → Int32} {M : zM} {b : Nat × Nat} {B p : Int} (S : zS (zg E) X cL_law 8 wzLaw RL (some .boolean)) (hs : zSc (zg E) X L xs) (hp0 : 0 ≤ p) (hp7 : p + 7 ≤ L) (hL : L ≤ 3584) (g : RR B M) (hB : B ≤ 12300) (hb : b.1 ≤ 100000 ∧ b.2 ≤ 1000000) (hE : ∀ M', RR (B + 24) M' → zK (zg E) room_1 8 (lawQ, 601024, 7293034) X (b.1 + 10, b.2 + 60) 2987 [some (zR 2000), some (zR 0), some (zR 180), some (zR 201), some (zI p), none, none, none] [] M') : zK (zg E) room_1 8 (lawQ, 601024, 7293034) X b 1902 [some (zR 2000), some (zR 0), some (zR 180), some (zR 201), some (zI p), none, none, none] [] M := by
  refine zr_aload_n (pc := 1902) S dL_law_1902 rfl ?_
  refine zr_aload_n (pc := 1903) S dL_law_1903 rfl ?_
  refine zr_iload (pc := 1904) S dL_law_1904 rfl ?_
  refine zr_iconst (pc := 1906) S dL_law_1906 (by unfold zrI; omega) ?_
  refine zr_iadd (pc := 1907) S dL_law_1907 (by unfold zrI; omega) ?_
  refine zr_sld (pc := 1908) S hs dL_law_1908 (by omega) (by omega) ?_
  refine zr_aload_n (pc := 1909) S dL_law_1909 rfl ?_
  refine zr_invSW (pc := 1910) S [zR _, zI _, zR _] (m_L_empty _) kL_law_246 dL_law_1910 (Nat.le_of_ble_eq_true rfl) ⟨by show _ ≤ 601024; omega, by show _ ≤ 7293034; omega⟩ (⟨_, rfl, ?_⟩)
  suffices hc : ∀ (k : Int) (N : zM), sp_X12_empty _ N (fin B k) → zaft (zg E) room_1 8 (lawQ, 601024, 7293034) X _ _ _ _ (some (zI k)) N from mo_X11_empty (fun v N h => hpm hc h) (fun _ _ _ h => hpm hc h) (step_empty g hB)
  intro k N hN
  dsimp only [zaft]
  refine zr_istore (pc := 1913) S dL_law_1913 (by decide) ?_
  dsimp only [zst1, zst2, zset, zget, zlong]
  refine zr_aload_n (pc := 1915) S dL_law_1915 rfl ?_
  refine zr_aload_n (pc := 1916) S dL_law_1916 rfl ?_
  refine zr_iload (pc := 1917) S dL_law_1917 rfl ?_
  refine zr_iconst (pc := 1919) S dL_law_1919 (by unfold zrI; omega) ?_
  refine zr_iadd (pc := 1920) S dL_law_1920 (by unfold zrI; omega) ?_
  refine zr_sld (pc := 1921) S hs dL_law_1921 (by omega) (by omega) ?_
  refine zr_invV (pc := 1922) S [zI _] (m_X12_empty _) kL_law_248 dL_law_1922 rfl (Nat.le_of_ble_eq_true rfl) rfl (Nat.le_of_ble_eq_true rfl) ⟨by show _ ≤ 601024; omega, by show _ ≤ 7293034; omega⟩ (mo_X12_empty (fun v P hf => ?_) hN)
  dsimp only [zaft]
  obtain ⟨hf1, hf2, hR⟩ := hf
  refine zr_istore (pc := 1925) S dL_law_1925 (by decide) ?_
  dsimp only [zst1, zst2, zset, zget, zlong]
  refine zr_aload_n (pc := 1927) S dL_law_1927 rfl ?_
  refine zr_invV (pc := 1928) S [] (m_X12_thrown _) kL_law_155 dL_law_1928 rfl (Nat.le_of_ble_eq_true rfl) rfl (Nat.le_of_ble_eq_true rfl) ⟨by show _ ≤ 601024; omega, by show _ ≤ 7293034; omega⟩ (us_X12_thrown ?_)
  dsimp only [zaft]
  refine zr_iload (pc := 1931) S dL_law_1931 rfl ?_
  refine zr_icmp_eq (pc := 1933) (tgt := 1938) S dL_law_1933 (by decide) (fun c1933 => ?_) (fun c1933 => absurd c1933 (by omega))
  refine zr_iload (pc := 1938) S dL_law_1938 rfl ?_
  refine zr_if_ne (pc := 1940) (tgt := 1955) S dL_law_1940 (by decide) (fun c1940 => ?_) (fun c1940 => ?_)
  · refine zr_goto (pc := 1955) (tgt := 2987) S dL_law_1955 (by decide) ?_
    exact zr_fg zfg8 (zr_wd ⟨by show _ ≤ b.1 + 10; omega, by show _ ≤ b.2 + 60; omega⟩ (hE _ hR))
  · have h9 := hf2 (by omega)
    refine zr_aload_n (pc := 1943) S dL_law_1943 rfl ?_
    refine zr_iconst (pc := 1944) S dL_law_1944 (by unfold zrI; omega) ?_
    refine zr_laload (pc := 1945) S dL_law_1945 rfl (Nat.le_of_ble_eq_true rfl) (by omega) (by omega) ?_
    dsimp only [Int.reduceToNat]
    refine zr_iload (pc := 1946) S dL_law_1946 rfl ?_
    refine zr_i2l (pc := 1948) S dL_law_1948 ?_
    refine zr_lcmp_eq (pc := 1949) (tgt := 1955) S dL_law_1949 dL_law_1950 (by decide) (fun c1949 => ?_) (fun c1949 => absurd c1949 (by omega))
    refine zr_goto (pc := 1955) (tgt := 2987) S dL_law_1955 (by decide) ?_
    exact zr_fg zfg8 (zr_wd ⟨by show _ ≤ b.1 + 10; omega, by show _ ≤ b.2 + 60; omega⟩ (hE _ hR))
theorem kL_law_249 : ∀ (s9 : State) (a9 : Array Value), (∀ w ∈ wzLaw, w.before a9 s9 = true) → vx_CSW room_1 s9 a9 RL 249 yL_lacks cL_lacks 5 (some .int) [(0, 10, 13, 19), (0, 10, 17, 13)] wzL_lacks rmL_lacks 2 12 4 := zcSW (zWi_19 _ (List.mem_of_getElem? (i := 23) rfl)) (zWi_30 _ (List.mem_of_getElem? (i := 26) rfl)) (zWi_12 _ (List.mem_of_getElem? (i := 8) rfl)) (zWi_6 _ (List.mem_of_getElem? (i := 22) rfl)) (by decide +kernel) rfl rfl ⟨Nat.le_of_ble_eq_true rfl, Nat.le_of_ble_eq_true rfl⟩
theorem kL_law_251 : ∀ (s9 : State) (a9 : Array Value), (∀ w ∈ wzLaw, w.before a9 s9 = true) → CallW room_1 s9 a9 RL RX12 251 yX12_lacks cX12_lacks 9 (some .int) wzX12_lacks rmX12_lacks 0 0 2 := zcV (zWi_19 _ (List.mem_of_getElem? (i := 25) rfl)) (zWi_14 _ (List.mem_of_getElem? (i := 32) rfl)) (zWi_27 _ (List.mem_of_getElem? (i := 23) rfl)) (zWi_12 _ (List.mem_of_getElem? (i := 13) rfl)) (zWi_3 _ (List.mem_of_getElem? (i := 14) rfl)) (by decide +kernel) rfl rfl ⟨Nat.le_of_ble_eq_true rfl, Nat.le_of_ble_eq_true rfl⟩
set_option maxRecDepth 20000 in
set_option maxHeartbeats 4000000 in
theorem ca_lacks {E : zE} {X : zX} {L : Nat} {xs : Nat → Int32} {M : zM} {b : Nat × Nat} {B p : Int} (S : zS (zg E) X cL_law 8 wzLaw RL (some .boolean)) (hs : zSc (zg E) X L xs) (hp0 : 0 ≤ p) (hp7 : p + 7 ≤ L) (hL : L ≤ 3584) (g : RR B M) (hB : B ≤ 12300) (hb : b.1 ≤ 100000 ∧ b.2 ≤ 1000000) (hE : ∀ M', RR (B + 24) M' → zK (zg E) room_1 8 (lawQ, 601024, 7293034) X (b.1 + 10, b.2 + 60) 2987 [some (zR 2000), some (zR 0), some (zR 180), some (zR 201), some (zI p), none, none, none] [] M') : zK (zg E) room_1 8 (lawQ, 601024, 7293034) X b 1958 [some (zR 2000), some (zR 0), some (zR 180), some (zR 201), some (zI p), none, none, none] [] M := by
  refine zr_aload_n (pc := 1958) S dL_law_1958 rfl ?_
  refine zr_aload_n (pc := 1959) S dL_law_1959 rfl ?_
  refine zr_iload (pc := 1960) S dL_law_1960 rfl ?_
  refine zr_iconst (pc := 1962) S dL_law_1962 (by unfold zrI; omega) ?_
  refine zr_iadd (pc := 1963) S dL_law_1963 (by unfold zrI; omega) ?_
  refine zr_sld (pc := 1964) S hs dL_law_1964 (by omega) (by omega) ?_
  refine zr_aload_n (pc := 1965) S dL_law_1965 rfl ?_
  refine zr_iload (pc := 1966) S dL_law_1966 rfl ?_
  refine zr_iconst (pc := 1968) S dL_law_1968 (by unfold zrI; omega) ?_
  refine zr_iadd (pc := 1969) S dL_law_1969 (by unfold zrI; omega) ?_
  refine zr_sld (pc := 1970) S hs dL_law_1970 (by omega) (by omega) ?_
  refine zr_aload_n (pc := 1971) S dL_law_1971 rfl ?_
  refine zr_invSW (pc := 1972) S [zR _, zI _, zI _, zR _] (m_L_lacks _) kL_law_249 dL_law_1972 (Nat.le_of_ble_eq_true rfl) ⟨by show _ ≤ 601024; omega, by show _ ≤ 7293034; omega⟩ (⟨_, _, rfl, ?_⟩)
  suffices hc : ∀ (k : Int) (N : zM), sp_X12_lacks _ N (fin B k) → zaft (zg E) room_1 8 (lawQ, 601024, 7293034) X _ _ _ _ (some (zI k)) N from mo_X11_lacks (fun v N h => hpm hc h) (fun _ _ _ h => hpm hc h) (step_lacks g)
  intro k N hN
  dsimp only [zaft]
  refine zr_istore (pc := 1975) S dL_law_1975 (by decide) ?_
  dsimp only [zst1, zst2, zset, zget, zlong]
  refine zr_aload_n (pc := 1977) S dL_law_1977 rfl ?_
  refine zr_aload_n (pc := 1978) S dL_law_1978 rfl ?_
  refine zr_iload (pc := 1979) S dL_law_1979 rfl ?_
  refine zr_iconst (pc := 1981) S dL_law_1981 (by unfold zrI; omega) ?_
  refine zr_iadd (pc := 1982) S dL_law_1982 (by unfold zrI; omega) ?_
  refine zr_sld (pc := 1983) S hs dL_law_1983 (by omega) (by omega) ?_
  refine zr_aload_n (pc := 1984) S dL_law_1984 rfl ?_
  refine zr_iload (pc := 1985) S dL_law_1985 rfl ?_
  refine zr_iconst (pc := 1987) S dL_law_1987 (by unfold zrI; omega) ?_
  refine zr_iadd (pc := 1988) S dL_law_1988 (by unfold zrI; omega) ?_
  refine zr_sld (pc := 1989) S hs dL_law_1989 (by omega) (by omega) ?_
  refine zr_invV (pc := 1990) S [zI _, zI _] (m_X12_lacks _) kL_law_251 dL_law_1990 rfl (Nat.le_of_ble_eq_true rfl) rfl (Nat.le_of_ble_eq_true rfl) ⟨by show _ ≤ 601024; omega, by show _ ≤ 7293034; omega⟩ (mo_X12_lacks (fun v P hf => ?_) hN)
  dsimp only [zaft]
  obtain ⟨hf1, hf2, hR⟩ := hf
  refine zr_istore (pc := 1993) S dL_law_1993 (by decide) ?_
  dsimp only [zst1, zst2, zset, zget, zlong]
  refine zr_aload_n (pc := 1995) S dL_law_1995 rfl ?_
  refine zr_invV (pc := 1996) S [] (m_X12_thrown _) kL_law_155 dL_law_1996 rfl (Nat.le_of_ble_eq_true rfl) rfl (Nat.le_of_ble_eq_true rfl) ⟨by show _ ≤ 601024; omega, by show _ ≤ 7293034; omega⟩ (us_X12_thrown ?_)
  dsimp only [zaft]
  refine zr_iload (pc := 1999) S dL_law_1999 rfl ?_
  refine zr_icmp_eq (pc := 2001) (tgt := 2006) S dL_law_2001 (by decide) (fun c2001 => ?_) (fun c2001 => absurd c2001 (by omega))
  refine zr_iload (pc := 2006) S dL_law_2006 rfl ?_
  refine zr_if_ne (pc := 2008) (tgt := 2023) S dL_law_2008 (by decide) (fun c2008 => ?_) (fun c2008 => ?_)
  · refine zr_goto (pc := 2023) (tgt := 2987) S dL_law_2023 (by decide) ?_
    exact zr_fg zfg8 (zr_wd ⟨by show _ ≤ b.1 + 10; omega, by show _ ≤ b.2 + 60; omega⟩ (hE _ hR))
  · have h9 := hf2 (by omega)
    refine zr_aload_n (pc := 2011) S dL_law_2011 rfl ?_
    refine zr_iconst (pc := 2012) S dL_law_2012 (by unfold zrI; omega) ?_
    refine zr_laload (pc := 2013) S dL_law_2013 rfl (Nat.le_of_ble_eq_true rfl) (by omega) (by omega) ?_
    dsimp only [Int.reduceToNat]
    refine zr_iload (pc := 2014) S dL_law_2014 rfl ?_
    refine zr_i2l (pc := 2016) S dL_law_2016 ?_
    refine zr_lcmp_eq (pc := 2017) (tgt := 2023) S dL_law_2017 dL_law_2018 (by decide) (fun c2017 => ?_) (fun c2017 => absurd c2017 (by omega))
    refine zr_goto (pc := 2023) (tgt := 2987) S dL_law_2023 (by decide) ?_
    exact zr_fg zfg8 (zr_wd ⟨by show _ ≤ b.1 + 10; omega, by show _ ≤ b.2 + 60; omega⟩ (hE _ hR))
theorem kL_law_252 : ∀ (s9 : State) (a9 : Array Value), (∀ w ∈ wzLaw, w.before a9 s9 = true) → vx_CSW room_1 s9 a9 RL 252 yL_made cL_made 4 (some .int) [(0, 9, 12, 13)] wzL_made rmL_made 1 6 3 := zcSW (zWi_19 _ (List.mem_of_getElem? (i := 26) rfl)) (zWi_30 _ (List.mem_of_getElem? (i := 30) rfl)) (zWi_12 _ (List.mem_of_getElem? (i := 8) rfl)) (zWi_6 _ (List.mem_of_getElem? (i := 26) rfl)) (by decide +kernel) rfl rfl ⟨Nat.le_of_ble_eq_true rfl, Nat.le_of_ble_eq_true rfl⟩
theorem kL_law_254 : ∀ (s9 : State) (a9 : Array Value), (∀ w ∈ wzLaw, w.before a9 s9 = true) → CallW room_1 s9 a9 RL RX12 254 yX12_made cX12_made 4 (some .int) wzX12_made rmX12_made 0 0 1 := zcV (zWi_19 _ (List.mem_of_getElem? (i := 27) rfl)) (zWi_14 _ (List.mem_of_getElem? (i := 40) rfl)) (zWi_27 _ (List.mem_of_getElem? (i := 31) rfl)) (zWi_12 _ (List.mem_of_getElem? (i := 13) rfl)) (zWi_3 _ (List.mem_of_getElem? (i := 22) rfl)) (by decide +kernel) rfl rfl ⟨Nat.le_of_ble_eq_true rfl, Nat.le_of_ble_eq_true rfl⟩
set_option maxRecDepth 20000 in
set_option maxHeartbeats 4000000 in
theorem ca_made {E : zE} {X : zX} {L : Nat} {xs : Nat → Int32} {M : zM} {b : Nat × Nat} {B p : Int} (S : zS (zg E) X cL_law 8 wzLaw RL (some .boolean)) (hs : zSc (zg E) X L xs) (hp0 : 0 ≤ p) (hp7 : p + 7 ≤ L) (hL : L ≤ 3584) (g : RR B M) (hB : B ≤ 12300) (hb : b.1 ≤ 100000 ∧ b.2 ≤ 1000000) (hE : ∀ M', RR (B + 24) M' → zK (zg E) room_1 8 (lawQ, 601024, 7293034) X (b.1 + 10, b.2 + 60) 2987 [some (zR 2000), some (zR 0), some (zR 180), some (zR 201), some (zI p), none, none, none] [] M') : zK (zg E) room_1 8 (lawQ, 601024, 7293034) X b 2026 [some (zR 2000), some (zR 0), some (zR 180), some (zR 201), some (zI p), none, none, none] [] M := by
  refine zr_aload_n (pc := 2026) S dL_law_2026 rfl ?_
  refine zr_aload_n (pc := 2027) S dL_law_2027 rfl ?_
  refine zr_iload (pc := 2028) S dL_law_2028 rfl ?_
  refine zr_iconst (pc := 2030) S dL_law_2030 (by unfold zrI; omega) ?_
  refine zr_iadd (pc := 2031) S dL_law_2031 (by unfold zrI; omega) ?_
  refine zr_sld (pc := 2032) S hs dL_law_2032 (by omega) (by omega) ?_
  refine zr_aload_n (pc := 2033) S dL_law_2033 rfl ?_
  refine zr_invSW (pc := 2034) S [zR _, zI _, zR _] (m_L_made _) kL_law_252 dL_law_2034 (Nat.le_of_ble_eq_true rfl) ⟨by show _ ≤ 601024; omega, by show _ ≤ 7293034; omega⟩ (⟨_, rfl, ?_⟩)
  suffices hc : ∀ (k : Int) (N : zM), sp_X12_made _ N (fin B k) → zaft (zg E) room_1 8 (lawQ, 601024, 7293034) X _ _ _ _ (some (zI k)) N from mo_X11_made (fun v N h => hpm hc h) (fun _ _ _ h => hpm hc h) (step_made g)
  intro k N hN
  dsimp only [zaft]
  refine zr_istore (pc := 2037) S dL_law_2037 (by decide) ?_
  dsimp only [zst1, zst2, zset, zget, zlong]
  refine zr_aload_n (pc := 2039) S dL_law_2039 rfl ?_
  refine zr_aload_n (pc := 2040) S dL_law_2040 rfl ?_
  refine zr_iload (pc := 2041) S dL_law_2041 rfl ?_
  refine zr_iconst (pc := 2043) S dL_law_2043 (by unfold zrI; omega) ?_
  refine zr_iadd (pc := 2044) S dL_law_2044 (by unfold zrI; omega) ?_
  refine zr_sld (pc := 2045) S hs dL_law_2045 (by omega) (by omega) ?_
  refine zr_invV (pc := 2046) S [zI _] (m_X12_made _) kL_law_254 dL_law_2046 rfl (Nat.le_of_ble_eq_true rfl) rfl (Nat.le_of_ble_eq_true rfl) ⟨by show _ ≤ 601024; omega, by show _ ≤ 7293034; omega⟩ (mo_X12_made (fun v P hf => ?_) hN)
  dsimp only [zaft]
  obtain ⟨hf1, hf2, hR⟩ := hf
  refine zr_istore (pc := 2049) S dL_law_2049 (by decide) ?_
  dsimp only [zst1, zst2, zset, zget, zlong]
  refine zr_aload_n (pc := 2051) S dL_law_2051 rfl ?_
  refine zr_invV (pc := 2052) S [] (m_X12_thrown _) kL_law_155 dL_law_2052 rfl (Nat.le_of_ble_eq_true rfl) rfl (Nat.le_of_ble_eq_true rfl) ⟨by show _ ≤ 601024; omega, by show _ ≤ 7293034; omega⟩ (us_X12_thrown ?_)
  dsimp only [zaft]
  refine zr_iload (pc := 2055) S dL_law_2055 rfl ?_
  refine zr_icmp_eq (pc := 2057) (tgt := 2062) S dL_law_2057 (by decide) (fun c2057 => ?_) (fun c2057 => absurd c2057 (by omega))
  refine zr_iload (pc := 2062) S dL_law_2062 rfl ?_
  refine zr_if_ne (pc := 2064) (tgt := 2079) S dL_law_2064 (by decide) (fun c2064 => ?_) (fun c2064 => ?_)
  · refine zr_goto (pc := 2079) (tgt := 2987) S dL_law_2079 (by decide) ?_
    exact zr_fg zfg8 (zr_wd ⟨by show _ ≤ b.1 + 10; omega, by show _ ≤ b.2 + 60; omega⟩ (hE _ hR))
  · have h9 := hf2 (by omega)
    refine zr_aload_n (pc := 2067) S dL_law_2067 rfl ?_
    refine zr_iconst (pc := 2068) S dL_law_2068 (by unfold zrI; omega) ?_
    refine zr_laload (pc := 2069) S dL_law_2069 rfl (Nat.le_of_ble_eq_true rfl) (by omega) (by omega) ?_
    dsimp only [Int.reduceToNat]
    refine zr_iload (pc := 2070) S dL_law_2070 rfl ?_
    refine zr_i2l (pc := 2072) S dL_law_2072 ?_
    refine zr_lcmp_eq (pc := 2073) (tgt := 2079) S dL_law_2073 dL_law_2074 (by decide) (fun c2073 => ?_) (fun c2073 => absurd c2073 (by omega))
    refine zr_goto (pc := 2079) (tgt := 2987) S dL_law_2079 (by decide) ?_
    exact zr_fg zfg8 (zr_wd ⟨by show _ ≤ b.1 + 10; omega, by show _ ≤ b.2 + 60; omega⟩ (hE _ hR))
theorem kL_law_255 : ∀ (s9 : State) (a9 : Array Value), (∀ w ∈ wzLaw, w.before a9 s9 = true) → vx_CSW room_1 s9 a9 RL 255 yL_wheel cL_wheel 5 (some .int) [(0, 10, 13, 19), (0, 10, 17, 13)] wzL_wheel rmL_wheel 2 12 4 := zcSW (zWi_19 _ (List.mem_of_getElem? (i := 28) rfl)) (zWi_31 _ (List.mem_of_getElem? (i := 0) rfl)) (zWi_12 _ (List.mem_of_getElem? (i := 8) rfl)) (zWi_6 _ (List.mem_of_getElem? (i := 46) rfl)) (by decide +kernel) rfl rfl ⟨Nat.le_of_ble_eq_true rfl, Nat.le_of_ble_eq_true rfl⟩
theorem kL_law_257 : ∀ (s9 : State) (a9 : Array Value), (∀ w ∈ wzLaw, w.before a9 s9 = true) → CallW room_1 s9 a9 RL RX12 257 yX12_wheel cX12_wheel 3 (some .int) wzX12_wheel rmX12_wheel 0 0 2 := zcV (zWi_19 _ (List.mem_of_getElem? (i := 29) rfl)) (zWi_15 _ (List.mem_of_getElem? (i := 33) rfl)) (zWi_28 _ (List.mem_of_getElem? (i := 24) rfl)) (zWi_12 _ (List.mem_of_getElem? (i := 13) rfl)) (zWi_4 _ (List.mem_of_getElem? (i := 15) rfl)) (by decide +kernel) rfl rfl ⟨Nat.le_of_ble_eq_true rfl, Nat.le_of_ble_eq_true rfl⟩
set_option maxRecDepth 20000 in
set_option maxHeartbeats 4000000 in
theorem ca_wheel {E : zE} {X : zX} {L : Nat} {xs : Nat → Int32} {M : zM} {b : Nat × Nat} {B p : Int} (S : zS (zg E) X cL_law 8 wzLaw RL (some .boolean)) (hs : zSc (zg E) X L xs) (hp0 : 0 ≤ p) (hp7 : p + 7 ≤ L) (hL : L ≤ 3584) (g : RR B M) (hB : B ≤ 12300) (hb : b.1 ≤ 100000 ∧ b.2 ≤ 1000000) (hE : ∀ M', RR (B + 24) M' → zK (zg E) room_1 8 (lawQ, 601024, 7293034) X (b.1 + 10, b.2 + 60) 2987 [some (zR 2000), some (zR 0), some (zR 180), some (zR 201), some (zI p), none, none, none] [] M') : zK (zg E) room_1 8 (lawQ, 601024, 7293034) X b 2082 [some (zR 2000), some (zR 0), some (zR 180), some (zR 201), some (zI p), none, none, none] [] M := by
  refine zr_aload_n (pc := 2082) S dL_law_2082 rfl ?_
  refine zr_aload_n (pc := 2083) S dL_law_2083 rfl ?_
  refine zr_iload (pc := 2084) S dL_law_2084 rfl ?_
  refine zr_iconst (pc := 2086) S dL_law_2086 (by unfold zrI; omega) ?_
  refine zr_iadd (pc := 2087) S dL_law_2087 (by unfold zrI; omega) ?_
  refine zr_sld (pc := 2088) S hs dL_law_2088 (by omega) (by omega) ?_
  refine zr_aload_n (pc := 2089) S dL_law_2089 rfl ?_
  refine zr_iload (pc := 2090) S dL_law_2090 rfl ?_
  refine zr_iconst (pc := 2092) S dL_law_2092 (by unfold zrI; omega) ?_
  refine zr_iadd (pc := 2093) S dL_law_2093 (by unfold zrI; omega) ?_
  refine zr_sld (pc := 2094) S hs dL_law_2094 (by omega) (by omega) ?_
  refine zr_aload_n (pc := 2095) S dL_law_2095 rfl ?_
  refine zr_invSW (pc := 2096) S [zR _, zI _, zI _, zR _] (m_L_wheel _) kL_law_255 dL_law_2096 (Nat.le_of_ble_eq_true rfl) ⟨by show _ ≤ 601024; omega, by show _ ≤ 7293034; omega⟩ (⟨_, _, rfl, ?_⟩)
  suffices hc : ∀ (k : Int) (N : zM), sp_X12_wheel _ N (fin B k) → zaft (zg E) room_1 8 (lawQ, 601024, 7293034) X _ _ _ _ (some (zI k)) N from mo_X11_wheel (fun v N h => hpm hc h) (fun _ _ _ h => hpm hc h) (step_wheel g hB)
  intro k N hN
  dsimp only [zaft]
  refine zr_istore (pc := 2099) S dL_law_2099 (by decide) ?_
  dsimp only [zst1, zst2, zset, zget, zlong]
  refine zr_aload_n (pc := 2101) S dL_law_2101 rfl ?_
  refine zr_aload_n (pc := 2102) S dL_law_2102 rfl ?_
  refine zr_iload (pc := 2103) S dL_law_2103 rfl ?_
  refine zr_iconst (pc := 2105) S dL_law_2105 (by unfold zrI; omega) ?_
  refine zr_iadd (pc := 2106) S dL_law_2106 (by unfold zrI; omega) ?_
  refine zr_sld (pc := 2107) S hs dL_law_2107 (by omega) (by omega) ?_
  refine zr_aload_n (pc := 2108) S dL_law_2108 rfl ?_
  refine zr_iload (pc := 2109) S dL_law_2109 rfl ?_
  refine zr_iconst (pc := 2111) S dL_law_2111 (by unfold zrI; omega) ?_
  refine zr_iadd (pc := 2112) S dL_law_2112 (by unfold zrI; omega) ?_
  refine zr_sld (pc := 2113) S hs dL_law_2113 (by omega) (by omega) ?_
  refine zr_invV (pc := 2114) S [zI _, zI _] (m_X12_wheel _) kL_law_257 dL_law_2114 rfl (Nat.le_of_ble_eq_true rfl) rfl (Nat.le_of_ble_eq_true rfl) ⟨by show _ ≤ 601024; omega, by show _ ≤ 7293034; omega⟩ (mo_X12_wheel (fun v P hf => ?_) hN)
  dsimp only [zaft]
  obtain ⟨hf1, hf2, hR⟩ := hf
  refine zr_istore (pc := 2117) S dL_law_2117 (by decide) ?_
  dsimp only [zst1, zst2, zset, zget, zlong]
  refine zr_aload_n (pc := 2119) S dL_law_2119 rfl ?_
  refine zr_invV (pc := 2120) S [] (m_X12_thrown _) kL_law_155 dL_law_2120 rfl (Nat.le_of_ble_eq_true rfl) rfl (Nat.le_of_ble_eq_true rfl) ⟨by show _ ≤ 601024; omega, by show _ ≤ 7293034; omega⟩ (us_X12_thrown ?_)
  dsimp only [zaft]
  refine zr_iload (pc := 2123) S dL_law_2123 rfl ?_
  refine zr_icmp_eq (pc := 2125) (tgt := 2130) S dL_law_2125 (by decide) (fun c2125 => ?_) (fun c2125 => absurd c2125 (by omega))
  refine zr_iload (pc := 2130) S dL_law_2130 rfl ?_
  refine zr_if_ne (pc := 2132) (tgt := 2147) S dL_law_2132 (by decide) (fun c2132 => ?_) (fun c2132 => ?_)
  · refine zr_goto (pc := 2147) (tgt := 2987) S dL_law_2147 (by decide) ?_
    exact zr_fg zfg8 (zr_wd ⟨by show _ ≤ b.1 + 10; omega, by show _ ≤ b.2 + 60; omega⟩ (hE _ hR))
  · have h9 := hf2 (by omega)
    refine zr_aload_n (pc := 2135) S dL_law_2135 rfl ?_
    refine zr_iconst (pc := 2136) S dL_law_2136 (by unfold zrI; omega) ?_
    refine zr_laload (pc := 2137) S dL_law_2137 rfl (Nat.le_of_ble_eq_true rfl) (by omega) (by omega) ?_
    dsimp only [Int.reduceToNat]
    refine zr_iload (pc := 2138) S dL_law_2138 rfl ?_
    refine zr_i2l (pc := 2140) S dL_law_2140 ?_
    refine zr_lcmp_eq (pc := 2141) (tgt := 2147) S dL_law_2141 dL_law_2142 (by decide) (fun c2141 => ?_) (fun c2141 => absurd c2141 (by omega))
    refine zr_goto (pc := 2147) (tgt := 2987) S dL_law_2147 (by decide) ?_
    exact zr_fg zfg8 (zr_wd ⟨by show _ ≤ b.1 + 10; omega, by show _ ≤ b.2 + 60; omega⟩ (hE _ hR))
theorem kL_law_258 : ∀ (s9 : State) (a9 : Array Value), (∀ w ∈ wzLaw, w.before a9 s9 = true) → vx_CSW room_1 s9 a9 RL 258 yL_cost cL_cost 5 (some .int) [(0, 10, 13, 19), (0, 10, 17, 13)] wzL_cost rmL_cost 2 12 4 := zcSW (zWi_19 _ (List.mem_of_getElem? (i := 30) rfl)) (zWi_30 _ (List.mem_of_getElem? (i := 19) rfl)) (zWi_12 _ (List.mem_of_getElem? (i := 8) rfl)) (zWi_6 _ (List.mem_of_getElem? (i := 15) rfl)) (by decide +kernel) rfl rfl ⟨Nat.le_of_ble_eq_true rfl, Nat.le_of_ble_eq_true rfl⟩
theorem kL_law_260 : ∀ (s9 : State) (a9 : Array Value), (∀ w ∈ wzLaw, w.before a9 s9 = true) → CallW room_1 s9 a9 RL RX12 260 yX12_cost cX12_cost 3 (some .int) wzX12_cost rmX12_cost 0 0 2 := zcV (zWi_19 _ (List.mem_of_getElem? (i := 31) rfl)) (zWi_14 _ (List.mem_of_getElem? (i := 1) rfl)) (zWi_26 _ (List.mem_of_getElem? (i := 43) rfl)) (zWi_12 _ (List.mem_of_getElem? (i := 13) rfl)) (zWi_2 _ (List.mem_of_getElem? (i := 30) rfl)) (by decide +kernel) rfl rfl ⟨Nat.le_of_ble_eq_true rfl, Nat.le_of_ble_eq_true rfl⟩
set_option maxRecDepth 20000 in
set_option maxHeartbeats 4000000 in
theorem ca_cost {E : zE} {X : zX} {L : Nat} {xs : Nat → Int32} {M : zM} {b : Nat × Nat} {B p : Int} (S : zS (zg E) X cL_law 8 wzLaw RL (some .boolean)) (hs : zSc (zg E) X L xs) (hp0 : 0 ≤ p) (hp7 : p + 7 ≤ L) (hL : L ≤ 3584) (g : RR B M) (hB : B ≤ 12300) (hb : b.1 ≤ 100000 ∧ b.2 ≤ 1000000) (hE : ∀ M', RR (B + 24) M' → zK (zg E) room_1 8 (lawQ, 601024, 7293034) X (b.1 + 10, b.2 + 60) 2987 [some (zR 2000), some (zR 0), some (zR 180), some (zR 201), some (zI p), none, none, none] [] M') : zK (zg E) room_1 8 (lawQ, 601024, 7293034) X b 2150 [some (zR 2000), some (zR 0), some (zR 180), some (zR 201), some (zI p), none, none, none] [] M := by
  refine zr_aload_n (pc := 2150) S dL_law_2150 rfl ?_
  refine zr_aload_n (pc := 2151) S dL_law_2151 rfl ?_
  refine zr_iload (pc := 2152) S dL_law_2152 rfl ?_
  refine zr_iconst (pc := 2154) S dL_law_2154 (by unfold zrI; omega) ?_
  refine zr_iadd (pc := 2155) S dL_law_2155 (by unfold zrI; omega) ?_
  refine zr_sld (pc := 2156) S hs dL_law_2156 (by omega) (by omega) ?_
  refine zr_aload_n (pc := 2157) S dL_law_2157 rfl ?_
  refine zr_iload (pc := 2158) S dL_law_2158 rfl ?_
  refine zr_iconst (pc := 2160) S dL_law_2160 (by unfold zrI; omega) ?_
  refine zr_iadd (pc := 2161) S dL_law_2161 (by unfold zrI; omega) ?_
  refine zr_sld (pc := 2162) S hs dL_law_2162 (by omega) (by omega) ?_
  refine zr_aload_n (pc := 2163) S dL_law_2163 rfl ?_
  refine zr_invSW (pc := 2164) S [zR _, zI _, zI _, zR _] (m_L_cost _) kL_law_258 dL_law_2164 (Nat.le_of_ble_eq_true rfl) ⟨by show _ ≤ 601024; omega, by show _ ≤ 7293034; omega⟩ (⟨_, _, rfl, ?_⟩)
  suffices hc : ∀ (k : Int) (N : zM), sp_X12_cost _ N (fin B k) → zaft (zg E) room_1 8 (lawQ, 601024, 7293034) X _ _ _ _ (some (zI k)) N from mo_X11_cost (fun v N h => hpm hc h) (fun _ _ _ h => hpm hc h) (step_cost g)
  intro k N hN
  dsimp only [zaft]
  refine zr_istore (pc := 2167) S dL_law_2167 (by decide) ?_
  dsimp only [zst1, zst2, zset, zget, zlong]
  refine zr_aload_n (pc := 2169) S dL_law_2169 rfl ?_
  refine zr_aload_n (pc := 2170) S dL_law_2170 rfl ?_
  refine zr_iload (pc := 2171) S dL_law_2171 rfl ?_
  refine zr_iconst (pc := 2173) S dL_law_2173 (by unfold zrI; omega) ?_
  refine zr_iadd (pc := 2174) S dL_law_2174 (by unfold zrI; omega) ?_
  refine zr_sld (pc := 2175) S hs dL_law_2175 (by omega) (by omega) ?_
  refine zr_aload_n (pc := 2176) S dL_law_2176 rfl ?_
  refine zr_iload (pc := 2177) S dL_law_2177 rfl ?_
  refine zr_iconst (pc := 2179) S dL_law_2179 (by unfold zrI; omega) ?_
  refine zr_iadd (pc := 2180) S dL_law_2180 (by unfold zrI; omega) ?_
  refine zr_sld (pc := 2181) S hs dL_law_2181 (by omega) (by omega) ?_
  refine zr_invV (pc := 2182) S [zI _, zI _] (m_X12_cost _) kL_law_260 dL_law_2182 rfl (Nat.le_of_ble_eq_true rfl) rfl (Nat.le_of_ble_eq_true rfl) ⟨by show _ ≤ 601024; omega, by show _ ≤ 7293034; omega⟩ (mo_X12_cost (fun v P hf => ?_) hN)
  dsimp only [zaft]
  obtain ⟨hf1, hf2, hR⟩ := hf
  refine zr_istore (pc := 2185) S dL_law_2185 (by decide) ?_
  dsimp only [zst1, zst2, zset, zget, zlong]
  refine zr_aload_n (pc := 2187) S dL_law_2187 rfl ?_
  refine zr_invV (pc := 2188) S [] (m_X12_thrown _) kL_law_155 dL_law_2188 rfl (Nat.le_of_ble_eq_true rfl) rfl (Nat.le_of_ble_eq_true rfl) ⟨by show _ ≤ 601024; omega, by show _ ≤ 7293034; omega⟩ (us_X12_thrown ?_)
  dsimp only [zaft]
  refine zr_iload (pc := 2191) S dL_law_2191 rfl ?_
  refine zr_icmp_eq (pc := 2193) (tgt := 2198) S dL_law_2193 (by decide) (fun c2193 => ?_) (fun c2193 => absurd c2193 (by omega))
  refine zr_iload (pc := 2198) S dL_law_2198 rfl ?_
  refine zr_if_ne (pc := 2200) (tgt := 2215) S dL_law_2200 (by decide) (fun c2200 => ?_) (fun c2200 => ?_)
  · refine zr_goto (pc := 2215) (tgt := 2987) S dL_law_2215 (by decide) ?_
    exact zr_fg zfg8 (zr_wd ⟨by show _ ≤ b.1 + 10; omega, by show _ ≤ b.2 + 60; omega⟩ (hE _ hR))
  · have h9 := hf2 (by omega)
    refine zr_aload_n (pc := 2203) S dL_law_2203 rfl ?_
    refine zr_iconst (pc := 2204) S dL_law_2204 (by unfold zrI; omega) ?_
    refine zr_laload (pc := 2205) S dL_law_2205 rfl (Nat.le_of_ble_eq_true rfl) (by omega) (by omega) ?_
    dsimp only [Int.reduceToNat]
    refine zr_iload (pc := 2206) S dL_law_2206 rfl ?_
    refine zr_i2l (pc := 2208) S dL_law_2208 ?_
    refine zr_lcmp_eq (pc := 2209) (tgt := 2215) S dL_law_2209 dL_law_2210 (by decide) (fun c2209 => ?_) (fun c2209 => absurd c2209 (by omega))
    refine zr_goto (pc := 2215) (tgt := 2987) S dL_law_2215 (by decide) ?_
    exact zr_fg zfg8 (zr_wd ⟨by show _ ≤ b.1 + 10; omega, by show _ ≤ b.2 + 60; omega⟩ (hE _ hR))
theorem kL_law_261 : ∀ (s9 : State) (a9 : Array Value), (∀ w ∈ wzLaw, w.before a9 s9 = true) → vx_CSW room_1 s9 a9 RL 261 yL_explain cL_explain 4 (some .int) [(0, 9, 12, 13)] wzL_explain rmL_explain 1 6 3 := zcSW (zWi_19 _ (List.mem_of_getElem? (i := 32) rfl)) (zWi_30 _ (List.mem_of_getElem? (i := 21) rfl)) (zWi_12 _ (List.mem_of_getElem? (i := 8) rfl)) (zWi_6 _ (List.mem_of_getElem? (i := 17) rfl)) (by decide +kernel) rfl rfl ⟨Nat.le_of_ble_eq_true rfl, Nat.le_of_ble_eq_true rfl⟩
theorem kL_law_263 : ∀ (s9 : State) (a9 : Array Value), (∀ w ∈ wzLaw, w.before a9 s9 = true) → CallW room_1 s9 a9 RL RX12 263 yX12_explain cX12_explain 8 (some .int) wzX12_explain rmX12_explain 0 0 1 := zcV (zWi_19 _ (List.mem_of_getElem? (i := 33) rfl)) (zWi_14 _ (List.mem_of_getElem? (i := 9) rfl)) (zWi_27 _ (List.mem_of_getElem? (i := 1) rfl)) (zWi_12 _ (List.mem_of_getElem? (i := 13) rfl)) (zWi_2 _ (List.mem_of_getElem? (i := 38) rfl)) (by decide +kernel) rfl rfl ⟨Nat.le_of_ble_eq_true rfl, Nat.le_of_ble_eq_true rfl⟩
set_option maxRecDepth 20000 in
set_option maxHeartbeats 4000000 in
theorem ca_explain {E : zE} {X : zX} {L : Nat} {xs : Nat → Int32} {M : zM} {b : Nat × Nat} {B p : Int} (S : zS (zg E) X cL_law 8 wzLaw RL (some .boolean)) (hs : zSc (zg E) X L xs) (hp0 : 0 ≤ p) (hp7 : p + 7 ≤ L) (hL : L ≤ 3584) (g : RR B M) (hB : B ≤ 12300) (hb : b.1 ≤ 100000 ∧ b.2 ≤ 1000000) (hE : ∀ M', RR (B + 24) M' → zK (zg E) room_1 8 (lawQ, 601024, 7293034) X (b.1 + 10, b.2 + 60) 2987 [some (zR 2000), some (zR 0), some (zR 180), some (zR 201), some (zI p), none, none, none] [] M') : zK (zg E) room_1 8 (lawQ, 601024, 7293034) X b 2218 [some (zR 2000), some (zR 0), some (zR 180), some (zR 201), some (zI p), none, none, none] [] M := by
  refine zr_aload_n (pc := 2218) S dL_law_2218 rfl ?_
  refine zr_aload_n (pc := 2219) S dL_law_2219 rfl ?_
  refine zr_iload (pc := 2220) S dL_law_2220 rfl ?_
  refine zr_iconst (pc := 2222) S dL_law_2222 (by unfold zrI; omega) ?_
  refine zr_iadd (pc := 2223) S dL_law_2223 (by unfold zrI; omega) ?_
  refine zr_sld (pc := 2224) S hs dL_law_2224 (by omega) (by omega) ?_
  refine zr_aload_n (pc := 2225) S dL_law_2225 rfl ?_
  refine zr_invSW (pc := 2226) S [zR _, zI _, zR _] (m_L_explain _) kL_law_261 dL_law_2226 (Nat.le_of_ble_eq_true rfl) ⟨by show _ ≤ 601024; omega, by show _ ≤ 7293034; omega⟩ (⟨_, rfl, ?_⟩)
  suffices hc : ∀ (k : Int) (N : zM), sp_X12_explain _ N (fin B k) → zaft (zg E) room_1 8 (lawQ, 601024, 7293034) X _ _ _ _ (some (zI k)) N from mo_X11_explain (fun v N h => hpm hc h) (fun _ _ _ h => hpm hc h) (step_explain g hB)
  intro k N hN
  dsimp only [zaft]
  refine zr_istore (pc := 2229) S dL_law_2229 (by decide) ?_
  dsimp only [zst1, zst2, zset, zget, zlong]
  refine zr_aload_n (pc := 2231) S dL_law_2231 rfl ?_
  refine zr_aload_n (pc := 2232) S dL_law_2232 rfl ?_
  refine zr_iload (pc := 2233) S dL_law_2233 rfl ?_
  refine zr_iconst (pc := 2235) S dL_law_2235 (by unfold zrI; omega) ?_
  refine zr_iadd (pc := 2236) S dL_law_2236 (by unfold zrI; omega) ?_
  refine zr_sld (pc := 2237) S hs dL_law_2237 (by omega) (by omega) ?_
  refine zr_invV (pc := 2238) S [zI _] (m_X12_explain _) kL_law_263 dL_law_2238 rfl (Nat.le_of_ble_eq_true rfl) rfl (Nat.le_of_ble_eq_true rfl) ⟨by show _ ≤ 601024; omega, by show _ ≤ 7293034; omega⟩ (mo_X12_explain (fun v P hf => ?_) hN)
  dsimp only [zaft]
  obtain ⟨hf1, hf2, hR⟩ := hf
  refine zr_istore (pc := 2241) S dL_law_2241 (by decide) ?_
  dsimp only [zst1, zst2, zset, zget, zlong]
  refine zr_aload_n (pc := 2243) S dL_law_2243 rfl ?_
  refine zr_invV (pc := 2244) S [] (m_X12_thrown _) kL_law_155 dL_law_2244 rfl (Nat.le_of_ble_eq_true rfl) rfl (Nat.le_of_ble_eq_true rfl) ⟨by show _ ≤ 601024; omega, by show _ ≤ 7293034; omega⟩ (us_X12_thrown ?_)
  dsimp only [zaft]
  refine zr_iload (pc := 2247) S dL_law_2247 rfl ?_
  refine zr_icmp_eq (pc := 2249) (tgt := 2254) S dL_law_2249 (by decide) (fun c2249 => ?_) (fun c2249 => absurd c2249 (by omega))
  refine zr_iload (pc := 2254) S dL_law_2254 rfl ?_
  refine zr_if_ne (pc := 2256) (tgt := 2271) S dL_law_2256 (by decide) (fun c2256 => ?_) (fun c2256 => ?_)
  · refine zr_goto (pc := 2271) (tgt := 2987) S dL_law_2271 (by decide) ?_
    exact zr_fg zfg8 (zr_wd ⟨by show _ ≤ b.1 + 10; omega, by show _ ≤ b.2 + 60; omega⟩ (hE _ hR))
  · have h9 := hf2 (by omega)
    refine zr_aload_n (pc := 2259) S dL_law_2259 rfl ?_
    refine zr_iconst (pc := 2260) S dL_law_2260 (by unfold zrI; omega) ?_
    refine zr_laload (pc := 2261) S dL_law_2261 rfl (Nat.le_of_ble_eq_true rfl) (by omega) (by omega) ?_
    dsimp only [Int.reduceToNat]
    refine zr_iload (pc := 2262) S dL_law_2262 rfl ?_
    refine zr_i2l (pc := 2264) S dL_law_2264 ?_
    refine zr_lcmp_eq (pc := 2265) (tgt := 2271) S dL_law_2265 dL_law_2266 (by decide) (fun c2265 => ?_) (fun c2265 => absurd c2265 (by omega))
    refine zr_goto (pc := 2271) (tgt := 2987) S dL_law_2271 (by decide) ?_
    exact zr_fg zfg8 (zr_wd ⟨by show _ ≤ b.1 + 10; omega, by show _ ≤ b.2 + 60; omega⟩ (hE _ hR))
theorem kL_law_264 : ∀ (s9 : State) (a9 : Array Value), (∀ w ∈ wzLaw, w.before a9 s9 = true) → vx_CSW room_1 s9 a9 RL 264 yL_buyer cL_buyer 9 (some .int) [(0, 18, 21, 19), (0, 18, 25, 13)] wzL_buyer rmL_buyer 6 36 8 := zcSW (zWi_19 _ (List.mem_of_getElem? (i := 34) rfl)) (zWi_30 _ (List.mem_of_getElem? (i := 17) rfl)) (zWi_12 _ (List.mem_of_getElem? (i := 8) rfl)) (zWi_6 _ (List.mem_of_getElem? (i := 13) rfl)) (by decide +kernel) rfl rfl ⟨Nat.le_of_ble_eq_true rfl, Nat.le_of_ble_eq_true rfl⟩
theorem kL_law_267 : ∀ (s9 : State) (a9 : Array Value), (∀ w ∈ wzLaw, w.before a9 s9 = true) → CallW room_1 s9 a9 RL RX12 267 yX12_buyer cX12_buyer 10 (some .int) wzX12_buyer rmX12_buyer 0 0 6 := zcV (zWi_19 _ (List.mem_of_getElem? (i := 35) rfl)) (zWi_13 _ (List.mem_of_getElem? (i := 47) rfl)) (zWi_26 _ (List.mem_of_getElem? (i := 39) rfl)) (zWi_12 _ (List.mem_of_getElem? (i := 13) rfl)) (zWi_2 _ (List.mem_of_getElem? (i := 26) rfl)) (by decide +kernel) rfl rfl ⟨Nat.le_of_ble_eq_true rfl, Nat.le_of_ble_eq_true rfl⟩
set_option maxRecDepth 20000 in
set_option maxHeartbeats 4000000 in
theorem ca_buyer {E : zE} {X : zX} {L : Nat} {xs : Nat → Int32} {M : zM} {b : Nat × Nat} {B p : Int} (S : zS (zg E) X cL_law 8 wzLaw RL (some .boolean)) (hs : zSc (zg E) X L xs) (hp0 : 0 ≤ p) (hp7 : p + 7 ≤ L) (hL : L ≤ 3584) (g : RR B M) (hB : B ≤ 12300) (hb : b.1 ≤ 100000 ∧ b.2 ≤ 1000000) (hE : ∀ M', RR (B + 24) M' → zK (zg E) room_1 8 (lawQ, 601024, 7293034) X (b.1 + 10, b.2 + 60) 2987 [some (zR 2000), some (zR 0), some (zR 180), some (zR 201), some (zI p), none, none, none] [] M') : zK (zg E) room_1 8 (lawQ, 601024, 7293034) X b 2274 [some (zR 2000), some (zR 0), some (zR 180), some (zR 201), some (zI p), none, none, none] [] M := by
  refine zr_aload_n (pc := 2274) S dL_law_2274 rfl ?_
  refine zr_aload_n (pc := 2275) S dL_law_2275 rfl ?_
  refine zr_iload (pc := 2276) S dL_law_2276 rfl ?_
  refine zr_iconst (pc := 2278) S dL_law_2278 (by unfold zrI; omega) ?_
  refine zr_iadd (pc := 2279) S dL_law_2279 (by unfold zrI; omega) ?_
  refine zr_sld (pc := 2280) S hs dL_law_2280 (by omega) (by omega) ?_
  refine zr_aload_n (pc := 2281) S dL_law_2281 rfl ?_
  refine zr_iload (pc := 2282) S dL_law_2282 rfl ?_
  refine zr_iconst (pc := 2284) S dL_law_2284 (by unfold zrI; omega) ?_
  refine zr_iadd (pc := 2285) S dL_law_2285 (by unfold zrI; omega) ?_
  refine zr_sld (pc := 2286) S hs dL_law_2286 (by omega) (by omega) ?_
  refine zr_aload_n (pc := 2287) S dL_law_2287 rfl ?_
  refine zr_iload (pc := 2288) S dL_law_2288 rfl ?_
  refine zr_iconst (pc := 2290) S dL_law_2290 (by unfold zrI; omega) ?_
  refine zr_iadd (pc := 2291) S dL_law_2291 (by unfold zrI; omega) ?_
  refine zr_sld (pc := 2292) S hs dL_law_2292 (by omega) (by omega) ?_
  refine zr_aload_n (pc := 2293) S dL_law_2293 rfl ?_
  refine zr_iload (pc := 2294) S dL_law_2294 rfl ?_
  refine zr_iconst (pc := 2296) S dL_law_2296 (by unfold zrI; omega) ?_
  refine zr_iadd (pc := 2297) S dL_law_2297 (by unfold zrI; omega) ?_
  refine zr_sld (pc := 2298) S hs dL_law_2298 (by omega) (by omega) ?_
  refine zr_aload_n (pc := 2299) S dL_law_2299 rfl ?_
  refine zr_iload (pc := 2300) S dL_law_2300 rfl ?_
  refine zr_iconst (pc := 2302) S dL_law_2302 (by unfold zrI; omega) ?_
  refine zr_iadd (pc := 2303) S dL_law_2303 (by unfold zrI; omega) ?_
  refine zr_sld (pc := 2304) S hs dL_law_2304 (by omega) (by omega) ?_
  refine zr_aload_n (pc := 2305) S dL_law_2305 rfl ?_
  refine zr_iload (pc := 2306) S dL_law_2306 rfl ?_
  refine zr_bipush (pc := 2308) S dL_law_2308 ⟨by unfold zrI; omega, by decide⟩ ?_
  refine zr_iadd (pc := 2310) S dL_law_2310 (by unfold zrI; omega) ?_
  refine zr_sld (pc := 2311) S hs dL_law_2311 (by omega) (by omega) ?_
  refine zr_aload_n (pc := 2312) S dL_law_2312 rfl ?_
  refine zr_invSW (pc := 2313) S [zR _, zI _, zI _, zI _, zI _, zI _, zI _, zR _] (m_L_buyer _) kL_law_264 dL_law_2313 (Nat.le_of_ble_eq_true rfl) ⟨by show _ ≤ 601024; omega, by show _ ≤ 7293034; omega⟩ (⟨_, _, _, _, _, _, rfl, ?_⟩)
  suffices hc : ∀ (k : Int) (N : zM), sp_X12_buyer _ N (fin B k) → zaft (zg E) room_1 8 (lawQ, 601024, 7293034) X _ _ _ _ (some (zI k)) N from mo_X11_buyer (fun v N h => hpm hc h) (fun _ _ _ h => hpm hc h) (step_buyer g)
  intro k N hN
  dsimp only [zaft]
  refine zr_istore (pc := 2316) S dL_law_2316 (by decide) ?_
  dsimp only [zst1, zst2, zset, zget, zlong]
  refine zr_aload_n (pc := 2318) S dL_law_2318 rfl ?_
  refine zr_aload_n (pc := 2319) S dL_law_2319 rfl ?_
  refine zr_iload (pc := 2320) S dL_law_2320 rfl ?_
  refine zr_iconst (pc := 2322) S dL_law_2322 (by unfold zrI; omega) ?_
  refine zr_iadd (pc := 2323) S dL_law_2323 (by unfold zrI; omega) ?_
  refine zr_sld (pc := 2324) S hs dL_law_2324 (by omega) (by omega) ?_
  refine zr_aload_n (pc := 2325) S dL_law_2325 rfl ?_
  refine zr_iload (pc := 2326) S dL_law_2326 rfl ?_
  refine zr_iconst (pc := 2328) S dL_law_2328 (by unfold zrI; omega) ?_
  refine zr_iadd (pc := 2329) S dL_law_2329 (by unfold zrI; omega) ?_
  refine zr_sld (pc := 2330) S hs dL_law_2330 (by omega) (by omega) ?_
  refine zr_aload_n (pc := 2331) S dL_law_2331 rfl ?_
  refine zr_iload (pc := 2332) S dL_law_2332 rfl ?_
  refine zr_iconst (pc := 2334) S dL_law_2334 (by unfold zrI; omega) ?_
  refine zr_iadd (pc := 2335) S dL_law_2335 (by unfold zrI; omega) ?_
  refine zr_sld (pc := 2336) S hs dL_law_2336 (by omega) (by omega) ?_
  refine zr_aload_n (pc := 2337) S dL_law_2337 rfl ?_
  refine zr_iload (pc := 2338) S dL_law_2338 rfl ?_
  refine zr_iconst (pc := 2340) S dL_law_2340 (by unfold zrI; omega) ?_
  refine zr_iadd (pc := 2341) S dL_law_2341 (by unfold zrI; omega) ?_
  refine zr_sld (pc := 2342) S hs dL_law_2342 (by omega) (by omega) ?_
  refine zr_aload_n (pc := 2343) S dL_law_2343 rfl ?_
  refine zr_iload (pc := 2344) S dL_law_2344 rfl ?_
  refine zr_iconst (pc := 2346) S dL_law_2346 (by unfold zrI; omega) ?_
  refine zr_iadd (pc := 2347) S dL_law_2347 (by unfold zrI; omega) ?_
  refine zr_sld (pc := 2348) S hs dL_law_2348 (by omega) (by omega) ?_
  refine zr_aload_n (pc := 2349) S dL_law_2349 rfl ?_
  refine zr_iload (pc := 2350) S dL_law_2350 rfl ?_
  refine zr_bipush (pc := 2352) S dL_law_2352 ⟨by unfold zrI; omega, by decide⟩ ?_
  refine zr_iadd (pc := 2354) S dL_law_2354 (by unfold zrI; omega) ?_
  refine zr_sld (pc := 2355) S hs dL_law_2355 (by omega) (by omega) ?_
  refine zr_invV (pc := 2356) S [zI _, zI _, zI _, zI _, zI _, zI _] (m_X12_buyer _) kL_law_267 dL_law_2356 rfl (Nat.le_of_ble_eq_true rfl) rfl (Nat.le_of_ble_eq_true rfl) ⟨by show _ ≤ 601024; omega, by show _ ≤ 7293034; omega⟩ (mo_X12_buyer (fun v P hf => ?_) hN)
  dsimp only [zaft]
  obtain ⟨hf1, hf2, hR⟩ := hf
  refine zr_istore (pc := 2359) S dL_law_2359 (by decide) ?_
  dsimp only [zst1, zst2, zset, zget, zlong]
  refine zr_aload_n (pc := 2361) S dL_law_2361 rfl ?_
  refine zr_invV (pc := 2362) S [] (m_X12_thrown _) kL_law_155 dL_law_2362 rfl (Nat.le_of_ble_eq_true rfl) rfl (Nat.le_of_ble_eq_true rfl) ⟨by show _ ≤ 601024; omega, by show _ ≤ 7293034; omega⟩ (us_X12_thrown ?_)
  dsimp only [zaft]
  refine zr_iload (pc := 2365) S dL_law_2365 rfl ?_
  refine zr_icmp_eq (pc := 2367) (tgt := 2372) S dL_law_2367 (by decide) (fun c2367 => ?_) (fun c2367 => absurd c2367 (by omega))
  refine zr_iload (pc := 2372) S dL_law_2372 rfl ?_
  refine zr_if_ne (pc := 2374) (tgt := 2389) S dL_law_2374 (by decide) (fun c2374 => ?_) (fun c2374 => ?_)
  · refine zr_goto (pc := 2389) (tgt := 2987) S dL_law_2389 (by decide) ?_
    exact zr_fg zfg8 (zr_wd ⟨by show _ ≤ b.1 + 10; omega, by show _ ≤ b.2 + 60; omega⟩ (hE _ hR))
  · have h9 := hf2 (by omega)
    refine zr_aload_n (pc := 2377) S dL_law_2377 rfl ?_
    refine zr_iconst (pc := 2378) S dL_law_2378 (by unfold zrI; omega) ?_
    refine zr_laload (pc := 2379) S dL_law_2379 rfl (Nat.le_of_ble_eq_true rfl) (by omega) (by omega) ?_
    dsimp only [Int.reduceToNat]
    refine zr_iload (pc := 2380) S dL_law_2380 rfl ?_
    refine zr_i2l (pc := 2382) S dL_law_2382 ?_
    refine zr_lcmp_eq (pc := 2383) (tgt := 2389) S dL_law_2383 dL_law_2384 (by decide) (fun c2383 => ?_) (fun c2383 => absurd c2383 (by omega))
    refine zr_goto (pc := 2389) (tgt := 2987) S dL_law_2389 (by decide) ?_
    exact zr_fg zfg8 (zr_wd ⟨by show _ ≤ b.1 + 10; omega, by show _ ≤ b.2 + 60; omega⟩ (hE _ hR))
theorem kL_law_268 : ∀ (s9 : State) (a9 : Array Value), (∀ w ∈ wzLaw, w.before a9 s9 = true) → vx_CSW room_1 s9 a9 RL 268 yL_most cL_most 4 (some .int) [(0, 8, 11, 13)] wzL_most rmL_most 1 6 3 := zcSW (zWi_19 _ (List.mem_of_getElem? (i := 36) rfl)) (zWi_30 _ (List.mem_of_getElem? (i := 31) rfl)) (zWi_12 _ (List.mem_of_getElem? (i := 8) rfl)) (zWi_6 _ (List.mem_of_getElem? (i := 27) rfl)) (by decide +kernel) rfl rfl ⟨Nat.le_of_ble_eq_true rfl, Nat.le_of_ble_eq_true rfl⟩
theorem kL_law_270 : ∀ (s9 : State) (a9 : Array Value), (∀ w ∈ wzLaw, w.before a9 s9 = true) → CallW room_1 s9 a9 RL RX12 270 yX12_most cX12_most 2 (some .long) wzX12_most rmX12_most 0 0 1 := zcV (zWi_19 _ (List.mem_of_getElem? (i := 37) rfl)) (zWi_14 _ (List.mem_of_getElem? (i := 42) rfl)) (zWi_27 _ (List.mem_of_getElem? (i := 33) rfl)) (zWi_12 _ (List.mem_of_getElem? (i := 13) rfl)) (zWi_3 _ (List.mem_of_getElem? (i := 24) rfl)) (by decide +kernel) rfl rfl ⟨Nat.le_of_ble_eq_true rfl, Nat.le_of_ble_eq_true rfl⟩
set_option maxRecDepth 20000 in
set_option maxHeartbeats 4000000 in
theorem ca_most {E : zE} {X : zX} {L : Nat} {xs : Nat → Int32} {M : zM} {b : Nat × Nat} {B p : Int} (S : zS (zg E) X cL_law 8 wzLaw RL (some .boolean)) (hs : zSc (zg E) X L xs) (hp0 : 0 ≤ p) (hp7 : p + 7 ≤ L) (hL : L ≤ 3584) (g : RR B M) (hB : B ≤ 12300) (hb : b.1 ≤ 100000 ∧ b.2 ≤ 1000000) (hE : ∀ M', RR (B + 24) M' → zK (zg E) room_1 8 (lawQ, 601024, 7293034) X (b.1 + 10, b.2 + 60) 2987 [some (zR 2000), some (zR 0), some (zR 180), some (zR 201), some (zI p), none, none, none] [] M') : zK (zg E) room_1 8 (lawQ, 601024, 7293034) X b 2392 [some (zR 2000), some (zR 0), some (zR 180), some (zR 201), some (zI p), none, none, none] [] M := by
  refine zr_aload_n (pc := 2392) S dL_law_2392 rfl ?_
  refine zr_aload_n (pc := 2393) S dL_law_2393 rfl ?_
  refine zr_iload (pc := 2394) S dL_law_2394 rfl ?_
  refine zr_iconst (pc := 2396) S dL_law_2396 (by unfold zrI; omega) ?_
  refine zr_iadd (pc := 2397) S dL_law_2397 (by unfold zrI; omega) ?_
  refine zr_sld (pc := 2398) S hs dL_law_2398 (by omega) (by omega) ?_
  refine zr_aload_n (pc := 2399) S dL_law_2399 rfl ?_
  refine zr_invSW (pc := 2400) S [zR _, zI _, zR _] (m_L_most _) kL_law_268 dL_law_2400 (Nat.le_of_ble_eq_true rfl) ⟨by show _ ≤ 601024; omega, by show _ ≤ 7293034; omega⟩ (⟨_, rfl, ?_⟩)
  suffices hc : ∀ (k : Int) (N : zM), sp_X12_most _ N (fin B k) → zaft (zg E) room_1 8 (lawQ, 601024, 7293034) X _ _ _ _ (some (zI k)) N from mo_X11_most (fun v N h => hpm hc h) (fun _ _ _ h => hpm hc h) (step_most g)
  intro k N hN
  dsimp only [zaft]
  refine zr_istore (pc := 2403) S dL_law_2403 (by decide) ?_
  dsimp only [zst1, zst2, zset, zget, zlong]
  refine zr_aload_n (pc := 2405) S dL_law_2405 rfl ?_
  refine zr_aload_n (pc := 2406) S dL_law_2406 rfl ?_
  refine zr_iload (pc := 2407) S dL_law_2407 rfl ?_
  refine zr_iconst (pc := 2409) S dL_law_2409 (by unfold zrI; omega) ?_
  refine zr_iadd (pc := 2410) S dL_law_2410 (by unfold zrI; omega) ?_
  refine zr_sld (pc := 2411) S hs dL_law_2411 (by omega) (by omega) ?_
  refine zr_invV (pc := 2412) S [zI _] (m_X12_most _) kL_law_270 dL_law_2412 rfl (Nat.le_of_ble_eq_true rfl) rfl (Nat.le_of_ble_eq_true rfl) ⟨by show _ ≤ 601024; omega, by show _ ≤ 7293034; omega⟩ (mo_X12_most (fun v P hf => ?_) hN)
  dsimp only [zaft]
  obtain ⟨hf1, hf2, hR⟩ := hf
  refine zr_lstore (pc := 2415) S dL_law_2415 (by decide) ?_
  dsimp only [zst1, zst2, zset, zget, zlong]
  refine zr_aload_n (pc := 2417) S dL_law_2417 rfl ?_
  refine zr_invV (pc := 2418) S [] (m_X12_thrown _) kL_law_155 dL_law_2418 rfl (Nat.le_of_ble_eq_true rfl) rfl (Nat.le_of_ble_eq_true rfl) ⟨by show _ ≤ 601024; omega, by show _ ≤ 7293034; omega⟩ (us_X12_thrown ?_)
  dsimp only [zaft]
  refine zr_iload (pc := 2421) S dL_law_2421 rfl ?_
  refine zr_icmp_eq (pc := 2423) (tgt := 2428) S dL_law_2423 (by decide) (fun c2423 => ?_) (fun c2423 => absurd c2423 (by omega))
  refine zr_iload (pc := 2428) S dL_law_2428 rfl ?_
  refine zr_if_ne (pc := 2430) (tgt := 2444) S dL_law_2430 (by decide) (fun c2430 => ?_) (fun c2430 => ?_)
  · refine zr_goto (pc := 2444) (tgt := 2987) S dL_law_2444 (by decide) ?_
    exact zr_fg zfg8 (zr_wd ⟨by show _ ≤ b.1 + 10; omega, by show _ ≤ b.2 + 60; omega⟩ (hE _ hR))
  · have h9 := hf2 (by omega)
    refine zr_aload_n (pc := 2433) S dL_law_2433 rfl ?_
    refine zr_iconst (pc := 2434) S dL_law_2434 (by unfold zrI; omega) ?_
    refine zr_laload (pc := 2435) S dL_law_2435 rfl (Nat.le_of_ble_eq_true rfl) (by omega) (by omega) ?_
    dsimp only [Int.reduceToNat]
    refine zr_lload (pc := 2436) S dL_law_2436 rfl ?_
    refine zr_lcmp_eq (pc := 2438) (tgt := 2444) S dL_law_2438 dL_law_2439 (by decide) (fun c2438 => ?_) (fun c2438 => absurd c2438 (by omega))
    refine zr_goto (pc := 2444) (tgt := 2987) S dL_law_2444 (by decide) ?_
    exact zr_fg zfg8 (zr_wd ⟨by show _ ≤ b.1 + 10; omega, by show _ ≤ b.2 + 60; omega⟩ (hE _ hR))
theorem kL_law_271 : ∀ (s9 : State) (a9 : Array Value), (∀ w ∈ wzLaw, w.before a9 s9 = true) → vx_CSW room_1 s9 a9 RL 271 yL_serve cL_serve 5 (some .int) [(0, 10, 13, 19), (0, 10, 17, 13)] wzL_serve rmL_serve 2 12 4 := zcSW (zWi_19 _ (List.mem_of_getElem? (i := 38) rfl)) (zWi_30 _ (List.mem_of_getElem? (i := 41) rfl)) (zWi_12 _ (List.mem_of_getElem? (i := 8) rfl)) (zWi_6 _ (List.mem_of_getElem? (i := 37) rfl)) (by decide +kernel) rfl rfl ⟨Nat.le_of_ble_eq_true rfl, Nat.le_of_ble_eq_true rfl⟩
theorem kL_law_273 : ∀ (s9 : State) (a9 : Array Value), (∀ w ∈ wzLaw, w.before a9 s9 = true) → CallW room_1 s9 a9 RL RX12 273 yX12_serve cX12_serve 5 (some .int) wzX12_serve rmX12_serve 0 0 2 := zcV (zWi_19 _ (List.mem_of_getElem? (i := 39) rfl)) (zWi_15 _ (List.mem_of_getElem? (i := 14) rfl)) (zWi_28 _ (List.mem_of_getElem? (i := 5) rfl)) (zWi_12 _ (List.mem_of_getElem? (i := 13) rfl)) (zWi_3 _ (List.mem_of_getElem? (i := 46) rfl)) (by decide +kernel) rfl rfl ⟨Nat.le_of_ble_eq_true rfl, Nat.le_of_ble_eq_true rfl⟩
set_option maxRecDepth 20000 in
set_option maxHeartbeats 4000000 in
theorem ca_serve {E : zE} {X : zX} {L : Nat} {xs : Nat → Int32} {M : zM} {b : Nat × Nat} {B p : Int} (S : zS (zg E) X cL_law 8 wzLaw RL (some .boolean)) (hs : zSc (zg E) X L xs) (hp0 : 0 ≤ p) (hp7 : p + 7 ≤ L) (hL : L ≤ 3584) (g : RR B M) (hB : B ≤ 12300) (hb : b.1 ≤ 100000 ∧ b.2 ≤ 1000000) (hE : ∀ M', RR (B + 24) M' → zK (zg E) room_1 8 (lawQ, 601024, 7293034) X (b.1 + 10, b.2 + 60) 2987 [some (zR 2000), some (zR 0), some (zR 180), some (zR 201), some (zI p), none, none, none] [] M') : zK (zg E) room_1 8 (lawQ, 601024, 7293034) X b 2447 [some (zR 2000), some (zR 0), some (zR 180), some (zR 201), some (zI p), none, none, none] [] M := by
  refine zr_aload_n (pc := 2447) S dL_law_2447 rfl ?_
  refine zr_aload_n (pc := 2448) S dL_law_2448 rfl ?_
  refine zr_iload (pc := 2449) S dL_law_2449 rfl ?_
  refine zr_iconst (pc := 2451) S dL_law_2451 (by unfold zrI; omega) ?_
  refine zr_iadd (pc := 2452) S dL_law_2452 (by unfold zrI; omega) ?_
  refine zr_sld (pc := 2453) S hs dL_law_2453 (by omega) (by omega) ?_
  refine zr_aload_n (pc := 2454) S dL_law_2454 rfl ?_
  refine zr_iload (pc := 2455) S dL_law_2455 rfl ?_
  refine zr_iconst (pc := 2457) S dL_law_2457 (by unfold zrI; omega) ?_
  refine zr_iadd (pc := 2458) S dL_law_2458 (by unfold zrI; omega) ?_
  refine zr_sld (pc := 2459) S hs dL_law_2459 (by omega) (by omega) ?_
  refine zr_aload_n (pc := 2460) S dL_law_2460 rfl ?_
  refine zr_invSW (pc := 2461) S [zR _, zI _, zI _, zR _] (m_L_serve _) kL_law_271 dL_law_2461 (Nat.le_of_ble_eq_true rfl) ⟨by show _ ≤ 601024; omega, by show _ ≤ 7293034; omega⟩ (⟨_, _, rfl, ?_⟩)
  suffices hc : ∀ (k : Int) (N : zM), sp_X12_serve _ N (fin B k) → zaft (zg E) room_1 8 (lawQ, 601024, 7293034) X _ _ _ _ (some (zI k)) N from mo_X11_serve (fun v N h => hpm hc h) (fun _ _ _ h => hpm hc h) (step_serve g)
  intro k N hN
  dsimp only [zaft]
  refine zr_istore (pc := 2464) S dL_law_2464 (by decide) ?_
  dsimp only [zst1, zst2, zset, zget, zlong]
  refine zr_aload_n (pc := 2466) S dL_law_2466 rfl ?_
  refine zr_aload_n (pc := 2467) S dL_law_2467 rfl ?_
  refine zr_iload (pc := 2468) S dL_law_2468 rfl ?_
  refine zr_iconst (pc := 2470) S dL_law_2470 (by unfold zrI; omega) ?_
  refine zr_iadd (pc := 2471) S dL_law_2471 (by unfold zrI; omega) ?_
  refine zr_sld (pc := 2472) S hs dL_law_2472 (by omega) (by omega) ?_
  refine zr_aload_n (pc := 2473) S dL_law_2473 rfl ?_
  refine zr_iload (pc := 2474) S dL_law_2474 rfl ?_
  refine zr_iconst (pc := 2476) S dL_law_2476 (by unfold zrI; omega) ?_
  refine zr_iadd (pc := 2477) S dL_law_2477 (by unfold zrI; omega) ?_
  refine zr_sld (pc := 2478) S hs dL_law_2478 (by omega) (by omega) ?_
  refine zr_invV (pc := 2479) S [zI _, zI _] (m_X12_serve _) kL_law_273 dL_law_2479 rfl (Nat.le_of_ble_eq_true rfl) rfl (Nat.le_of_ble_eq_true rfl) ⟨by show _ ≤ 601024; omega, by show _ ≤ 7293034; omega⟩ (mo_X12_serve (fun v P hf => ?_) hN)
  dsimp only [zaft]
  obtain ⟨hf1, hf2, hR⟩ := hf
  refine zr_istore (pc := 2482) S dL_law_2482 (by decide) ?_
  dsimp only [zst1, zst2, zset, zget, zlong]
  refine zr_aload_n (pc := 2484) S dL_law_2484 rfl ?_
  refine zr_invV (pc := 2485) S [] (m_X12_thrown _) kL_law_155 dL_law_2485 rfl (Nat.le_of_ble_eq_true rfl) rfl (Nat.le_of_ble_eq_true rfl) ⟨by show _ ≤ 601024; omega, by show _ ≤ 7293034; omega⟩ (us_X12_thrown ?_)
  dsimp only [zaft]
  refine zr_iload (pc := 2488) S dL_law_2488 rfl ?_
  refine zr_icmp_eq (pc := 2490) (tgt := 2495) S dL_law_2490 (by decide) (fun c2490 => ?_) (fun c2490 => absurd c2490 (by omega))
  refine zr_iload (pc := 2495) S dL_law_2495 rfl ?_
  refine zr_if_ne (pc := 2497) (tgt := 2512) S dL_law_2497 (by decide) (fun c2497 => ?_) (fun c2497 => ?_)
  · refine zr_goto (pc := 2512) (tgt := 2987) S dL_law_2512 (by decide) ?_
    exact zr_fg zfg8 (zr_wd ⟨by show _ ≤ b.1 + 10; omega, by show _ ≤ b.2 + 60; omega⟩ (hE _ hR))
  · have h9 := hf2 (by omega)
    refine zr_aload_n (pc := 2500) S dL_law_2500 rfl ?_
    refine zr_iconst (pc := 2501) S dL_law_2501 (by unfold zrI; omega) ?_
    refine zr_laload (pc := 2502) S dL_law_2502 rfl (Nat.le_of_ble_eq_true rfl) (by omega) (by omega) ?_
    dsimp only [Int.reduceToNat]
    refine zr_iload (pc := 2503) S dL_law_2503 rfl ?_
    refine zr_i2l (pc := 2505) S dL_law_2505 ?_
    refine zr_lcmp_eq (pc := 2506) (tgt := 2512) S dL_law_2506 dL_law_2507 (by decide) (fun c2506 => ?_) (fun c2506 => absurd c2506 (by omega))
    refine zr_goto (pc := 2512) (tgt := 2987) S dL_law_2512 (by decide) ?_
    exact zr_fg zfg8 (zr_wd ⟨by show _ ≤ b.1 + 10; omega, by show _ ≤ b.2 + 60; omega⟩ (hE _ hR))
theorem kL_law_274 : ∀ (s9 : State) (a9 : Array Value), (∀ w ∈ wzLaw, w.before a9 s9 = true) → vx_CSW room_1 s9 a9 RL 274 yL_machine cL_machine 5 (some .int) [(0, 10, 13, 13)] wzL_machine rmL_machine 2 12 4 := zcSW (zWi_19 _ (List.mem_of_getElem? (i := 40) rfl)) (zWi_30 _ (List.mem_of_getElem? (i := 29) rfl)) (zWi_12 _ (List.mem_of_getElem? (i := 8) rfl)) (zWi_6 _ (List.mem_of_getElem? (i := 25) rfl)) (by decide +kernel) rfl rfl ⟨Nat.le_of_ble_eq_true rfl, Nat.le_of_ble_eq_true rfl⟩
theorem kL_law_276 : ∀ (s9 : State) (a9 : Array Value), (∀ w ∈ wzLaw, w.before a9 s9 = true) → CallW room_1 s9 a9 RL RX12 276 yX12_machine cX12_machine 3 (some .int) wzX12_machine rmX12_machine 0 0 2 := zcV (zWi_19 _ (List.mem_of_getElem? (i := 41) rfl)) (zWi_14 _ (List.mem_of_getElem? (i := 39) rfl)) (zWi_27 _ (List.mem_of_getElem? (i := 30) rfl)) (zWi_12 _ (List.mem_of_getElem? (i := 13) rfl)) (zWi_3 _ (List.mem_of_getElem? (i := 21) rfl)) (by decide +kernel) rfl rfl ⟨Nat.le_of_ble_eq_true rfl, Nat.le_of_ble_eq_true rfl⟩
set_option maxRecDepth 20000 in
set_option maxHeartbeats 4000000 in
theorem ca_machine {E : zE} {X : zX} {L : Nat} {xs : Nat → Int32} {M : zM} {b : Nat × Nat} {B p : Int} (S : zS (zg E) X cL_law 8 wzLaw RL (some .boolean)) (hs : zSc (zg E) X L xs) (hp0 : 0 ≤ p) (hp7 : p + 7 ≤ L) (hL : L ≤ 3584) (g : RR B M) (hB : B ≤ 12300) (hb : b.1 ≤ 100000 ∧ b.2 ≤ 1000000) (hE : ∀ M', RR (B + 24) M' → zK (zg E) room_1 8 (lawQ, 601024, 7293034) X (b.1 + 10, b.2 + 60) 2987 [some (zR 2000), some (zR 0), some (zR 180), some (zR 201), some (zI p), none, none, none] [] M') : zK (zg E) room_1 8 (lawQ, 601024, 7293034) X b 2515 [some (zR 2000), some (zR 0), some (zR 180), some (zR 201), some (zI p), none, none, none] [] M := by
  refine zr_aload_n (pc := 2515) S dL_law_2515 rfl ?_
  refine zr_aload_n (pc := 2516) S dL_law_2516 rfl ?_
  refine zr_iload (pc := 2517) S dL_law_2517 rfl ?_
  refine zr_iconst (pc := 2519) S dL_law_2519 (by unfold zrI; omega) ?_
  refine zr_iadd (pc := 2520) S dL_law_2520 (by unfold zrI; omega) ?_
  refine zr_sld (pc := 2521) S hs dL_law_2521 (by omega) (by omega) ?_
  refine zr_aload_n (pc := 2522) S dL_law_2522 rfl ?_
  refine zr_iload (pc := 2523) S dL_law_2523 rfl ?_
  refine zr_iconst (pc := 2525) S dL_law_2525 (by unfold zrI; omega) ?_
  refine zr_iadd (pc := 2526) S dL_law_2526 (by unfold zrI; omega) ?_
  refine zr_sld (pc := 2527) S hs dL_law_2527 (by omega) (by omega) ?_
  refine zr_aload_n (pc := 2528) S dL_law_2528 rfl ?_
  refine zr_invSW (pc := 2529) S [zR _, zI _, zI _, zR _] (m_L_machine _) kL_law_274 dL_law_2529 (Nat.le_of_ble_eq_true rfl) ⟨by show _ ≤ 601024; omega, by show _ ≤ 7293034; omega⟩ (⟨_, _, rfl, ?_⟩)
  suffices hc : ∀ (k : Int) (N : zM), sp_X12_machine _ N (fin B k) → zaft (zg E) room_1 8 (lawQ, 601024, 7293034) X _ _ _ _ (some (zI k)) N from mo_X11_machine (fun v N h => hpm hc h) (fun _ _ _ h => hpm hc h) (step_machine g)
  intro k N hN
  dsimp only [zaft]
  refine zr_istore (pc := 2532) S dL_law_2532 (by decide) ?_
  dsimp only [zst1, zst2, zset, zget, zlong]
  refine zr_aload_n (pc := 2534) S dL_law_2534 rfl ?_
  refine zr_aload_n (pc := 2535) S dL_law_2535 rfl ?_
  refine zr_iload (pc := 2536) S dL_law_2536 rfl ?_
  refine zr_iconst (pc := 2538) S dL_law_2538 (by unfold zrI; omega) ?_
  refine zr_iadd (pc := 2539) S dL_law_2539 (by unfold zrI; omega) ?_
  refine zr_sld (pc := 2540) S hs dL_law_2540 (by omega) (by omega) ?_
  refine zr_aload_n (pc := 2541) S dL_law_2541 rfl ?_
  refine zr_iload (pc := 2542) S dL_law_2542 rfl ?_
  refine zr_iconst (pc := 2544) S dL_law_2544 (by unfold zrI; omega) ?_
  refine zr_iadd (pc := 2545) S dL_law_2545 (by unfold zrI; omega) ?_
  refine zr_sld (pc := 2546) S hs dL_law_2546 (by omega) (by omega) ?_
  refine zr_invV (pc := 2547) S [zI _, zI _] (m_X12_machine _) kL_law_276 dL_law_2547 rfl (Nat.le_of_ble_eq_true rfl) rfl (Nat.le_of_ble_eq_true rfl) ⟨by show _ ≤ 601024; omega, by show _ ≤ 7293034; omega⟩ (mo_X12_machine (fun v P hf => ?_) hN)
  dsimp only [zaft]
  obtain ⟨hf1, hf2, hR⟩ := hf
  refine zr_istore (pc := 2550) S dL_law_2550 (by decide) ?_
  dsimp only [zst1, zst2, zset, zget, zlong]
  refine zr_aload_n (pc := 2552) S dL_law_2552 rfl ?_
  refine zr_invV (pc := 2553) S [] (m_X12_thrown _) kL_law_155 dL_law_2553 rfl (Nat.le_of_ble_eq_true rfl) rfl (Nat.le_of_ble_eq_true rfl) ⟨by show _ ≤ 601024; omega, by show _ ≤ 7293034; omega⟩ (us_X12_thrown ?_)
  dsimp only [zaft]
  refine zr_iload (pc := 2556) S dL_law_2556 rfl ?_
  refine zr_icmp_eq (pc := 2558) (tgt := 2563) S dL_law_2558 (by decide) (fun c2558 => ?_) (fun c2558 => absurd c2558 (by omega))
  refine zr_iload (pc := 2563) S dL_law_2563 rfl ?_
  refine zr_if_ne (pc := 2565) (tgt := 2580) S dL_law_2565 (by decide) (fun c2565 => ?_) (fun c2565 => ?_)
  · refine zr_goto (pc := 2580) (tgt := 2987) S dL_law_2580 (by decide) ?_
    exact zr_fg zfg8 (zr_wd ⟨by show _ ≤ b.1 + 10; omega, by show _ ≤ b.2 + 60; omega⟩ (hE _ hR))
  · have h9 := hf2 (by omega)
    refine zr_aload_n (pc := 2568) S dL_law_2568 rfl ?_
    refine zr_iconst (pc := 2569) S dL_law_2569 (by unfold zrI; omega) ?_
    refine zr_laload (pc := 2570) S dL_law_2570 rfl (Nat.le_of_ble_eq_true rfl) (by omega) (by omega) ?_
    dsimp only [Int.reduceToNat]
    refine zr_iload (pc := 2571) S dL_law_2571 rfl ?_
    refine zr_i2l (pc := 2573) S dL_law_2573 ?_
    refine zr_lcmp_eq (pc := 2574) (tgt := 2580) S dL_law_2574 dL_law_2575 (by decide) (fun c2574 => ?_) (fun c2574 => absurd c2574 (by omega))
    refine zr_goto (pc := 2580) (tgt := 2987) S dL_law_2580 (by decide) ?_
    exact zr_fg zfg8 (zr_wd ⟨by show _ ≤ b.1 + 10; omega, by show _ ≤ b.2 + 60; omega⟩ (hE _ hR))
theorem kL_law_277 : ∀ (s9 : State) (a9 : Array Value), (∀ w ∈ wzLaw, w.before a9 s9 = true) → vx_CSW room_1 s9 a9 RL 277 yL_rounds cL_rounds 5 (some .int) [(0, 10, 13, 13)] wzL_rounds rmL_rounds 1 6 4 := zcSW (zWi_19 _ (List.mem_of_getElem? (i := 42) rfl)) (zWi_30 _ (List.mem_of_getElem? (i := 39) rfl)) (zWi_12 _ (List.mem_of_getElem? (i := 8) rfl)) (zWi_6 _ (List.mem_of_getElem? (i := 35) rfl)) (by decide +kernel) rfl rfl ⟨Nat.le_of_ble_eq_true rfl, Nat.le_of_ble_eq_true rfl⟩
theorem kL_law_279 : ∀ (s9 : State) (a9 : Array Value), (∀ w ∈ wzLaw, w.before a9 s9 = true) → CallW room_1 s9 a9 RL RX12 279 yX12_rounds cX12_rounds 4 (some .int) wzX12_rounds rmX12_rounds 0 0 2 := zcV (zWi_19 _ (List.mem_of_getElem? (i := 43) rfl)) (zWi_15 _ (List.mem_of_getElem? (i := 11) rfl)) (zWi_28 _ (List.mem_of_getElem? (i := 2) rfl)) (zWi_12 _ (List.mem_of_getElem? (i := 13) rfl)) (zWi_3 _ (List.mem_of_getElem? (i := 43) rfl)) (by decide +kernel) rfl rfl ⟨Nat.le_of_ble_eq_true rfl, Nat.le_of_ble_eq_true rfl⟩
set_option maxRecDepth 20000 in
set_option maxHeartbeats 4000000 in
theorem ca_rounds {E : zE} {X : zX} {L : Nat} {xs : Nat → Int32} {M : zM} {b : Nat × Nat} {B p : Int} (S : zS (zg E) X cL_law 8 wzLaw RL (some .boolean)) (hs : zSc (zg E) X L xs) (hp0 : 0 ≤ p) (hp7 : p + 7 ≤ L) (hL : L ≤ 3584) (g : RR B M) (hB : B ≤ 12300) (hb : b.1 ≤ 100000 ∧ b.2 ≤ 1000000) (hE : ∀ M', RR (B + 24) M' → zK (zg E) room_1 8 (lawQ, 601024, 7293034) X (b.1 + 10, b.2 + 60) 2987 [some (zR 2000), some (zR 0), some (zR 180), some (zR 201), some (zI p), none, none, none] [] M') : zK (zg E) room_1 8 (lawQ, 601024, 7293034) X b 2583 [some (zR 2000), some (zR 0), some (zR 180), some (zR 201), some (zI p), none, none, none] [] M := by
  refine zr_aload_n (pc := 2583) S dL_law_2583 rfl ?_
  refine zr_aload_n (pc := 2584) S dL_law_2584 rfl ?_
  refine zr_iload (pc := 2585) S dL_law_2585 rfl ?_
  refine zr_iconst (pc := 2587) S dL_law_2587 (by unfold zrI; omega) ?_
  refine zr_iadd (pc := 2588) S dL_law_2588 (by unfold zrI; omega) ?_
  refine zr_sld (pc := 2589) S hs dL_law_2589 (by omega) (by omega) ?_
  refine zr_aload_n (pc := 2590) S dL_law_2590 rfl ?_
  refine zr_iload (pc := 2591) S dL_law_2591 rfl ?_
  refine zr_iconst (pc := 2593) S dL_law_2593 (by unfold zrI; omega) ?_
  refine zr_iadd (pc := 2594) S dL_law_2594 (by unfold zrI; omega) ?_
  refine zr_sld (pc := 2595) S hs dL_law_2595 (by omega) (by omega) ?_
  refine zr_aload_n (pc := 2596) S dL_law_2596 rfl ?_
  refine zr_invSW (pc := 2597) S [zR _, zI _, zI _, zR _] (m_L_rounds _) kL_law_277 dL_law_2597 (Nat.le_of_ble_eq_true rfl) ⟨by show _ ≤ 601024; omega, by show _ ≤ 7293034; omega⟩ (⟨_, _, rfl, ?_⟩)
  suffices hc : ∀ (k : Int) (N : zM), sp_X12_rounds _ N (fin B k) → zaft (zg E) room_1 8 (lawQ, 601024, 7293034) X _ _ _ _ (some (zI k)) N from mo_X11_rounds (fun v N h => hpm hc h) (fun _ _ _ h => hpm hc h) (step_rounds g)
  intro k N hN
  dsimp only [zaft]
  refine zr_istore (pc := 2600) S dL_law_2600 (by decide) ?_
  dsimp only [zst1, zst2, zset, zget, zlong]
  refine zr_aload_n (pc := 2602) S dL_law_2602 rfl ?_
  refine zr_aload_n (pc := 2603) S dL_law_2603 rfl ?_
  refine zr_iload (pc := 2604) S dL_law_2604 rfl ?_
  refine zr_iconst (pc := 2606) S dL_law_2606 (by unfold zrI; omega) ?_
  refine zr_iadd (pc := 2607) S dL_law_2607 (by unfold zrI; omega) ?_
  refine zr_sld (pc := 2608) S hs dL_law_2608 (by omega) (by omega) ?_
  refine zr_aload_n (pc := 2609) S dL_law_2609 rfl ?_
  refine zr_iload (pc := 2610) S dL_law_2610 rfl ?_
  refine zr_iconst (pc := 2612) S dL_law_2612 (by unfold zrI; omega) ?_
  refine zr_iadd (pc := 2613) S dL_law_2613 (by unfold zrI; omega) ?_
  refine zr_sld (pc := 2614) S hs dL_law_2614 (by omega) (by omega) ?_
  refine zr_invV (pc := 2615) S [zI _, zI _] (m_X12_rounds _) kL_law_279 dL_law_2615 rfl (Nat.le_of_ble_eq_true rfl) rfl (Nat.le_of_ble_eq_true rfl) ⟨by show _ ≤ 601024; omega, by show _ ≤ 7293034; omega⟩ (mo_X12_rounds (fun v P hf => ?_) hN)
  dsimp only [zaft]
  obtain ⟨hf1, hf2, hR⟩ := hf
  refine zr_istore (pc := 2618) S dL_law_2618 (by decide) ?_
  dsimp only [zst1, zst2, zset, zget, zlong]
  refine zr_aload_n (pc := 2620) S dL_law_2620 rfl ?_
  refine zr_invV (pc := 2621) S [] (m_X12_thrown _) kL_law_155 dL_law_2621 rfl (Nat.le_of_ble_eq_true rfl) rfl (Nat.le_of_ble_eq_true rfl) ⟨by show _ ≤ 601024; omega, by show _ ≤ 7293034; omega⟩ (us_X12_thrown ?_)
  dsimp only [zaft]
  refine zr_iload (pc := 2624) S dL_law_2624 rfl ?_
  refine zr_icmp_eq (pc := 2626) (tgt := 2631) S dL_law_2626 (by decide) (fun c2626 => ?_) (fun c2626 => absurd c2626 (by omega))
  refine zr_iload (pc := 2631) S dL_law_2631 rfl ?_
  refine zr_if_ne (pc := 2633) (tgt := 2648) S dL_law_2633 (by decide) (fun c2633 => ?_) (fun c2633 => ?_)
  · refine zr_goto (pc := 2648) (tgt := 2987) S dL_law_2648 (by decide) ?_
    exact zr_fg zfg8 (zr_wd ⟨by show _ ≤ b.1 + 10; omega, by show _ ≤ b.2 + 60; omega⟩ (hE _ hR))
  · have h9 := hf2 (by omega)
    refine zr_aload_n (pc := 2636) S dL_law_2636 rfl ?_
    refine zr_iconst (pc := 2637) S dL_law_2637 (by unfold zrI; omega) ?_
    refine zr_laload (pc := 2638) S dL_law_2638 rfl (Nat.le_of_ble_eq_true rfl) (by omega) (by omega) ?_
    dsimp only [Int.reduceToNat]
    refine zr_iload (pc := 2639) S dL_law_2639 rfl ?_
    refine zr_i2l (pc := 2641) S dL_law_2641 ?_
    refine zr_lcmp_eq (pc := 2642) (tgt := 2648) S dL_law_2642 dL_law_2643 (by decide) (fun c2642 => ?_) (fun c2642 => absurd c2642 (by omega))
    refine zr_goto (pc := 2648) (tgt := 2987) S dL_law_2648 (by decide) ?_
    exact zr_fg zfg8 (zr_wd ⟨by show _ ≤ b.1 + 10; omega, by show _ ≤ b.2 + 60; omega⟩ (hE _ hR))
theorem kL_law_280 : ∀ (s9 : State) (a9 : Array Value), (∀ w ∈ wzLaw, w.before a9 s9 = true) → vx_CSW room_1 s9 a9 RL 280 yL_tray cL_tray 5 (some .int) [(0, 7, 10, 19), (0, 7, 14, 13)] wzL_tray rmL_tray 3 18 4 := zcSW (zWi_19 _ (List.mem_of_getElem? (i := 45) rfl)) (zWi_30 _ (List.mem_of_getElem? (i := 47) rfl)) (zWi_12 _ (List.mem_of_getElem? (i := 8) rfl)) (zWi_6 _ (List.mem_of_getElem? (i := 43) rfl)) (by decide +kernel) rfl rfl ⟨Nat.le_of_ble_eq_true rfl, Nat.le_of_ble_eq_true rfl⟩
theorem kL_law_283 : ∀ (s9 : State) (a9 : Array Value), (∀ w ∈ wzLaw, w.before a9 s9 = true) → CallW room_1 s9 a9 RL RX12 283 yX12_tray cX12_tray 5 none wzX12_tray rmX12_tray 0 0 3 := zcV (zWi_19 _ (List.mem_of_getElem? (i := 46) rfl)) (zWi_15 _ (List.mem_of_getElem? (i := 28) rfl)) (zWi_28 _ (List.mem_of_getElem? (i := 19) rfl)) (zWi_12 _ (List.mem_of_getElem? (i := 13) rfl)) (zWi_4 _ (List.mem_of_getElem? (i := 10) rfl)) (by decide +kernel) rfl rfl ⟨Nat.le_of_ble_eq_true rfl, Nat.le_of_ble_eq_true rfl⟩
set_option maxRecDepth 20000 in
set_option maxHeartbeats 4000000 in
theorem ca_tray {E : zE} {X : zX} {L : Nat} {xs : Nat → Int32} {M : zM} {b : Nat × Nat} {B p : Int} (S : zS (zg E) X cL_law 8 wzLaw RL (some .boolean)) (hs : zSc (zg E) X L xs) (hp0 : 0 ≤ p) (hp7 : p + 7 ≤ L) (hL : L ≤ 3584) (g : RR B M) (hB : B ≤ 12300) (hb : b.1 ≤ 100000 ∧ b.2 ≤ 1000000) (hE : ∀ M', RR (B + 24) M' → zK (zg E) room_1 8 (lawQ, 601024, 7293034) X (b.1 + 10, b.2 + 60) 2987 [some (zR 2000), some (zR 0), some (zR 180), some (zR 201), some (zI p), none, none, none] [] M') : zK (zg E) room_1 8 (lawQ, 601024, 7293034) X b 2651 [some (zR 2000), some (zR 0), some (zR 180), some (zR 201), some (zI p), none, none, none] [] M := by
  refine zr_aload_n (pc := 2651) S dL_law_2651 rfl ?_
  refine zr_aload_n (pc := 2652) S dL_law_2652 rfl ?_
  refine zr_iload (pc := 2653) S dL_law_2653 rfl ?_
  refine zr_iconst (pc := 2655) S dL_law_2655 (by unfold zrI; omega) ?_
  refine zr_iadd (pc := 2656) S dL_law_2656 (by unfold zrI; omega) ?_
  refine zr_sld (pc := 2657) S hs dL_law_2657 (by omega) (by omega) ?_
  refine zr_aload_n (pc := 2658) S dL_law_2658 rfl ?_
  refine zr_iload (pc := 2659) S dL_law_2659 rfl ?_
  refine zr_iconst (pc := 2661) S dL_law_2661 (by unfold zrI; omega) ?_
  refine zr_iadd (pc := 2662) S dL_law_2662 (by unfold zrI; omega) ?_
  refine zr_sld (pc := 2663) S hs dL_law_2663 (by omega) (by omega) ?_
  refine zr_aload_n (pc := 2664) S dL_law_2664 rfl ?_
  refine zr_iload (pc := 2665) S dL_law_2665 rfl ?_
  refine zr_iconst (pc := 2667) S dL_law_2667 (by unfold zrI; omega) ?_
  refine zr_iadd (pc := 2668) S dL_law_2668 (by unfold zrI; omega) ?_
  refine zr_sld (pc := 2669) S hs dL_law_2669 (by omega) (by omega) ?_
  refine zr_invSW (pc := 2670) S [zR _, zI _, zI _, zI _] (m_L_tray _) kL_law_280 dL_law_2670 (Nat.le_of_ble_eq_true rfl) ⟨by show _ ≤ 601024; omega, by show _ ≤ 7293034; omega⟩ (⟨_, _, _, rfl, ?_⟩)
  suffices hc : ∀ (k : Int) (N : zM), sp_X12_tray _ N (fin B k) → zaft (zg E) room_1 8 (lawQ, 601024, 7293034) X _ _ _ _ (some (zI k)) N from mo_X11_tray (fun N h => hpm hc h) (fun _ _ _ h => hpm hc h) (step_tray g)
  intro k N hN
  dsimp only [zaft]
  refine zr_istore (pc := 2673) S dL_law_2673 (by decide) ?_
  dsimp only [zst1, zst2, zset, zget, zlong]
  refine zr_aload_n (pc := 2675) S dL_law_2675 rfl ?_
  refine zr_aload_n (pc := 2676) S dL_law_2676 rfl ?_
  refine zr_iload (pc := 2677) S dL_law_2677 rfl ?_
  refine zr_iconst (pc := 2679) S dL_law_2679 (by unfold zrI; omega) ?_
  refine zr_iadd (pc := 2680) S dL_law_2680 (by unfold zrI; omega) ?_
  refine zr_sld (pc := 2681) S hs dL_law_2681 (by omega) (by omega) ?_
  refine zr_aload_n (pc := 2682) S dL_law_2682 rfl ?_
  refine zr_iload (pc := 2683) S dL_law_2683 rfl ?_
  refine zr_iconst (pc := 2685) S dL_law_2685 (by unfold zrI; omega) ?_
  refine zr_iadd (pc := 2686) S dL_law_2686 (by unfold zrI; omega) ?_
  refine zr_sld (pc := 2687) S hs dL_law_2687 (by omega) (by omega) ?_
  refine zr_aload_n (pc := 2688) S dL_law_2688 rfl ?_
  refine zr_iload (pc := 2689) S dL_law_2689 rfl ?_
  refine zr_iconst (pc := 2691) S dL_law_2691 (by unfold zrI; omega) ?_
  refine zr_iadd (pc := 2692) S dL_law_2692 (by unfold zrI; omega) ?_
  refine zr_sld (pc := 2693) S hs dL_law_2693 (by omega) (by omega) ?_
  refine zr_invV (pc := 2694) S [zI _, zI _, zI _] (m_X12_tray _) kL_law_283 dL_law_2694 rfl (Nat.le_of_ble_eq_true rfl) rfl (Nat.le_of_ble_eq_true rfl) ⟨by show _ ≤ 601024; omega, by show _ ≤ 7293034; omega⟩ (mo_X12_tray (fun P hf => ?_) hN)
  dsimp only [zaft]
  obtain ⟨hf1, hR⟩ := hf
  refine zr_aload_n (pc := 2697) S dL_law_2697 rfl ?_
  refine zr_invV (pc := 2698) S [] (m_X12_thrown _) kL_law_155 dL_law_2698 rfl (Nat.le_of_ble_eq_true rfl) rfl (Nat.le_of_ble_eq_true rfl) ⟨by show _ ≤ 601024; omega, by show _ ≤ 7293034; omega⟩ (us_X12_thrown ?_)
  dsimp only [zaft]
  refine zr_iload (pc := 2701) S dL_law_2701 rfl ?_
  refine zr_icmp_eq (pc := 2703) (tgt := 2708) S dL_law_2703 (by decide) (fun c2703 => ?_) (fun c2703 => absurd c2703 (by omega))
  refine zr_goto (pc := 2708) (tgt := 2987) S dL_law_2708 (by decide) ?_
  exact zr_fg zfg8 (zr_wd ⟨by show _ ≤ b.1 + 10; omega, by show _ ≤ b.2 + 60; omega⟩ (hE _ hR))
theorem kL_law_286 : ∀ (s9 : State) (a9 : Array Value), (∀ w ∈ wzLaw, w.before a9 s9 = true) → vx_CSW room_1 s9 a9 RL 286 yL_write cL_write 7 (some .int) [(0, 11, 14, 19), (0, 11, 18, 131), (0, 11, 22, 133)] wzL_write rmL_write 3 18 5 := zcSW (zWi_19 _ (List.mem_of_getElem? (i := 47) rfl)) (zWi_31 _ (List.mem_of_getElem? (i := 1) rfl)) (zWi_12 _ (List.mem_of_getElem? (i := 8) rfl)) (zWi_6 _ (List.mem_of_getElem? (i := 47) rfl)) (by decide +kernel) rfl rfl ⟨Nat.le_of_ble_eq_true rfl, Nat.le_of_ble_eq_true rfl⟩
theorem kL_law_289 : ∀ (s9 : State) (a9 : Array Value), (∀ w ∈ wzLaw, w.before a9 s9 = true) → CallW room_1 s9 a9 RL RX12 289 yX12_write cX12_write 6 (some .long) wzX12_write rmX12_write 0 0 3 := zcV (zWi_19 _ (List.mem_of_getElem? (i := 48) rfl)) (zWi_15 _ (List.mem_of_getElem? (i := 35) rfl)) (zWi_28 _ (List.mem_of_getElem? (i := 26) rfl)) (zWi_12 _ (List.mem_of_getElem? (i := 13) rfl)) (zWi_4 _ (List.mem_of_getElem? (i := 18) rfl)) (by decide +kernel) rfl rfl ⟨Nat.le_of_ble_eq_true rfl, Nat.le_of_ble_eq_true rfl⟩
set_option maxRecDepth 20000 in
set_option maxHeartbeats 4000000 in
theorem ca_write {E : zE} {X : zX} {L : Nat} {xs : Nat → Int32} {M : zM} {b : Nat × Nat} {B p : Int} (S : zS (zg E) X cL_law 8 wzLaw RL (some .boolean)) (hs : zSc (zg E) X L xs) (hp0 : 0 ≤ p) (hp7 : p + 7 ≤ L) (hL : L ≤ 3584) (g : RR B M) (hB : B ≤ 12300) (hb : b.1 ≤ 100000 ∧ b.2 ≤ 1000000) (hE : ∀ M', RR (B + 24) M' → zK (zg E) room_1 8 (lawQ, 601024, 7293034) X (b.1 + 10, b.2 + 60) 2987 [some (zR 2000), some (zR 0), some (zR 180), some (zR 201), some (zI p), none, none, none] [] M') : zK (zg E) room_1 8 (lawQ, 601024, 7293034) X b 2711 [some (zR 2000), some (zR 0), some (zR 180), some (zR 201), some (zI p), none, none, none] [] M := by
  refine zr_aload_n (pc := 2711) S dL_law_2711 rfl ?_
  refine zr_aload_n (pc := 2712) S dL_law_2712 rfl ?_
  refine zr_iload (pc := 2713) S dL_law_2713 rfl ?_
  refine zr_iconst (pc := 2715) S dL_law_2715 (by unfold zrI; omega) ?_
  refine zr_iadd (pc := 2716) S dL_law_2716 (by unfold zrI; omega) ?_
  refine zr_sld (pc := 2717) S hs dL_law_2717 (by omega) (by omega) ?_
  refine zr_aload_n (pc := 2718) S dL_law_2718 rfl ?_
  refine zr_iload (pc := 2719) S dL_law_2719 rfl ?_
  refine zr_iconst (pc := 2721) S dL_law_2721 (by unfold zrI; omega) ?_
  refine zr_iadd (pc := 2722) S dL_law_2722 (by unfold zrI; omega) ?_
  refine zr_sld (pc := 2723) S hs dL_law_2723 (by omega) (by omega) ?_
  refine zr_aload_n (pc := 2724) S dL_law_2724 rfl ?_
  refine zr_iload (pc := 2725) S dL_law_2725 rfl ?_
  refine zr_iconst (pc := 2727) S dL_law_2727 (by unfold zrI; omega) ?_
  refine zr_iadd (pc := 2728) S dL_law_2728 (by unfold zrI; omega) ?_
  refine zr_sld (pc := 2729) S hs dL_law_2729 (by omega) (by omega) ?_
  refine zr_i2l (pc := 2730) S dL_law_2730 ?_
  refine zr_bipush (pc := 2731) S dL_law_2731 ⟨by unfold zrI; omega, by decide⟩ ?_
  refine zr_lshlw (pc := 2733) S dL_law_2733 (by omega) (by omega) ?_
  refine zr_aload_n (pc := 2734) S dL_law_2734 rfl ?_
  refine zr_iload (pc := 2735) S dL_law_2735 rfl ?_
  refine zr_iconst (pc := 2737) S dL_law_2737 (by unfold zrI; omega) ?_
  refine zr_iadd (pc := 2738) S dL_law_2738 (by unfold zrI; omega) ?_
  refine zr_sld (pc := 2739) S hs dL_law_2739 (by omega) (by omega) ?_
  refine zr_i2l (pc := 2740) S dL_law_2740 ?_
  refine zr_ldc2 (pc := 2741) S (4294967295) dL_law_2741 (List.mem_cons_of_mem _ (zWi_7 _ (List.mem_of_getElem? (i := 1) rfl))) (by unfold zrL; omega) ?_
  refine zr_landm (pc := 2744) S 32 dL_law_2744 (by decide) rfl ?_
  refine zr_lorI (pc := 2745) S dL_law_2745 ?_
  refine zr_aload_n (pc := 2746) S dL_law_2746 rfl ?_
  refine zr_invSW (pc := 2747) S [zR _, zI _, zI _, zL _, zR _] (m_L_write _) kL_law_286 dL_law_2747 (Nat.le_of_ble_eq_true rfl) ⟨by show _ ≤ 601024; omega, by show _ ≤ 7293034; omega⟩ (⟨_, _, _, rfl, ?_⟩)
  suffices hc : ∀ (k : Int) (N : zM), sp_X12_write _ N (fin B k) → zaft (zg E) room_1 8 (lawQ, 601024, 7293034) X _ _ _ _ (some (zI k)) N from mo_X11_write (fun v N h => hpm hc h) (fun _ _ _ h => hpm hc h) (step_write g lorI_r)
  intro k N hN
  dsimp only [zaft]
  refine zr_istore (pc := 2750) S dL_law_2750 (by decide) ?_
  dsimp only [zst1, zst2, zset, zget, zlong]
  refine zr_aload_n (pc := 2752) S dL_law_2752 rfl ?_
  refine zr_aload_n (pc := 2753) S dL_law_2753 rfl ?_
  refine zr_iload (pc := 2754) S dL_law_2754 rfl ?_
  refine zr_iconst (pc := 2756) S dL_law_2756 (by unfold zrI; omega) ?_
  refine zr_iadd (pc := 2757) S dL_law_2757 (by unfold zrI; omega) ?_
  refine zr_sld (pc := 2758) S hs dL_law_2758 (by omega) (by omega) ?_
  refine zr_aload_n (pc := 2759) S dL_law_2759 rfl ?_
  refine zr_iload (pc := 2760) S dL_law_2760 rfl ?_
  refine zr_iconst (pc := 2762) S dL_law_2762 (by unfold zrI; omega) ?_
  refine zr_iadd (pc := 2763) S dL_law_2763 (by unfold zrI; omega) ?_
  refine zr_sld (pc := 2764) S hs dL_law_2764 (by omega) (by omega) ?_
  refine zr_aload_n (pc := 2765) S dL_law_2765 rfl ?_
  refine zr_iload (pc := 2766) S dL_law_2766 rfl ?_
  refine zr_iconst (pc := 2768) S dL_law_2768 (by unfold zrI; omega) ?_
  refine zr_iadd (pc := 2769) S dL_law_2769 (by unfold zrI; omega) ?_
  refine zr_sld (pc := 2770) S hs dL_law_2770 (by omega) (by omega) ?_
  refine zr_i2l (pc := 2771) S dL_law_2771 ?_
  refine zr_bipush (pc := 2772) S dL_law_2772 ⟨by unfold zrI; omega, by decide⟩ ?_
  refine zr_lshlw (pc := 2774) S dL_law_2774 (by omega) (by omega) ?_
  refine zr_aload_n (pc := 2775) S dL_law_2775 rfl ?_
  refine zr_iload (pc := 2776) S dL_law_2776 rfl ?_
  refine zr_iconst (pc := 2778) S dL_law_2778 (by unfold zrI; omega) ?_
  refine zr_iadd (pc := 2779) S dL_law_2779 (by unfold zrI; omega) ?_
  refine zr_sld (pc := 2780) S hs dL_law_2780 (by omega) (by omega) ?_
  refine zr_i2l (pc := 2781) S dL_law_2781 ?_
  refine zr_ldc2 (pc := 2782) S (4294967295) dL_law_2782 (List.mem_cons_of_mem _ (zWi_7 _ (List.mem_of_getElem? (i := 1) rfl))) (by unfold zrL; omega) ?_
  refine zr_landm (pc := 2785) S 32 dL_law_2785 (by decide) rfl ?_
  refine zr_lorI (pc := 2786) S dL_law_2786 ?_
  refine zr_invV (pc := 2787) S [zI _, zI _, zL _] (m_X12_write _) kL_law_289 dL_law_2787 rfl (Nat.le_of_ble_eq_true rfl) rfl (Nat.le_of_ble_eq_true rfl) ⟨by show _ ≤ 601024; omega, by show _ ≤ 7293034; omega⟩ (mo_X12_write (fun v P hf => ?_) hN)
  dsimp only [zaft]
  obtain ⟨hf1, hf2, hR⟩ := hf
  refine zr_lstore (pc := 2790) S dL_law_2790 (by decide) ?_
  dsimp only [zst1, zst2, zset, zget, zlong]
  refine zr_aload_n (pc := 2792) S dL_law_2792 rfl ?_
  refine zr_invV (pc := 2793) S [] (m_X12_thrown _) kL_law_155 dL_law_2793 rfl (Nat.le_of_ble_eq_true rfl) rfl (Nat.le_of_ble_eq_true rfl) ⟨by show _ ≤ 601024; omega, by show _ ≤ 7293034; omega⟩ (us_X12_thrown ?_)
  dsimp only [zaft]
  refine zr_iload (pc := 2796) S dL_law_2796 rfl ?_
  refine zr_icmp_eq (pc := 2798) (tgt := 2803) S dL_law_2798 (by decide) (fun c2798 => ?_) (fun c2798 => absurd c2798 (by omega))
  refine zr_iload (pc := 2803) S dL_law_2803 rfl ?_
  refine zr_if_ne (pc := 2805) (tgt := 2819) S dL_law_2805 (by decide) (fun c2805 => ?_) (fun c2805 => ?_)
  · refine zr_goto (pc := 2819) (tgt := 2987) S dL_law_2819 (by decide) ?_
    exact zr_fg zfg8 (zr_wd ⟨by show _ ≤ b.1 + 10; omega, by show _ ≤ b.2 + 60; omega⟩ (hE _ hR))
  · have h9 := hf2 (by omega)
    refine zr_aload_n (pc := 2808) S dL_law_2808 rfl ?_
    refine zr_iconst (pc := 2809) S dL_law_2809 (by unfold zrI; omega) ?_
    refine zr_laload (pc := 2810) S dL_law_2810 rfl (Nat.le_of_ble_eq_true rfl) (by omega) (by omega) ?_
    dsimp only [Int.reduceToNat]
    refine zr_lload (pc := 2811) S dL_law_2811 rfl ?_
    refine zr_lcmp_eq (pc := 2813) (tgt := 2819) S dL_law_2813 dL_law_2814 (by decide) (fun c2813 => ?_) (fun c2813 => absurd c2813 (by omega))
    refine zr_goto (pc := 2819) (tgt := 2987) S dL_law_2819 (by decide) ?_
    exact zr_fg zfg8 (zr_wd ⟨by show _ ≤ b.1 + 10; omega, by show _ ≤ b.2 + 60; omega⟩ (hE _ hR))
theorem kL_law_290 : ∀ (s9 : State) (a9 : Array Value), (∀ w ∈ wzLaw, w.before a9 s9 = true) → vx_CSW room_1 s9 a9 RL 290 yL_pour cL_pour 5 (some .int) [(0, 10, 13, 19), (0, 10, 17, 131), (0, 10, 21, 13)] wzL_pour rmL_pour 4 24 4 := zcSW (zWi_19 _ (List.mem_of_getElem? (i := 49) rfl)) (zWi_30 _ (List.mem_of_getElem? (i := 35) rfl)) (zWi_12 _ (List.mem_of_getElem? (i := 8) rfl)) (zWi_6 _ (List.mem_of_getElem? (i := 31) rfl)) (by decide +kernel) rfl rfl ⟨Nat.le_of_ble_eq_true rfl, Nat.le_of_ble_eq_true rfl⟩
theorem kL_law_292 : ∀ (s9 : State) (a9 : Array Value), (∀ w ∈ wzLaw, w.before a9 s9 = true) → CallW room_1 s9 a9 RL RX12 292 yX12_pour cX12_pour 4 (some .int) wzX12_pour rmX12_pour 0 0 2 := zcV (zWi_20 _ (List.mem_of_getElem? (i := 0) rfl)) (zWi_15 _ (List.mem_of_getElem? (i := 3) rfl)) (zWi_27 _ (List.mem_of_getElem? (i := 44) rfl)) (zWi_12 _ (List.mem_of_getElem? (i := 13) rfl)) (zWi_3 _ (List.mem_of_getElem? (i := 35) rfl)) (by decide +kernel) rfl rfl ⟨Nat.le_of_ble_eq_true rfl, Nat.le_of_ble_eq_true rfl⟩
set_option maxRecDepth 20000 in
set_option maxHeartbeats 4000000 in
theorem ca_pour {E : zE} {X : zX} {L : Nat} {xs : Nat → Int32} {M : zM} {b : Nat × Nat} {B p : Int} (S : zS (zg E) X cL_law 8 wzLaw RL (some .boolean)) (hs : zSc (zg E) X L xs) (hp0 : 0 ≤ p) (hp7 : p + 7 ≤ L) (hL : L ≤ 3584) (g : RR B M) (hB : B ≤ 12300) (hb : b.1 ≤ 100000 ∧ b.2 ≤ 1000000) (hE : ∀ M', RR (B + 24) M' → zK (zg E) room_1 8 (lawQ, 601024, 7293034) X (b.1 + 10, b.2 + 60) 2987 [some (zR 2000), some (zR 0), some (zR 180), some (zR 201), some (zI p), none, none, none] [] M') : zK (zg E) room_1 8 (lawQ, 601024, 7293034) X b 2822 [some (zR 2000), some (zR 0), some (zR 180), some (zR 201), some (zI p), none, none, none] [] M := by
  refine zr_aload_n (pc := 2822) S dL_law_2822 rfl ?_
  refine zr_aload_n (pc := 2823) S dL_law_2823 rfl ?_
  refine zr_iload (pc := 2824) S dL_law_2824 rfl ?_
  refine zr_iconst (pc := 2826) S dL_law_2826 (by unfold zrI; omega) ?_
  refine zr_iadd (pc := 2827) S dL_law_2827 (by unfold zrI; omega) ?_
  refine zr_sld (pc := 2828) S hs dL_law_2828 (by omega) (by omega) ?_
  refine zr_aload_n (pc := 2829) S dL_law_2829 rfl ?_
  refine zr_iload (pc := 2830) S dL_law_2830 rfl ?_
  refine zr_iconst (pc := 2832) S dL_law_2832 (by unfold zrI; omega) ?_
  refine zr_iadd (pc := 2833) S dL_law_2833 (by unfold zrI; omega) ?_
  refine zr_sld (pc := 2834) S hs dL_law_2834 (by omega) (by omega) ?_
  refine zr_aload_n (pc := 2835) S dL_law_2835 rfl ?_
  refine zr_invSW (pc := 2836) S [zR _, zI _, zI _, zR _] (m_L_pour _) kL_law_290 dL_law_2836 (Nat.le_of_ble_eq_true rfl) ⟨by show _ ≤ 601024; omega, by show _ ≤ 7293034; omega⟩ (⟨_, _, rfl, ?_⟩)
  suffices hc : ∀ (k : Int) (N : zM), sp_X12_pour _ N (fin B k) → zaft (zg E) room_1 8 (lawQ, 601024, 7293034) X _ _ _ _ (some (zI k)) N from mo_X11_pour (fun v N h => hpm hc h) (fun _ _ _ h => hpm hc h) (step_pour g hB)
  intro k N hN
  dsimp only [zaft]
  refine zr_istore (pc := 2839) S dL_law_2839 (by decide) ?_
  dsimp only [zst1, zst2, zset, zget, zlong]
  refine zr_aload_n (pc := 2841) S dL_law_2841 rfl ?_
  refine zr_aload_n (pc := 2842) S dL_law_2842 rfl ?_
  refine zr_iload (pc := 2843) S dL_law_2843 rfl ?_
  refine zr_iconst (pc := 2845) S dL_law_2845 (by unfold zrI; omega) ?_
  refine zr_iadd (pc := 2846) S dL_law_2846 (by unfold zrI; omega) ?_
  refine zr_sld (pc := 2847) S hs dL_law_2847 (by omega) (by omega) ?_
  refine zr_aload_n (pc := 2848) S dL_law_2848 rfl ?_
  refine zr_iload (pc := 2849) S dL_law_2849 rfl ?_
  refine zr_iconst (pc := 2851) S dL_law_2851 (by unfold zrI; omega) ?_
  refine zr_iadd (pc := 2852) S dL_law_2852 (by unfold zrI; omega) ?_
  refine zr_sld (pc := 2853) S hs dL_law_2853 (by omega) (by omega) ?_
  refine zr_invV (pc := 2854) S [zI _, zI _] (m_X12_pour _) kL_law_292 dL_law_2854 rfl (Nat.le_of_ble_eq_true rfl) rfl (Nat.le_of_ble_eq_true rfl) ⟨by show _ ≤ 601024; omega, by show _ ≤ 7293034; omega⟩ (mo_X12_pour (fun v P hf => ?_) hN)
  dsimp only [zaft]
  obtain ⟨hf1, hf2, hR⟩ := hf
  refine zr_istore (pc := 2857) S dL_law_2857 (by decide) ?_
  dsimp only [zst1, zst2, zset, zget, zlong]
  refine zr_aload_n (pc := 2859) S dL_law_2859 rfl ?_
  refine zr_invV (pc := 2860) S [] (m_X12_thrown _) kL_law_155 dL_law_2860 rfl (Nat.le_of_ble_eq_true rfl) rfl (Nat.le_of_ble_eq_true rfl) ⟨by show _ ≤ 601024; omega, by show _ ≤ 7293034; omega⟩ (us_X12_thrown ?_)
  dsimp only [zaft]
  refine zr_iload (pc := 2863) S dL_law_2863 rfl ?_
  refine zr_icmp_eq (pc := 2865) (tgt := 2870) S dL_law_2865 (by decide) (fun c2865 => ?_) (fun c2865 => absurd c2865 (by omega))
  refine zr_iload (pc := 2870) S dL_law_2870 rfl ?_
  refine zr_if_ne (pc := 2872) (tgt := 2887) S dL_law_2872 (by decide) (fun c2872 => ?_) (fun c2872 => ?_)
  · refine zr_goto (pc := 2887) (tgt := 2987) S dL_law_2887 (by decide) ?_
    exact zr_fg zfg8 (zr_wd ⟨by show _ ≤ b.1 + 10; omega, by show _ ≤ b.2 + 60; omega⟩ (hE _ hR))
  · have h9 := hf2 (by omega)
    refine zr_aload_n (pc := 2875) S dL_law_2875 rfl ?_
    refine zr_iconst (pc := 2876) S dL_law_2876 (by unfold zrI; omega) ?_
    refine zr_laload (pc := 2877) S dL_law_2877 rfl (Nat.le_of_ble_eq_true rfl) (by omega) (by omega) ?_
    dsimp only [Int.reduceToNat]
    refine zr_iload (pc := 2878) S dL_law_2878 rfl ?_
    refine zr_i2l (pc := 2880) S dL_law_2880 ?_
    refine zr_lcmp_eq (pc := 2881) (tgt := 2887) S dL_law_2881 dL_law_2882 (by decide) (fun c2881 => ?_) (fun c2881 => absurd c2881 (by omega))
    refine zr_goto (pc := 2887) (tgt := 2987) S dL_law_2887 (by decide) ?_
    exact zr_fg zfg8 (zr_wd ⟨by show _ ≤ b.1 + 10; omega, by show _ ≤ b.2 + 60; omega⟩ (hE _ hR))
theorem kL_law_293 : ∀ (s9 : State) (a9 : Array Value), (∀ w ∈ wzLaw, w.before a9 s9 = true) → vx_CSW room_1 s9 a9 RL 293 yL_image cL_image 3 (some .int) [(0, 5, 8, 19)] wzL_image rmL_image 1 6 2 := zcSW (zWi_20 _ (List.mem_of_getElem? (i := 1) rfl)) (zWi_30 _ (List.mem_of_getElem? (i := 25) rfl)) (zWi_12 _ (List.mem_of_getElem? (i := 8) rfl)) (zWi_6 _ (List.mem_of_getElem? (i := 21) rfl)) (by decide +kernel) rfl rfl ⟨Nat.le_of_ble_eq_true rfl, Nat.le_of_ble_eq_true rfl⟩
theorem kL_law_296 : ∀ (s9 : State) (a9 : Array Value), (∀ w ∈ wzLaw, w.before a9 s9 = true) → CallW room_1 s9 a9 RL RX12 296 yX12_image cX12_image 3 none wzX12_image rmX12_image 0 0 1 := zcV (zWi_20 _ (List.mem_of_getElem? (i := 2) rfl)) (zWi_14 _ (List.mem_of_getElem? (i := 23) rfl)) (zWi_27 _ (List.mem_of_getElem? (i := 15) rfl)) (zWi_12 _ (List.mem_of_getElem? (i := 13) rfl)) (zWi_3 _ (List.mem_of_getElem? (i := 2) rfl)) (by decide +kernel) rfl rfl ⟨Nat.le_of_ble_eq_true rfl, Nat.le_of_ble_eq_true rfl⟩
set_option maxRecDepth 20000 in
set_option maxHeartbeats 4000000 in
theorem ca_image {E : zE} {X : zX} {L : Nat} {xs : Nat → Int32} {M : zM} {b : Nat × Nat} {B p : Int} (S : zS (zg E) X cL_law 8 wzLaw RL (some .boolean)) (hs : zSc (zg E) X L xs) (hp0 : 0 ≤ p) (hp7 : p + 7 ≤ L) (hL : L ≤ 3584) (g : RR B M) (hB : B ≤ 12300) (hb : b.1 ≤ 100000 ∧ b.2 ≤ 1000000) (hE : ∀ M', RR (B + 24) M' → zK (zg E) room_1 8 (lawQ, 601024, 7293034) X (b.1 + 10, b.2 + 60) 2987 [some (zR 2000), some (zR 0), some (zR 180), some (zR 201), some (zI p), none, none, none] [] M') : zK (zg E) room_1 8 (lawQ, 601024, 7293034) X b 2890 [some (zR 2000), some (zR 0), some (zR 180), some (zR 201), some (zI p), none, none, none] [] M := by
  refine zr_aload_n (pc := 2890) S dL_law_2890 rfl ?_
  refine zr_aload_n (pc := 2891) S dL_law_2891 rfl ?_
  refine zr_iload (pc := 2892) S dL_law_2892 rfl ?_
  refine zr_iconst (pc := 2894) S dL_law_2894 (by unfold zrI; omega) ?_
  refine zr_iadd (pc := 2895) S dL_law_2895 (by unfold zrI; omega) ?_
  refine zr_sld (pc := 2896) S hs dL_law_2896 (by omega) (by omega) ?_
  refine zr_invSW (pc := 2897) S [zR _, zI _] (m_L_image _) kL_law_293 dL_law_2897 (Nat.le_of_ble_eq_true rfl) ⟨by show _ ≤ 601024; omega, by show _ ≤ 7293034; omega⟩ (⟨_, rfl, ?_⟩)
  suffices hc : ∀ (k : Int) (N : zM), sp_X12_image _ N (fin B k) → zaft (zg E) room_1 8 (lawQ, 601024, 7293034) X _ _ _ _ (some (zI k)) N from mo_X11_image (fun N h => hpm hc h) (fun _ _ _ h => hpm hc h) (step_image g)
  intro k N hN
  dsimp only [zaft]
  refine zr_istore (pc := 2900) S dL_law_2900 (by decide) ?_
  dsimp only [zst1, zst2, zset, zget, zlong]
  refine zr_aload_n (pc := 2902) S dL_law_2902 rfl ?_
  refine zr_aload_n (pc := 2903) S dL_law_2903 rfl ?_
  refine zr_iload (pc := 2904) S dL_law_2904 rfl ?_
  refine zr_iconst (pc := 2906) S dL_law_2906 (by unfold zrI; omega) ?_
  refine zr_iadd (pc := 2907) S dL_law_2907 (by unfold zrI; omega) ?_
  refine zr_sld (pc := 2908) S hs dL_law_2908 (by omega) (by omega) ?_
  refine zr_invV (pc := 2909) S [zI _] (m_X12_image _) kL_law_296 dL_law_2909 rfl (Nat.le_of_ble_eq_true rfl) rfl (Nat.le_of_ble_eq_true rfl) ⟨by show _ ≤ 601024; omega, by show _ ≤ 7293034; omega⟩ (mo_X12_image (fun P hf => ?_) hN)
  dsimp only [zaft]
  obtain ⟨hf1, hR⟩ := hf
  refine zr_aload_n (pc := 2912) S dL_law_2912 rfl ?_
  refine zr_invV (pc := 2913) S [] (m_X12_thrown _) kL_law_155 dL_law_2913 rfl (Nat.le_of_ble_eq_true rfl) rfl (Nat.le_of_ble_eq_true rfl) ⟨by show _ ≤ 601024; omega, by show _ ≤ 7293034; omega⟩ (us_X12_thrown ?_)
  dsimp only [zaft]
  refine zr_iload (pc := 2916) S dL_law_2916 rfl ?_
  refine zr_icmp_eq (pc := 2918) (tgt := 2923) S dL_law_2918 (by decide) (fun c2918 => ?_) (fun c2918 => absurd c2918 (by omega))
  refine zr_goto (pc := 2923) (tgt := 2987) S dL_law_2923 (by decide) ?_
  exact zr_fg zfg8 (zr_wd ⟨by show _ ≤ b.1 + 10; omega, by show _ ≤ b.2 + 60; omega⟩ (hE _ hR))
theorem kL_law_297 : ∀ (s9 : State) (a9 : Array Value), (∀ w ∈ wzLaw, w.before a9 s9 = true) → vx_CSW room_1 s9 a9 RL 297 yL_restore cL_restore 3 (some .int) [(0, 5, 8, 19), (0, 5, 11, 131)] wzL_restore rmL_restore 2 12 2 := zcSW (zWi_20 _ (List.mem_of_getElem? (i := 3) rfl)) (zWi_30 _ (List.mem_of_getElem? (i := 38) rfl)) (zWi_12 _ (List.mem_of_getElem? (i := 8) rfl)) (zWi_6 _ (List.mem_of_getElem? (i := 34) rfl)) (by decide +kernel) rfl rfl ⟨Nat.le_of_ble_eq_true rfl, Nat.le_of_ble_eq_true rfl⟩
theorem kL_law_299 : ∀ (s9 : State) (a9 : Array Value), (∀ w ∈ wzLaw, w.before a9 s9 = true) → CallW room_1 s9 a9 RL RX12 299 yX12_restore cX12_restore 3 none wzX12_restore rmX12_restore 0 0 1 := zcV (zWi_20 _ (List.mem_of_getElem? (i := 4) rfl)) (zWi_15 _ (List.mem_of_getElem? (i := 10) rfl)) (zWi_28 _ (List.mem_of_getElem? (i := 1) rfl)) (zWi_12 _ (List.mem_of_getElem? (i := 13) rfl)) (zWi_3 _ (List.mem_of_getElem? (i := 42) rfl)) (by decide +kernel) rfl rfl ⟨Nat.le_of_ble_eq_true rfl, Nat.le_of_ble_eq_true rfl⟩
set_option maxRecDepth 20000 in
set_option maxHeartbeats 4000000 in
theorem ca_restore {E : zE} {X : zX} {L : Nat} {xs : Nat → Int32} {M : zM} {b : Nat × Nat} {B p : Int} (S : zS (zg E) X cL_law 8 wzLaw RL (some .boolean)) (hs : zSc (zg E) X L xs) (hp0 : 0 ≤ p) (hp7 : p + 7 ≤ L) (hL : L ≤ 3584) (g : RR B M) (hB : B ≤ 12300) (hb : b.1 ≤ 100000 ∧ b.2 ≤ 1000000) (hE : ∀ M', RR (B + 24) M' → zK (zg E) room_1 8 (lawQ, 601024, 7293034) X (b.1 + 10, b.2 + 60) 2987 [some (zR 2000), some (zR 0), some (zR 180), some (zR 201), some (zI p), none, none, none] [] M') : zK (zg E) room_1 8 (lawQ, 601024, 7293034) X b 2926 [some (zR 2000), some (zR 0), some (zR 180), some (zR 201), some (zI p), none, none, none] [] M := by
  refine zr_aload_n (pc := 2926) S dL_law_2926 rfl ?_
  refine zr_aload_n (pc := 2927) S dL_law_2927 rfl ?_
  refine zr_iload (pc := 2928) S dL_law_2928 rfl ?_
  refine zr_iconst (pc := 2930) S dL_law_2930 (by unfold zrI; omega) ?_
  refine zr_iadd (pc := 2931) S dL_law_2931 (by unfold zrI; omega) ?_
  refine zr_sld (pc := 2932) S hs dL_law_2932 (by omega) (by omega) ?_
  refine zr_invSW (pc := 2933) S [zR _, zI _] (m_L_restore _) kL_law_297 dL_law_2933 (Nat.le_of_ble_eq_true rfl) ⟨by show _ ≤ 601024; omega, by show _ ≤ 7293034; omega⟩ (⟨_, rfl, ?_⟩)
  suffices hc : ∀ (k : Int) (N : zM), sp_X12_restore _ N (fin B k) → zaft (zg E) room_1 8 (lawQ, 601024, 7293034) X _ _ _ _ (some (zI k)) N from mo_X11_restore (fun N h => hpm hc h) (fun _ _ _ h => hpm hc h) (step_restore g)
  intro k N hN
  dsimp only [zaft]
  refine zr_istore (pc := 2936) S dL_law_2936 (by decide) ?_
  dsimp only [zst1, zst2, zset, zget, zlong]
  refine zr_aload_n (pc := 2938) S dL_law_2938 rfl ?_
  refine zr_aload_n (pc := 2939) S dL_law_2939 rfl ?_
  refine zr_iload (pc := 2940) S dL_law_2940 rfl ?_
  refine zr_iconst (pc := 2942) S dL_law_2942 (by unfold zrI; omega) ?_
  refine zr_iadd (pc := 2943) S dL_law_2943 (by unfold zrI; omega) ?_
  refine zr_sld (pc := 2944) S hs dL_law_2944 (by omega) (by omega) ?_
  refine zr_invV (pc := 2945) S [zI _] (m_X12_restore _) kL_law_299 dL_law_2945 rfl (Nat.le_of_ble_eq_true rfl) rfl (Nat.le_of_ble_eq_true rfl) ⟨by show _ ≤ 601024; omega, by show _ ≤ 7293034; omega⟩ (mo_X12_restore (fun P hf => ?_) hN)
  dsimp only [zaft]
  obtain ⟨hf1, hR⟩ := hf
  refine zr_aload_n (pc := 2948) S dL_law_2948 rfl ?_
  refine zr_invV (pc := 2949) S [] (m_X12_thrown _) kL_law_155 dL_law_2949 rfl (Nat.le_of_ble_eq_true rfl) rfl (Nat.le_of_ble_eq_true rfl) ⟨by show _ ≤ 601024; omega, by show _ ≤ 7293034; omega⟩ (us_X12_thrown ?_)
  dsimp only [zaft]
  refine zr_iload (pc := 2952) S dL_law_2952 rfl ?_
  refine zr_icmp_eq (pc := 2954) (tgt := 2959) S dL_law_2954 (by decide) (fun c2954 => ?_) (fun c2954 => absurd c2954 (by omega))
  refine zr_goto (pc := 2959) (tgt := 2987) S dL_law_2959 (by decide) ?_
  exact zr_fg zfg8 (zr_wd ⟨by show _ ≤ b.1 + 10; omega, by show _ ≤ b.2 + 60; omega⟩ (hE _ hR))
theorem kL_law_300 : ∀ (s9 : State) (a9 : Array Value), (∀ w ∈ wzLaw, w.before a9 s9 = true) → CallW room_1 s9 a9 RL RX11 300 yX11_count cX11_count 2 (some .int) wzX11_count rmX11_count 0 0 1 := zcV (zWi_20 _ (List.mem_of_getElem? (i := 5) rfl)) (zWi_12 _ (List.mem_of_getElem? (i := 46) rfl)) (zWi_25 _ (List.mem_of_getElem? (i := 39) rfl)) (zWi_12 _ (List.mem_of_getElem? (i := 12) rfl)) (zWi_1 _ (List.mem_of_getElem? (i := 21) rfl)) (by decide +kernel) rfl rfl ⟨Nat.le_of_ble_eq_true rfl, Nat.le_of_ble_eq_true rfl⟩
theorem kL_law_303 : ∀ (s9 : State) (a9 : Array Value), (∀ w ∈ wzLaw, w.before a9 s9 = true) → CallW room_1 s9 a9 RL RX12 303 yX12_count cX12_count 2 (some .int) wzX12_count rmX12_count 0 0 1 := zcV (zWi_20 _ (List.mem_of_getElem? (i := 6) rfl)) (zWi_14 _ (List.mem_of_getElem? (i := 2) rfl)) (zWi_26 _ (List.mem_of_getElem? (i := 44) rfl)) (zWi_12 _ (List.mem_of_getElem? (i := 13) rfl)) (zWi_2 _ (List.mem_of_getElem? (i := 31) rfl)) (by decide +kernel) rfl rfl ⟨Nat.le_of_ble_eq_true rfl, Nat.le_of_ble_eq_true rfl⟩
set_option maxRecDepth 20000 in
set_option maxHeartbeats 4000000 in
theorem ca_count {E : zE} {X : zX} {L : Nat} {xs : Nat → Int32} {M : zM} {b : Nat × Nat} {B p : Int} (S : zS (zg E) X cL_law 8 wzLaw RL (some .boolean)) (hs : zSc (zg E) X L xs) (hp0 : 0 ≤ p) (hp7 : p + 7 ≤ L) (hL : L ≤ 3584) (g : RR B M) (hB : B ≤ 12300) (hb : b.1 ≤ 100000 ∧ b.2 ≤ 1000000) (hE : ∀ M', RR (B + 24) M' → zK (zg E) room_1 8 (lawQ, 601024, 7293034) X (b.1 + 10, b.2 + 60) 2987 [some (zR 2000), some (zR 0), some (zR 180), some (zR 201), some (zI p), none, none, none] [] M') : zK (zg E) room_1 8 (lawQ, 601024, 7293034) X b 2962 [some (zR 2000), some (zR 0), some (zR 180), some (zR 201), some (zI p), none, none, none] [] M := by
  refine zr_aload_n (pc := 2962) S dL_law_2962 rfl ?_
  refine zr_aload_n (pc := 2963) S dL_law_2963 rfl ?_
  refine zr_iload (pc := 2964) S dL_law_2964 rfl ?_
  refine zr_iconst (pc := 2966) S dL_law_2966 (by unfold zrI; omega) ?_
  refine zr_iadd (pc := 2967) S dL_law_2967 (by unfold zrI; omega) ?_
  refine zr_sld (pc := 2968) S hs dL_law_2968 (by omega) (by omega) ?_
  refine zr_invV (pc := 2969) S [zI _] (m_X11_count _) kL_law_300 dL_law_2969 rfl (Nat.le_of_ble_eq_true rfl) rfl (Nat.le_of_ble_eq_true rfl) ⟨by show _ ≤ 601024; omega, by show _ ≤ 7293034; omega⟩ (mo_X11_count (fun v N hN => ?_) (step_count g))
  dsimp only [zaft]
  refine zr_aload_n (pc := 2972) S dL_law_2972 rfl ?_
  refine zr_aload_n (pc := 2973) S dL_law_2973 rfl ?_
  refine zr_iload (pc := 2974) S dL_law_2974 rfl ?_
  refine zr_iconst (pc := 2976) S dL_law_2976 (by unfold zrI; omega) ?_
  refine zr_iadd (pc := 2977) S dL_law_2977 (by unfold zrI; omega) ?_
  refine zr_sld (pc := 2978) S hs dL_law_2978 (by omega) (by omega) ?_
  refine zr_invV (pc := 2979) S [zI _] (m_X12_count _) kL_law_303 dL_law_2979 rfl (Nat.le_of_ble_eq_true rfl) rfl (Nat.le_of_ble_eq_true rfl) ⟨by show _ ≤ 601024; omega, by show _ ≤ 7293034; omega⟩ (mo_X12_count (fun w P hf => ?_) hN)
  dsimp only [zaft]
  obtain ⟨⟨u9, e1, e2⟩, hR⟩ := hf
  cases e1
  cases e2
  refine zr_icmp_eq (pc := 2982) (tgt := 2987) S dL_law_2982 (by decide) (fun c2982 => ?_) (fun c2982 => absurd c2982 (by omega))
  exact zr_fg zfg8 (zr_wd ⟨by show _ ≤ b.1 + 10; omega, by show _ ≤ b.2 + 60; omega⟩ (hE _ hR))
end
