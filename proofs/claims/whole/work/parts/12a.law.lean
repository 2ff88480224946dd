/-! THE LAW -/
section LW
variable {own : String} {ini : Bool} {cc : ByteArray} {nL : Nat} {ret : Option FieldType} {X : Option (Nat × (Nat → Int32))} {d : Nat} {b : Nat × Nat} {pc : Nat} {loc : List (Option xAV)} {st : List xAV} {Y : xY} {G : xG} {N : xM} {Q : Option xAV → xY → xG → xM → Prop}
theorem V_sldN {L : Nat} {xs : Nat → Int32} {j : Nat} (hX : X = some (L, xs)) (hd : decode cc pc = .ok (.iaload, 1)) (hj : j < L) (hL : L ≤ 3072) (k : V own ini cc nL ret X d b (pc + 1) loc (xI (xs j) :: st) Y G N Q) : V own ini cc nL ret X d b pc loc (xI (nI j) :: xR 1000000 0 :: st) Y G N Q := by
  refine V_sld hX hd ?_ ?_
  · rintro (q | q)
    · exact nI_pos (by omega) q
    · rw [nI_clamp (by omega)] at q; omega
  · rw [nI_clamp (by omega)]; exact k
/-- what V says of an answer: that it is one -/
theorem V.ok (h : V own ini cc nL ret X d b pc loc st Y G N Q) : V own ini cc nL ret X d b pc loc st Y G N (fun r Y' G' N' => Q r Y' G' N' ∧ xOk ret Y' r) := by
  intro p l e R s m args below meth c D I A ρe Ye ρ H locs cells slots ls Qm C F Wo Ag hl hb hE
  exact h p l e R s m args below meth c D I A ρe Ye ρ H locs cells slots ls Qm C F Wo Ag hl hb (fun r Y' G' N' ρ' H' locs' cells' slots' pc' ls' q ok => hE r Y' G' N' ρ' H' locs' cells' slots' pc' ls' ⟨q, ok⟩ ok)
theorem ok_int {Y : xY} {r : Option xAV} (h : xOk (some .int) Y r) : ∃ v, r = some (xI v) := by
  rcases r with _ | ((v | v) | q)
  · cases h
  · exact ⟨v, rfl⟩
  · cases h
  · obtain ⟨⟨rt, h1, h2⟩, -⟩ := h
    cases h1
    rcases h2 with ⟨n, q⟩ | ⟨n, q⟩ <;> cases q
end LW
section LC
variable {b : Nat × Nat} {Y : xY} {G : xG} {N : xM} {Q : Option xAV → xY → xG → xM → Prop} {L i : Nat} {xs : Nat → Int32}
theorem law_0 {e : Nat} (he : 54 + e ≤ 9999) (h : Rl e Y G N (N 40)) (hi : i + 6 ≤ L) (hL : L ≤ 3072) (K : ∀ G2 N2, Rl (e + 9) Y G2 N2 (N2 40) → V RL false cL_law 4 (some .boolean) (some (L, xs)) 17 b 1415 [some (xR 1000000 0), some (xR 0 0), some (xR 40 0), some (xI (nI i))] [] Y G2 N2 Q) : V RL false cL_law 4 (some .boolean) (some (L, xs)) 17 b 200 [some (xR 1000000 0), some (xR 0 0), some (xR 40 0), some (xI (nI i))] [] Y G N Q := by
  refine V_ald1 dL_law_200 ?_
  refine V_ald0 dL_law_201 ?_
  refine V_ild3 dL_law_202 ?_
  refine V_iconst (v := nI 1) dL_law_203 (by decide) ?_
  refine V_iaddN dL_law_204 ?_
  refine V_sldN rfl dL_law_205 (by omega) hL ?_
  refine V_ald0 dL_law_206 ?_
  refine V_ild3 dL_law_207 ?_
  refine V_iconst (v := nI 2) dL_law_208 (by decide) ?_
  refine V_iaddN dL_law_209 ?_
  refine V_sldN rfl dL_law_210 (by omega) hL ?_
  refine V_ald0 dL_law_211 ?_
  refine V_ild3 dL_law_212 ?_
  refine V_iconst (v := nI 3) dL_law_213 (by decide) ?_
  refine V_iaddN dL_law_214 ?_
  refine V_sldN rfl dL_law_215 (by omega) hL ?_
  refine V_iv3 dL_law_216 wlL_13 mdX6_row miX6_row rfl (h.1.r0.1 0 (0, 6) rfl) rfl rfl ((V.ok (b_row h)).mono ?_)
  rintro r Y1 G1 N1 ⟨⟨rfl, hV⟩, hok⟩
  obtain ⟨v, rfl⟩ := ok_int hok
  refine ⟨rfl, ?_⟩
  refine V_ald2 dL_law_219 ?_
  refine V_ald0 dL_law_220 ?_
  refine V_ild3 dL_law_221 ?_
  refine V_iconst (v := nI 1) dL_law_222 (by decide) ?_
  refine V_iaddN dL_law_223 ?_
  refine V_sldN rfl dL_law_224 (by omega) hL ?_
  refine V_ald0 dL_law_225 ?_
  refine V_ild3 dL_law_226 ?_
  refine V_iconst (v := nI 2) dL_law_227 (by decide) ?_
  refine V_iaddN dL_law_228 ?_
  refine V_sldN rfl dL_law_229 (by omega) hL ?_
  refine V_ald0 dL_law_230 ?_
  refine V_ild3 dL_law_231 ?_
  refine V_iconst (v := nI 3) dL_law_232 (by decide) ?_
  refine V_iaddN dL_law_233 ?_
  refine V_sldN rfl dL_law_234 (by omega) hL ?_
  refine V_iv3 dL_law_235 wlL_17 mdX7_row miX7_row rfl (h.1.mo.1 0 (0, 7) rfl) rfl rfl (V.mono hV ?_)
  rintro r2 Y2 G2 N2 ⟨rfl, rfl, -, hR⟩
  refine ⟨rfl, ?_⟩
  exact V_icmpeq (tgt := 1415) dL_law_238 (by decide) (fun _ => K _ _ (hR.up (by omega))) (fun c => absurd rfl c)
theorem law_1 {e : Nat} (he : 54 + e ≤ 9999) (h : Rl e Y G N (N 40)) (hi : i + 6 ≤ L) (hL : L ≤ 3072) (K : ∀ G2 N2, Rl (e + 9) Y G2 N2 (N2 40) → V RL false cL_law 4 (some .boolean) (some (L, xs)) 17 b 1415 [some (xR 1000000 0), some (xR 0 0), some (xR 40 0), some (xI (nI i))] [] Y G2 N2 Q) : V RL false cL_law 4 (some .boolean) (some (L, xs)) 17 b 243 [some (xR 1000000 0), some (xR 0 0), some (xR 40 0), some (xI (nI i))] [] Y G N Q := by
  refine V_ald1 dL_law_243 ?_
  refine V_ald0 dL_law_244 ?_
  refine V_ild3 dL_law_245 ?_
  refine V_iconst (v := nI 1) dL_law_246 (by decide) ?_
  refine V_iaddN dL_law_247 ?_
  refine V_sldN rfl dL_law_248 (by omega) hL ?_
  refine V_ald0 dL_law_249 ?_
  refine V_ild3 dL_law_250 ?_
  refine V_iconst (v := nI 2) dL_law_251 (by decide) ?_
  refine V_iaddN dL_law_252 ?_
  refine V_sldN rfl dL_law_253 (by omega) hL ?_
  refine V_ald0 dL_law_254 ?_
  refine V_ild3 dL_law_255 ?_
  refine V_iconst (v := nI 3) dL_law_256 (by decide) ?_
  refine V_iaddN dL_law_257 ?_
  refine V_sldN rfl dL_law_258 (by omega) hL ?_
  refine V_iv3 dL_law_259 wlL_18 mdX6_set miX6_set rfl (h.1.r0.1 0 (0, 6) rfl) rfl rfl ((V.ok (b_set h)).mono ?_)
  rintro r Y1 G1 N1 ⟨⟨rfl, hV⟩, hok⟩
  obtain ⟨v, rfl⟩ := ok_int hok
  refine ⟨rfl, ?_⟩
  refine V_ald2 dL_law_262 ?_
  refine V_ald0 dL_law_263 ?_
  refine V_ild3 dL_law_264 ?_
  refine V_iconst (v := nI 1) dL_law_265 (by decide) ?_
  refine V_iaddN dL_law_266 ?_
  refine V_sldN rfl dL_law_267 (by omega) hL ?_
  refine V_ald0 dL_law_268 ?_
  refine V_ild3 dL_law_269 ?_
  refine V_iconst (v := nI 2) dL_law_270 (by decide) ?_
  refine V_iaddN dL_law_271 ?_
  refine V_sldN rfl dL_law_272 (by omega) hL ?_
  refine V_ald0 dL_law_273 ?_
  refine V_ild3 dL_law_274 ?_
  refine V_iconst (v := nI 3) dL_law_275 (by decide) ?_
  refine V_iaddN dL_law_276 ?_
  refine V_sldN rfl dL_law_277 (by omega) hL ?_
  refine V_iv3 dL_law_278 wlL_21 mdX7_set miX7_set rfl (h.1.mo.1 0 (0, 7) rfl) rfl rfl (V.mono hV ?_)
  rintro r2 Y2 G2 N2 ⟨rfl, rfl, -, hR⟩
  refine ⟨rfl, ?_⟩
  exact V_icmpeq (tgt := 1415) dL_law_281 (by decide) (fun _ => K _ _ (hR.up (by omega))) (fun c => absurd rfl c)
theorem law_2 {e : Nat} (he : 54 + e ≤ 9999) (h : Rl e Y G N (N 40)) (hi : i + 6 ≤ L) (hL : L ≤ 3072) (K : ∀ G2 N2, Rl (e + 9) Y G2 N2 (N2 40) → V RL false cL_law 4 (some .boolean) (some (L, xs)) 17 b 1415 [some (xR 1000000 0), some (xR 0 0), some (xR 40 0), some (xI (nI i))] [] Y G2 N2 Q) : V RL false cL_law 4 (some .boolean) (some (L, xs)) 17 b 286 [some (xR 1000000 0), some (xR 0 0), some (xR 40 0), some (xI (nI i))] [] Y G N Q := by
  refine V_ald1 dL_law_286 ?_
  refine V_ald0 dL_law_287 ?_
  refine V_ild3 dL_law_288 ?_
  refine V_iconst (v := nI 1) dL_law_289 (by decide) ?_
  refine V_iaddN dL_law_290 ?_
  refine V_sldN rfl dL_law_291 (by omega) hL ?_
  refine V_ald0 dL_law_292 ?_
  refine V_ild3 dL_law_293 ?_
  refine V_iconst (v := nI 2) dL_law_294 (by decide) ?_
  refine V_iaddN dL_law_295 ?_
  refine V_sldN rfl dL_law_296 (by omega) hL ?_
  refine V_ald0 dL_law_297 ?_
  refine V_ild3 dL_law_298 ?_
  refine V_iconst (v := nI 3) dL_law_299 (by decide) ?_
  refine V_iaddN dL_law_300 ?_
  refine V_sldN rfl dL_law_301 (by omega) hL ?_
  refine V_ald0 dL_law_302 ?_
  refine V_ild3 dL_law_303 ?_
  refine V_iconst (v := nI 4) dL_law_304 (by decide) ?_
  refine V_iaddN dL_law_305 ?_
  refine V_sldN rfl dL_law_306 (by omega) hL ?_
  refine V_ald0 dL_law_307 ?_
  refine V_ild3 dL_law_308 ?_
  refine V_iconst (v := nI 5) dL_law_309 (by decide) ?_
  refine V_iaddN dL_law_310 ?_
  refine V_sldN rfl dL_law_311 (by omega) hL ?_
  refine V_iv5 dL_law_312 wlL_22 mdX6_copy miX6_copy rfl (h.1.r0.1 0 (0, 6) rfl) rfl rfl ((V.ok (b_copy h)).mono ?_)
  rintro r Y1 G1 N1 ⟨⟨rfl, hV⟩, hok⟩
  obtain ⟨v, rfl⟩ := ok_int hok
  refine ⟨rfl, ?_⟩
  refine V_ald2 dL_law_315 ?_
  refine V_ald0 dL_law_316 ?_
  refine V_ild3 dL_law_317 ?_
  refine V_iconst (v := nI 1) dL_law_318 (by decide) ?_
  refine V_iaddN dL_law_319 ?_
  refine V_sldN rfl dL_law_320 (by omega) hL ?_
  refine V_ald0 dL_law_321 ?_
  refine V_ild3 dL_law_322 ?_
  refine V_iconst (v := nI 2) dL_law_323 (by decide) ?_
  refine V_iaddN dL_law_324 ?_
  refine V_sldN rfl dL_law_325 (by omega) hL ?_
  refine V_ald0 dL_law_326 ?_
  refine V_ild3 dL_law_327 ?_
  refine V_iconst (v := nI 3) dL_law_328 (by decide) ?_
  refine V_iaddN dL_law_329 ?_
  refine V_sldN rfl dL_law_330 (by omega) hL ?_
  refine V_ald0 dL_law_331 ?_
  refine V_ild3 dL_law_332 ?_
  refine V_iconst (v := nI 4) dL_law_333 (by decide) ?_
  refine V_iaddN dL_law_334 ?_
  refine V_sldN rfl dL_law_335 (by omega) hL ?_
  refine V_ald0 dL_law_336 ?_
  refine V_ild3 dL_law_337 ?_
  refine V_iconst (v := nI 5) dL_law_338 (by decide) ?_
  refine V_iaddN dL_law_339 ?_
  refine V_sldN rfl dL_law_340 (by omega) hL ?_
  refine V_iv5 dL_law_341 wlL_26 mdX7_copy miX7_copy rfl (h.1.mo.1 0 (0, 7) rfl) rfl rfl (V.mono hV ?_)
  rintro r2 Y2 G2 N2 ⟨rfl, rfl, -, hR⟩
  refine ⟨rfl, ?_⟩
  exact V_icmpeq (tgt := 1415) dL_law_344 (by decide) (fun _ => K _ _ (hR.up (by omega))) (fun c => absurd rfl c)
theorem law_3 {e : Nat} (he : 54 + e ≤ 9999) (h : Rl e Y G N (N 40)) (hi : i + 6 ≤ L) (hL : L ≤ 3072) (K : ∀ G2 N2, Rl (e + 9) Y G2 N2 (N2 40) → V RL false cL_law 4 (some .boolean) (some (L, xs)) 17 b 1415 [some (xR 1000000 0), some (xR 0 0), some (xR 40 0), some (xI (nI i))] [] Y G2 N2 Q) : V RL false cL_law 4 (some .boolean) (some (L, xs)) 17 b 349 [some (xR 1000000 0), some (xR 0 0), some (xR 40 0), some (xI (nI i))] [] Y G N Q := by
  refine V_ald1 dL_law_349 ?_
  refine V_ald0 dL_law_350 ?_
  refine V_ild3 dL_law_351 ?_
  refine V_iconst (v := nI 1) dL_law_352 (by decide) ?_
  refine V_iaddN dL_law_353 ?_
  refine V_sldN rfl dL_law_354 (by omega) hL ?_
  refine V_iv1 dL_law_355 wlL_27 mdX6_drop miX6_drop rfl (h.1.r0.1 0 (0, 6) rfl) rfl rfl ((V.ok (b_drop h)).mono ?_)
  rintro r Y1 G1 N1 ⟨⟨rfl, hV⟩, hok⟩
  obtain ⟨v, rfl⟩ := ok_int hok
  refine ⟨rfl, ?_⟩
  refine V_ald2 dL_law_358 ?_
  refine V_ald0 dL_law_359 ?_
  refine V_ild3 dL_law_360 ?_
  refine V_iconst (v := nI 1) dL_law_361 (by decide) ?_
  refine V_iaddN dL_law_362 ?_
  refine V_sldN rfl dL_law_363 (by omega) hL ?_
  refine V_iv1 dL_law_364 wlL_31 mdX7_drop miX7_drop rfl (h.1.mo.1 0 (0, 7) rfl) rfl rfl (V.mono hV ?_)
  rintro r2 Y2 G2 N2 ⟨rfl, rfl, -, hR⟩
  refine ⟨rfl, ?_⟩
  exact V_icmpeq (tgt := 1415) dL_law_367 (by decide) (fun _ => K _ _ (hR.up (by omega))) (fun c => absurd rfl c)
theorem law_4 {e : Nat} (he : 54 + e ≤ 9999) (h : Rl e Y G N (N 40)) (hi : i + 6 ≤ L) (hL : L ≤ 3072) (K : ∀ G2 N2, Rl (e + 9) Y G2 N2 (N2 40) → V RL false cL_law 4 (some .boolean) (some (L, xs)) 17 b 1415 [some (xR 1000000 0), some (xR 0 0), some (xR 40 0), some (xI (nI i))] [] Y G2 N2 Q) : V RL false cL_law 4 (some .boolean) (some (L, xs)) 17 b 372 [some (xR 1000000 0), some (xR 0 0), some (xR 40 0), some (xI (nI i))] [] Y G N Q := by
  refine V_ald1 dL_law_372 ?_
  refine V_ald0 dL_law_373 ?_
  refine V_ild3 dL_law_374 ?_
  refine V_iconst (v := nI 1) dL_law_375 (by decide) ?_
  refine V_iaddN dL_law_376 ?_
  refine V_sldN rfl dL_law_377 (by omega) hL ?_
  refine V_iv1 dL_law_378 wlL_32 mdX6_feed miX6_feed rfl (h.1.r0.1 0 (0, 6) rfl) rfl rfl ((V.ok (b_feed h)).mono ?_)
  rintro r Y1 G1 N1 ⟨⟨rfl, hV⟩, hok⟩
  obtain ⟨v, rfl⟩ := ok_int hok
  refine ⟨rfl, ?_⟩
  refine V_ald2 dL_law_381 ?_
  refine V_ald0 dL_law_382 ?_
  refine V_ild3 dL_law_383 ?_
  refine V_iconst (v := nI 1) dL_law_384 (by decide) ?_
  refine V_iaddN dL_law_385 ?_
  refine V_sldN rfl dL_law_386 (by omega) hL ?_
  refine V_iv1 dL_law_387 wlL_35 mdX7_feed miX7_feed rfl (h.1.mo.1 0 (0, 7) rfl) rfl rfl (V.mono hV ?_)
  rintro r2 Y2 G2 N2 ⟨rfl, rfl, -, hR⟩
  refine ⟨rfl, ?_⟩
  exact V_icmpeq (tgt := 1415) dL_law_390 (by decide) (fun _ => K _ _ (hR.up (by omega))) (fun c => absurd rfl c)
theorem law_5 {e : Nat} (he : 54 + e ≤ 9999) (h : Rl e Y G N (N 40)) (hi : i + 6 ≤ L) (hL : L ≤ 3072) (K : ∀ G2 N2, Rl (e + 9) Y G2 N2 (N2 40) → V RL false cL_law 4 (some .boolean) (some (L, xs)) 17 b 1415 [some (xR 1000000 0), some (xR 0 0), some (xR 40 0), some (xI (nI i))] [] Y G2 N2 Q) : V RL false cL_law 4 (some .boolean) (some (L, xs)) 17 b 395 [some (xR 1000000 0), some (xR 0 0), some (xR 40 0), some (xI (nI i))] [] Y G N Q := by
  refine V_ald1 dL_law_395 ?_
  refine V_iv0 dL_law_396 wlL_36 mdX6_run miX6_run rfl (h.1.r0.1 0 (0, 6) rfl) rfl rfl ((V.ok (b_run h)).mono ?_)
  rintro r Y1 G1 N1 ⟨⟨rfl, hV⟩, hok⟩
  obtain ⟨v, rfl⟩ := ok_int hok
  refine ⟨rfl, ?_⟩
  refine V_ald2 dL_law_399 ?_
  refine V_iv0 dL_law_400 wlL_40 mdX7_run miX7_run rfl (h.1.mo.1 0 (0, 7) rfl) rfl rfl (V.mono hV ?_)
  rintro r2 Y2 G2 N2 ⟨rfl, rfl, -, hR⟩
  refine ⟨rfl, ?_⟩
  exact V_icmpeq (tgt := 1415) dL_law_403 (by decide) (fun _ => K _ _ (hR.up (by omega))) (fun c => absurd rfl c)
theorem law_6 {e : Nat} (he : 54 + e ≤ 9999) (h : Rl e Y G N (N 40)) (hi : i + 6 ≤ L) (hL : L ≤ 3072) (K : ∀ G2 N2, Rl (e + 9) Y G2 N2 (N2 40) → V RL false cL_law 4 (some .boolean) (some (L, xs)) 17 b 1415 [some (xR 1000000 0), some (xR 0 0), some (xR 40 0), some (xI (nI i))] [] Y G2 N2 Q) : V RL false cL_law 4 (some .boolean) (some (L, xs)) 17 b 408 [some (xR 1000000 0), some (xR 0 0), some (xR 40 0), some (xI (nI i))] [] Y G N Q := by
  refine V_ald1 dL_law_408 ?_
  refine V_iv0 dL_law_409 wlL_41 mdX6_fault miX6_fault rfl (h.1.r0.1 0 (0, 6) rfl) rfl rfl ((V.ok (b_fault h)).mono ?_)
  rintro r Y1 G1 N1 ⟨⟨rfl, hV⟩, hok⟩
  obtain ⟨v, rfl⟩ := ok_int hok
  refine ⟨rfl, ?_⟩
  refine V_ald2 dL_law_412 ?_
  refine V_iv0 dL_law_413 wlL_44 mdX7_fault miX7_fault rfl (h.1.mo.1 0 (0, 7) rfl) rfl rfl (V.mono hV ?_)
  rintro r2 Y2 G2 N2 ⟨rfl, rfl, -, hR⟩
  refine ⟨rfl, ?_⟩
  exact V_icmpeq (tgt := 1415) dL_law_416 (by decide) (fun _ => K _ _ (hR.up (by omega))) (fun c => absurd rfl c)
theorem law_7 {e : Nat} (he : 54 + e ≤ 9999) (h : Rl e Y G N (N 40)) (hi : i + 6 ≤ L) (hL : L ≤ 3072) (K : ∀ G2 N2, Rl (e + 9) Y G2 N2 (N2 40) → V RL false cL_law 4 (some .boolean) (some (L, xs)) 17 b 1415 [some (xR 1000000 0), some (xR 0 0), some (xR 40 0), some (xI (nI i))] [] Y G2 N2 Q) : V RL false cL_law 4 (some .boolean) (some (L, xs)) 17 b 421 [some (xR 1000000 0), some (xR 0 0), some (xR 40 0), some (xI (nI i))] [] Y G N Q := by
  refine V_ald1 dL_law_421 ?_
  refine V_iv0 dL_law_422 wlL_45 mdX6_undo miX6_undo rfl (h.1.r0.1 0 (0, 6) rfl) rfl rfl ((V.ok (b_undo h)).mono ?_)
  rintro r Y1 G1 N1 ⟨⟨rfl, hV⟩, hok⟩
  obtain ⟨v, rfl⟩ := ok_int hok
  refine ⟨rfl, ?_⟩
  refine V_ald2 dL_law_425 ?_
  refine V_iv0 dL_law_426 wlL_48 mdX7_undo miX7_undo rfl (h.1.mo.1 0 (0, 7) rfl) rfl rfl (V.mono hV ?_)
  rintro r2 Y2 G2 N2 ⟨rfl, rfl, -, hR⟩
  refine ⟨rfl, ?_⟩
  exact V_icmpeq (tgt := 1415) dL_law_429 (by decide) (fun _ => K _ _ (hR.up (by omega))) (fun c => absurd rfl c)
theorem law_8 {e : Nat} (he : 54 + e ≤ 9999) (h : Rl e Y G N (N 40)) (hi : i + 6 ≤ L) (hL : L ≤ 3072) (K : ∀ G2 N2, Rl (e + 9) Y G2 N2 (N2 40) → V RL false cL_law 4 (some .boolean) (some (L, xs)) 17 b 1415 [some (xR 1000000 0), some (xR 0 0), some (xR 40 0), some (xI (nI i))] [] Y G2 N2 Q) : V RL false cL_law 4 (some .boolean) (some (L, xs)) 17 b 434 [some (xR 1000000 0), some (xR 0 0), some (xR 40 0), some (xI (nI i))] [] Y G N Q := by
  refine V_ald1 dL_law_434 ?_
  refine V_ald0 dL_law_435 ?_
  refine V_ild3 dL_law_436 ?_
  refine V_iconst (v := nI 1) dL_law_437 (by decide) ?_
  refine V_iaddN dL_law_438 ?_
  refine V_sldN rfl dL_law_439 (by omega) hL ?_
  refine V_iv1 dL_law_440 wlL_49 mdX6_ticks miX6_ticks rfl (h.1.r0.1 0 (0, 6) rfl) rfl rfl ((V.ok (b_ticks h)).mono ?_)
  rintro r Y1 G1 N1 ⟨⟨rfl, hV⟩, hok⟩
  obtain ⟨v, rfl⟩ := ok_int hok
  refine ⟨rfl, ?_⟩
  refine V_ald2 dL_law_443 ?_
  refine V_ald0 dL_law_444 ?_
  refine V_ild3 dL_law_445 ?_
  refine V_iconst (v := nI 1) dL_law_446 (by decide) ?_
  refine V_iaddN dL_law_447 ?_
  refine V_sldN rfl dL_law_448 (by omega) hL ?_
  refine V_iv1 dL_law_449 wlL_52 mdX7_ticks miX7_ticks rfl (h.1.mo.1 0 (0, 7) rfl) rfl rfl (V.mono hV ?_)
  rintro r2 Y2 G2 N2 ⟨rfl, rfl, -, hR⟩
  refine ⟨rfl, ?_⟩
  exact V_icmpeq (tgt := 1415) dL_law_452 (by decide) (fun _ => K _ _ (hR.up (by omega))) (fun c => absurd rfl c)
theorem law_9 {e : Nat} (he : 54 + e ≤ 9999) (h : Rl e Y G N (N 40)) (hi : i + 6 ≤ L) (hL : L ≤ 3072) (K : ∀ G2 N2, Rl (e + 9) Y G2 N2 (N2 40) → V RL false cL_law 4 (some .boolean) (some (L, xs)) 17 b 1415 [some (xR 1000000 0), some (xR 0 0), some (xR 40 0), some (xI (nI i))] [] Y G2 N2 Q) : V RL false cL_law 4 (some .boolean) (some (L, xs)) 17 b 457 [some (xR 1000000 0), some (xR 0 0), some (xR 40 0), some (xI (nI i))] [] Y G N Q := by
  refine V_ald1 dL_law_457 ?_
  refine V_ald0 dL_law_458 ?_
  refine V_ild3 dL_law_459 ?_
  refine V_iconst (v := nI 1) dL_law_460 (by decide) ?_
  refine V_iaddN dL_law_461 ?_
  refine V_sldN rfl dL_law_462 (by omega) hL ?_
  refine V_iv1 dL_law_463 wlL_53 mdX6_tip miX6_tip rfl (h.1.r0.1 0 (0, 6) rfl) rfl rfl ((V.ok (b_tip h)).mono ?_)
  rintro r Y1 G1 N1 ⟨⟨rfl, hV⟩, hok⟩
  obtain ⟨v, rfl⟩ := ok_int hok
  refine ⟨rfl, ?_⟩
  refine V_ald2 dL_law_466 ?_
  refine V_ald0 dL_law_467 ?_
  refine V_ild3 dL_law_468 ?_
  refine V_iconst (v := nI 1) dL_law_469 (by decide) ?_
  refine V_iaddN dL_law_470 ?_
  refine V_sldN rfl dL_law_471 (by omega) hL ?_
  refine V_iv1 dL_law_472 wlL_56 mdX7_tip miX7_tip rfl (h.1.mo.1 0 (0, 7) rfl) rfl rfl (V.mono hV ?_)
  rintro r2 Y2 G2 N2 ⟨rfl, rfl, -, hR⟩
  refine ⟨rfl, ?_⟩
  exact V_icmpeq (tgt := 1415) dL_law_475 (by decide) (fun _ => K _ _ (hR.up (by omega))) (fun c => absurd rfl c)
theorem law_10 {e : Nat} (he : 54 + e ≤ 9999) (h : Rl e Y G N (N 40)) (hi : i + 6 ≤ L) (hL : L ≤ 3072) (K : ∀ G2 N2, Rl (e + 9) Y G2 N2 (N2 40) → V RL false cL_law 4 (some .boolean) (some (L, xs)) 17 b 1415 [some (xR 1000000 0), some (xR 0 0), some (xR 40 0), some (xI (nI i))] [] Y G2 N2 Q) : V RL false cL_law 4 (some .boolean) (some (L, xs)) 17 b 480 [some (xR 1000000 0), some (xR 0 0), some (xR 40 0), some (xI (nI i))] [] Y G N Q := by
  refine V_ald1 dL_law_480 ?_
  refine V_ald0 dL_law_481 ?_
  refine V_ild3 dL_law_482 ?_
  refine V_iconst (v := nI 1) dL_law_483 (by decide) ?_
  refine V_iaddN dL_law_484 ?_
  refine V_sldN rfl dL_law_485 (by omega) hL ?_
  refine V_ald0 dL_law_486 ?_
  refine V_ild3 dL_law_487 ?_
  refine V_iconst (v := nI 2) dL_law_488 (by decide) ?_
  refine V_iaddN dL_law_489 ?_
  refine V_sldN rfl dL_law_490 (by omega) hL ?_
  refine V_ald0 dL_law_491 ?_
  refine V_ild3 dL_law_492 ?_
  refine V_iconst (v := nI 3) dL_law_493 (by decide) ?_
  refine V_iaddN dL_law_494 ?_
  refine V_sldN rfl dL_law_495 (by omega) hL ?_
  refine V_iv3 dL_law_496 wlL_57 mdX6_lead miX6_lead rfl (h.1.r0.1 0 (0, 6) rfl) rfl rfl ((V.ok (b_lead h)).mono ?_)
  rintro r Y1 G1 N1 ⟨⟨rfl, hV⟩, hok⟩
  obtain ⟨v, rfl⟩ := ok_int hok
  refine ⟨rfl, ?_⟩
  refine V_ald2 dL_law_499 ?_
  refine V_ald0 dL_law_500 ?_
  refine V_ild3 dL_law_501 ?_
  refine V_iconst (v := nI 1) dL_law_502 (by decide) ?_
  refine V_iaddN dL_law_503 ?_
  refine V_sldN rfl dL_law_504 (by omega) hL ?_
  refine V_ald0 dL_law_505 ?_
  refine V_ild3 dL_law_506 ?_
  refine V_iconst (v := nI 2) dL_law_507 (by decide) ?_
  refine V_iaddN dL_law_508 ?_
  refine V_sldN rfl dL_law_509 (by omega) hL ?_
  refine V_ald0 dL_law_510 ?_
  refine V_ild3 dL_law_511 ?_
  refine V_iconst (v := nI 3) dL_law_512 (by decide) ?_
  refine V_iaddN dL_law_513 ?_
  refine V_sldN rfl dL_law_514 (by omega) hL ?_
  refine V_iv3 dL_law_515 wlL_60 mdX7_lead miX7_lead rfl (h.1.mo.1 0 (0, 7) rfl) rfl rfl (V.mono hV ?_)
  rintro r2 Y2 G2 N2 ⟨rfl, rfl, -, hR⟩
  refine ⟨rfl, ?_⟩
  exact V_icmpeq (tgt := 1415) dL_law_518 (by decide) (fun _ => K _ _ (hR.up (by omega))) (fun c => absurd rfl c)
theorem law_11 {e : Nat} (he : 54 + e ≤ 9999) (h : Rl e Y G N (N 40)) (hi : i + 6 ≤ L) (hL : L ≤ 3072) (K : ∀ G2 N2, Rl (e + 9) Y G2 N2 (N2 40) → V RL false cL_law 4 (some .boolean) (some (L, xs)) 17 b 1415 [some (xR 1000000 0), some (xR 0 0), some (xR 40 0), some (xI (nI i))] [] Y G2 N2 Q) : V RL false cL_law 4 (some .boolean) (some (L, xs)) 17 b 523 [some (xR 1000000 0), some (xR 0 0), some (xR 40 0), some (xI (nI i))] [] Y G N Q := by
  refine V_ald1 dL_law_523 ?_
  refine V_ald0 dL_law_524 ?_
  refine V_ild3 dL_law_525 ?_
  refine V_iconst (v := nI 1) dL_law_526 (by decide) ?_
  refine V_iaddN dL_law_527 ?_
  refine V_sldN rfl dL_law_528 (by omega) hL ?_
  refine V_ald0 dL_law_529 ?_
  refine V_ild3 dL_law_530 ?_
  refine V_iconst (v := nI 2) dL_law_531 (by decide) ?_
  refine V_iaddN dL_law_532 ?_
  refine V_sldN rfl dL_law_533 (by omega) hL ?_
  refine V_iv2 dL_law_534 wlL_61 mdX6_again miX6_again rfl (h.1.r0.1 0 (0, 6) rfl) rfl rfl ((V.ok (b_again h)).mono ?_)
  rintro r Y1 G1 N1 ⟨⟨rfl, hV⟩, hok⟩
  obtain ⟨v, rfl⟩ := ok_int hok
  refine ⟨rfl, ?_⟩
  refine V_ald2 dL_law_537 ?_
  refine V_ald0 dL_law_538 ?_
  refine V_ild3 dL_law_539 ?_
  refine V_iconst (v := nI 1) dL_law_540 (by decide) ?_
  refine V_iaddN dL_law_541 ?_
  refine V_sldN rfl dL_law_542 (by omega) hL ?_
  refine V_ald0 dL_law_543 ?_
  refine V_ild3 dL_law_544 ?_
  refine V_iconst (v := nI 2) dL_law_545 (by decide) ?_
  refine V_iaddN dL_law_546 ?_
  refine V_sldN rfl dL_law_547 (by omega) hL ?_
  refine V_iv2 dL_law_548 wlL_65 mdX7_again miX7_again rfl (h.1.mo.1 0 (0, 7) rfl) rfl rfl (V.mono hV ?_)
  rintro r2 Y2 G2 N2 ⟨rfl, rfl, -, hR⟩
  refine ⟨rfl, ?_⟩
  exact V_icmpeq (tgt := 1415) dL_law_551 (by decide) (fun _ => K _ _ (hR.up (by omega))) (fun c => absurd rfl c)
theorem law_12 {e : Nat} (he : 54 + e ≤ 9999) (h : Rl e Y G N (N 40)) (hi : i + 6 ≤ L) (hL : L ≤ 3072) (K : ∀ G2 N2, Rl (e + 9) Y G2 N2 (N2 40) → V RL false cL_law 4 (some .boolean) (some (L, xs)) 17 b 1415 [some (xR 1000000 0), some (xR 0 0), some (xR 40 0), some (xI (nI i))] [] Y G2 N2 Q) : V RL false cL_law 4 (some .boolean) (some (L, xs)) 17 b 556 [some (xR 1000000 0), some (xR 0 0), some (xR 40 0), some (xI (nI i))] [] Y G N Q := by
  refine V_ald1 dL_law_556 ?_
  refine V_ald0 dL_law_557 ?_
  refine V_ild3 dL_law_558 ?_
  refine V_iconst (v := nI 1) dL_law_559 (by decide) ?_
  refine V_iaddN dL_law_560 ?_
  refine V_sldN rfl dL_law_561 (by omega) hL ?_
  refine V_ald0 dL_law_562 ?_
  refine V_ild3 dL_law_563 ?_
  refine V_iconst (v := nI 2) dL_law_564 (by decide) ?_
  refine V_iaddN dL_law_565 ?_
  refine V_sldN rfl dL_law_566 (by omega) hL ?_
  refine V_iv2 dL_law_567 wlL_66 mdX6_marble miX6_marble rfl (h.1.r0.1 0 (0, 6) rfl) rfl rfl ((V.ok (b_marble h)).mono ?_)
  rintro r Y1 G1 N1 ⟨⟨rfl, hV⟩, hok⟩
  obtain ⟨v, rfl⟩ := ok_int hok
  refine ⟨rfl, ?_⟩
  refine V_ald2 dL_law_570 ?_
  refine V_ald0 dL_law_571 ?_
  refine V_ild3 dL_law_572 ?_
  refine V_iconst (v := nI 1) dL_law_573 (by decide) ?_
  refine V_iaddN dL_law_574 ?_
  refine V_sldN rfl dL_law_575 (by omega) hL ?_
  refine V_ald0 dL_law_576 ?_
  refine V_ild3 dL_law_577 ?_
  refine V_iconst (v := nI 2) dL_law_578 (by decide) ?_
  refine V_iaddN dL_law_579 ?_
  refine V_sldN rfl dL_law_580 (by omega) hL ?_
  refine V_iv2 dL_law_581 wlL_69 mdX7_marble miX7_marble rfl (h.1.mo.1 0 (0, 7) rfl) rfl rfl (V.mono hV ?_)
  rintro r2 Y2 G2 N2 ⟨rfl, rfl, -, hR⟩
  refine ⟨rfl, ?_⟩
  exact V_icmpeq (tgt := 1415) dL_law_584 (by decide) (fun _ => K _ _ (hR.up (by omega))) (fun c => absurd rfl c)
theorem law_13 {e : Nat} (he : 54 + e ≤ 9999) (h : Rl e Y G N (N 40)) (hi : i + 6 ≤ L) (hL : L ≤ 3072) (K : ∀ G2 N2, Rl (e + 9) Y G2 N2 (N2 40) → V RL false cL_law 4 (some .boolean) (some (L, xs)) 17 b 1415 [some (xR 1000000 0), some (xR 0 0), some (xR 40 0), some (xI (nI i))] [] Y G2 N2 Q) : V RL false cL_law 4 (some .boolean) (some (L, xs)) 17 b 589 [some (xR 1000000 0), some (xR 0 0), some (xR 40 0), some (xI (nI i))] [] Y G N Q := by
  refine V_ald1 dL_law_589 ?_
  refine V_ald0 dL_law_590 ?_
  refine V_ild3 dL_law_591 ?_
  refine V_iconst (v := nI 1) dL_law_592 (by decide) ?_
  refine V_iaddN dL_law_593 ?_
  refine V_sldN rfl dL_law_594 (by omega) hL ?_
  refine V_ald0 dL_law_595 ?_
  refine V_ild3 dL_law_596 ?_
  refine V_iconst (v := nI 2) dL_law_597 (by decide) ?_
  refine V_iaddN dL_law_598 ?_
  refine V_sldN rfl dL_law_599 (by omega) hL ?_
  refine V_iv2 dL_law_600 wlL_70 mdX6_piece miX6_piece rfl (h.1.r0.1 0 (0, 6) rfl) rfl rfl ((V.ok (b_piece h)).mono ?_)
  rintro r Y1 G1 N1 ⟨⟨rfl, hV⟩, hok⟩
  obtain ⟨v, rfl⟩ := ok_int hok
  refine ⟨rfl, ?_⟩
  refine V_ald2 dL_law_603 ?_
  refine V_ald0 dL_law_604 ?_
  refine V_ild3 dL_law_605 ?_
  refine V_iconst (v := nI 1) dL_law_606 (by decide) ?_
  refine V_iaddN dL_law_607 ?_
  refine V_sldN rfl dL_law_608 (by omega) hL ?_
  refine V_ald0 dL_law_609 ?_
  refine V_ild3 dL_law_610 ?_
  refine V_iconst (v := nI 2) dL_law_611 (by decide) ?_
  refine V_iaddN dL_law_612 ?_
  refine V_sldN rfl dL_law_613 (by omega) hL ?_
  refine V_iv2 dL_law_614 wlL_73 mdX7_piece miX7_piece rfl (h.1.mo.1 0 (0, 7) rfl) rfl rfl (V.mono hV ?_)
  rintro r2 Y2 G2 N2 ⟨rfl, rfl, -, hR⟩
  refine ⟨rfl, ?_⟩
  exact V_icmpeq (tgt := 1415) dL_law_617 (by decide) (fun _ => K _ _ (hR.up (by omega))) (fun c => absurd rfl c)
theorem law_14 {e : Nat} (he : 54 + e ≤ 9999) (h : Rl e Y G N (N 40)) (hi : i + 6 ≤ L) (hL : L ≤ 3072) (K : ∀ G2 N2, Rl (e + 9) Y G2 N2 (N2 40) → V RL false cL_law 4 (some .boolean) (some (L, xs)) 17 b 1415 [some (xR 1000000 0), some (xR 0 0), some (xR 40 0), some (xI (nI i))] [] Y G2 N2 Q) : V RL false cL_law 4 (some .boolean) (some (L, xs)) 17 b 622 [some (xR 1000000 0), some (xR 0 0), some (xR 40 0), some (xI (nI i))] [] Y G N Q := by
  refine V_ald1 dL_law_622 ?_
  refine V_ald0 dL_law_623 ?_
  refine V_ild3 dL_law_624 ?_
  refine V_iconst (v := nI 1) dL_law_625 (by decide) ?_
  refine V_iaddN dL_law_626 ?_
  refine V_sldN rfl dL_law_627 (by omega) hL ?_
  refine V_iv1 dL_law_628 wlL_74 mdX6_stand miX6_stand rfl (h.1.r0.1 0 (0, 6) rfl) rfl rfl ((V.ok (b_stand h)).mono ?_)
  rintro r Y1 G1 N1 ⟨⟨rfl, hV⟩, hok⟩
  obtain ⟨v, rfl⟩ := ok_int hok
  refine ⟨rfl, ?_⟩
  refine V_ald2 dL_law_631 ?_
  refine V_ald0 dL_law_632 ?_
  refine V_ild3 dL_law_633 ?_
  refine V_iconst (v := nI 1) dL_law_634 (by decide) ?_
  refine V_iaddN dL_law_635 ?_
  refine V_sldN rfl dL_law_636 (by omega) hL ?_
  refine V_iv1 dL_law_637 wlL_77 mdX7_stand miX7_stand rfl (h.1.mo.1 0 (0, 7) rfl) rfl rfl (V.mono hV ?_)
  rintro r2 Y2 G2 N2 ⟨rfl, rfl, -, hR⟩
  refine ⟨rfl, ?_⟩
  exact V_icmpeq (tgt := 1415) dL_law_640 (by decide) (fun _ => K _ _ (hR.up (by omega))) (fun c => absurd rfl c)
theorem law_15 {e : Nat} (he : 54 + e ≤ 9999) (h : Rl e Y G N (N 40)) (hi : i + 6 ≤ L) (hL : L ≤ 3072) (K : ∀ G2 N2, Rl (e + 9) Y G2 N2 (N2 40) → V RL false cL_law 4 (some .boolean) (some (L, xs)) 17 b 1415 [some (xR 1000000 0), some (xR 0 0), some (xR 40 0), some (xI (nI i))] [] Y G2 N2 Q) : V RL false cL_law 4 (some .boolean) (some (L, xs)) 17 b 645 [some (xR 1000000 0), some (xR 0 0), some (xR 40 0), some (xI (nI i))] [] Y G N Q := by
  refine V_ald1 dL_law_645 ?_
  refine V_ald0 dL_law_646 ?_
  refine V_ild3 dL_law_647 ?_
  refine V_iconst (v := nI 1) dL_law_648 (by decide) ?_
  refine V_iaddN dL_law_649 ?_
  refine V_sldN rfl dL_law_650 (by omega) hL ?_
  refine V_ald0 dL_law_651 ?_
  refine V_ild3 dL_law_652 ?_
  refine V_iconst (v := nI 2) dL_law_653 (by decide) ?_
  refine V_iaddN dL_law_654 ?_
  refine V_sldN rfl dL_law_655 (by omega) hL ?_
  refine V_iv2 dL_law_656 wlL_78 mdX6_ahead miX6_ahead rfl (h.1.r0.1 0 (0, 6) rfl) rfl rfl ((V.ok (b_ahead h)).mono ?_)
  rintro r Y1 G1 N1 ⟨⟨rfl, hV⟩, hok⟩
  obtain ⟨v, rfl⟩ := ok_int hok
  refine ⟨rfl, ?_⟩
  refine V_ald2 dL_law_659 ?_
  refine V_ald0 dL_law_660 ?_
  refine V_ild3 dL_law_661 ?_
  refine V_iconst (v := nI 1) dL_law_662 (by decide) ?_
  refine V_iaddN dL_law_663 ?_
  refine V_sldN rfl dL_law_664 (by omega) hL ?_
  refine V_ald0 dL_law_665 ?_
  refine V_ild3 dL_law_666 ?_
  refine V_iconst (v := nI 2) dL_law_667 (by decide) ?_
  refine V_iaddN dL_law_668 ?_
  refine V_sldN rfl dL_law_669 (by omega) hL ?_
  refine V_iv2 dL_law_670 wlL_81 mdX7_ahead miX7_ahead rfl (h.1.mo.1 0 (0, 7) rfl) rfl rfl (V.mono hV ?_)
  rintro r2 Y2 G2 N2 ⟨rfl, rfl, -, hR⟩
  refine ⟨rfl, ?_⟩
  exact V_icmpeq (tgt := 1415) dL_law_673 (by decide) (fun _ => K _ _ (hR.up (by omega))) (fun c => absurd rfl c)
theorem law_16 {e : Nat} (he : 54 + e ≤ 9999) (h : Rl e Y G N (N 40)) (hi : i + 6 ≤ L) (hL : L ≤ 3072) (K : ∀ G2 N2, Rl (e + 9) Y G2 N2 (N2 40) → V RL false cL_law 4 (some .boolean) (some (L, xs)) 17 b 1415 [some (xR 1000000 0), some (xR 0 0), some (xR 40 0), some (xI (nI i))] [] Y G2 N2 Q) : V RL false cL_law 4 (some .boolean) (some (L, xs)) 17 b 678 [some (xR 1000000 0), some (xR 0 0), some (xR 40 0), some (xI (nI i))] [] Y G N Q := by
  refine V_ald1 dL_law_678 ?_
  refine V_ald0 dL_law_679 ?_
  refine V_ild3 dL_law_680 ?_
  refine V_iconst (v := nI 1) dL_law_681 (by decide) ?_
  refine V_iaddN dL_law_682 ?_
  refine V_sldN rfl dL_law_683 (by omega) hL ?_
  refine V_ald0 dL_law_684 ?_
  refine V_ild3 dL_law_685 ?_
  refine V_iconst (v := nI 2) dL_law_686 (by decide) ?_
  refine V_iaddN dL_law_687 ?_
  refine V_sldN rfl dL_law_688 (by omega) hL ?_
  refine V_ald0 dL_law_689 ?_
  refine V_ild3 dL_law_690 ?_
  refine V_iconst (v := nI 3) dL_law_691 (by decide) ?_
  refine V_iaddN dL_law_692 ?_
  refine V_sldN rfl dL_law_693 (by omega) hL ?_
  refine V_iv3 dL_law_694 wlL_82 mdX6_stands miX6_stands rfl (h.1.r0.1 0 (0, 6) rfl) rfl rfl ((V.ok (b_stands h)).mono ?_)
  rintro r Y1 G1 N1 ⟨⟨rfl, hV⟩, hok⟩
  obtain ⟨v, rfl⟩ := ok_int hok
  refine ⟨rfl, ?_⟩
  refine V_ald2 dL_law_697 ?_
  refine V_ald0 dL_law_698 ?_
  refine V_ild3 dL_law_699 ?_
  refine V_iconst (v := nI 1) dL_law_700 (by decide) ?_
  refine V_iaddN dL_law_701 ?_
  refine V_sldN rfl dL_law_702 (by omega) hL ?_
  refine V_ald0 dL_law_703 ?_
  refine V_ild3 dL_law_704 ?_
  refine V_iconst (v := nI 2) dL_law_705 (by decide) ?_
  refine V_iaddN dL_law_706 ?_
  refine V_sldN rfl dL_law_707 (by omega) hL ?_
  refine V_ald0 dL_law_708 ?_
  refine V_ild3 dL_law_709 ?_
  refine V_iconst (v := nI 3) dL_law_710 (by decide) ?_
  refine V_iaddN dL_law_711 ?_
  refine V_sldN rfl dL_law_712 (by omega) hL ?_
  refine V_iv3 dL_law_713 wlL_85 mdX7_stands miX7_stands rfl (h.1.mo.1 0 (0, 7) rfl) rfl rfl (V.mono hV ?_)
  rintro r2 Y2 G2 N2 ⟨rfl, rfl, -, hR⟩
  refine ⟨rfl, ?_⟩
  exact V_icmpeq (tgt := 1415) dL_law_716 (by decide) (fun _ => K _ _ (hR.up (by omega))) (fun c => absurd rfl c)
theorem law_17 {e : Nat} (he : 54 + e ≤ 9999) (h : Rl e Y G N (N 40)) (hi : i + 6 ≤ L) (hL : L ≤ 3072) (K : ∀ G2 N2, Rl (e + 9) Y G2 N2 (N2 40) → V RL false cL_law 4 (some .boolean) (some (L, xs)) 17 b 1415 [some (xR 1000000 0), some (xR 0 0), some (xR 40 0), some (xI (nI i))] [] Y G2 N2 Q) : V RL false cL_law 4 (some .boolean) (some (L, xs)) 17 b 721 [some (xR 1000000 0), some (xR 0 0), some (xR 40 0), some (xI (nI i))] [] Y G N Q := by
  refine V_ald1 dL_law_721 ?_
  refine V_ald0 dL_law_722 ?_
  refine V_ild3 dL_law_723 ?_
  refine V_iconst (v := nI 1) dL_law_724 (by decide) ?_
  refine V_iaddN dL_law_725 ?_
  refine V_sldN rfl dL_law_726 (by omega) hL ?_
  refine V_ald0 dL_law_727 ?_
  refine V_ild3 dL_law_728 ?_
  refine V_iconst (v := nI 2) dL_law_729 (by decide) ?_
  refine V_iaddN dL_law_730 ?_
  refine V_sldN rfl dL_law_731 (by omega) hL ?_
  refine V_iv2 dL_law_732 wlL_86 mdX6_trays miX6_trays rfl (h.1.r0.1 0 (0, 6) rfl) rfl rfl ((V.ok (b_trays h)).mono ?_)
  rintro r Y1 G1 N1 ⟨⟨rfl, hV⟩, hok⟩
  obtain ⟨v, rfl⟩ := ok_int hok
  refine ⟨rfl, ?_⟩
  refine V_ald2 dL_law_735 ?_
  refine V_ald0 dL_law_736 ?_
  refine V_ild3 dL_law_737 ?_
  refine V_iconst (v := nI 1) dL_law_738 (by decide) ?_
  refine V_iaddN dL_law_739 ?_
  refine V_sldN rfl dL_law_740 (by omega) hL ?_
  refine V_ald0 dL_law_741 ?_
  refine V_ild3 dL_law_742 ?_
  refine V_iconst (v := nI 2) dL_law_743 (by decide) ?_
  refine V_iaddN dL_law_744 ?_
  refine V_sldN rfl dL_law_745 (by omega) hL ?_
  refine V_iv2 dL_law_746 wlL_89 mdX7_trays miX7_trays rfl (h.1.mo.1 0 (0, 7) rfl) rfl rfl (V.mono hV ?_)
  rintro r2 Y2 G2 N2 ⟨rfl, rfl, -, hR⟩
  refine ⟨rfl, ?_⟩
  exact V_icmpeq (tgt := 1415) dL_law_749 (by decide) (fun _ => K _ _ (hR.up (by omega))) (fun c => absurd rfl c)
theorem law_18 {e : Nat} (he : 54 + e ≤ 9999) (h : Rl e Y G N (N 40)) (hi : i + 6 ≤ L) (hL : L ≤ 3072) (K : ∀ G2 N2, Rl (e + 9) Y G2 N2 (N2 40) → V RL false cL_law 4 (some .boolean) (some (L, xs)) 17 b 1415 [some (xR 1000000 0), some (xR 0 0), some (xR 40 0), some (xI (nI i))] [] Y G2 N2 Q) : V RL false cL_law 4 (some .boolean) (some (L, xs)) 17 b 754 [some (xR 1000000 0), some (xR 0 0), some (xR 40 0), some (xI (nI i))] [] Y G N Q := by
  refine V_ald1 dL_law_754 ?_
  refine V_ald0 dL_law_755 ?_
  refine V_ild3 dL_law_756 ?_
  refine V_iconst (v := nI 1) dL_law_757 (by decide) ?_
  refine V_iaddN dL_law_758 ?_
  refine V_sldN rfl dL_law_759 (by omega) hL ?_
  refine V_iv1 dL_law_760 wlL_90 mdX6_when miX6_when rfl (h.1.r0.1 0 (0, 6) rfl) rfl rfl ((V.ok (b_when h)).mono ?_)
  rintro r Y1 G1 N1 ⟨⟨rfl, hV⟩, hok⟩
  obtain ⟨v, rfl⟩ := ok_int hok
  refine ⟨rfl, ?_⟩
  refine V_ald2 dL_law_763 ?_
  refine V_ald0 dL_law_764 ?_
  refine V_ild3 dL_law_765 ?_
  refine V_iconst (v := nI 1) dL_law_766 (by decide) ?_
  refine V_iaddN dL_law_767 ?_
  refine V_sldN rfl dL_law_768 (by omega) hL ?_
  refine V_iv1 dL_law_769 wlL_93 mdX7_when miX7_when rfl (h.1.mo.1 0 (0, 7) rfl) rfl rfl (V.mono hV ?_)
  rintro r2 Y2 G2 N2 ⟨rfl, rfl, -, hR⟩
  refine ⟨rfl, ?_⟩
  exact V_icmpeq (tgt := 1415) dL_law_772 (by decide) (fun _ => K _ _ (hR.up (by omega))) (fun c => absurd rfl c)
theorem law_19 {e : Nat} (he : 54 + e ≤ 9999) (h : Rl e Y G N (N 40)) (hi : i + 6 ≤ L) (hL : L ≤ 3072) (K : ∀ G2 N2, Rl (e + 9) Y G2 N2 (N2 40) → V RL false cL_law 4 (some .boolean) (some (L, xs)) 17 b 1415 [some (xR 1000000 0), some (xR 0 0), some (xR 40 0), some (xI (nI i))] [] Y G2 N2 Q) : V RL false cL_law 4 (some .boolean) (some (L, xs)) 17 b 777 [some (xR 1000000 0), some (xR 0 0), some (xR 40 0), some (xI (nI i))] [] Y G N Q := by
  refine V_ald1 dL_law_777 ?_
  refine V_iv0 dL_law_778 wlL_94 mdX6_rest miX6_rest rfl (h.1.r0.1 0 (0, 6) rfl) rfl rfl ((V.ok (b_rest h)).mono ?_)
  rintro r Y1 G1 N1 ⟨⟨rfl, hV⟩, hok⟩
  obtain ⟨v, rfl⟩ := ok_int hok
  refine ⟨rfl, ?_⟩
  refine V_ald2 dL_law_781 ?_
  refine V_iv0 dL_law_782 wlL_97 mdX7_rest miX7_rest rfl (h.1.mo.1 0 (0, 7) rfl) rfl rfl (V.mono hV ?_)
  rintro r2 Y2 G2 N2 ⟨rfl, rfl, -, hR⟩
  refine ⟨rfl, ?_⟩
  exact V_icmpeq (tgt := 1415) dL_law_785 (by decide) (fun _ => K _ _ (hR.up (by omega))) (fun c => absurd rfl c)
theorem law_20 {e : Nat} (he : 54 + e ≤ 9999) (h : Rl e Y G N (N 40)) (hi : i + 6 ≤ L) (hL : L ≤ 3072) (K : ∀ G2 N2, Rl (e + 9) Y G2 N2 (N2 40) → V RL false cL_law 4 (some .boolean) (some (L, xs)) 17 b 1415 [some (xR 1000000 0), some (xR 0 0), some (xR 40 0), some (xI (nI i))] [] Y G2 N2 Q) : V RL false cL_law 4 (some .boolean) (some (L, xs)) 17 b 790 [some (xR 1000000 0), some (xR 0 0), some (xR 40 0), some (xI (nI i))] [] Y G N Q := by
  refine V_ald1 dL_law_790 ?_
  refine V_ald0 dL_law_791 ?_
  refine V_ild3 dL_law_792 ?_
  refine V_iconst (v := nI 1) dL_law_793 (by decide) ?_
  refine V_iaddN dL_law_794 ?_
  refine V_sldN rfl dL_law_795 (by omega) hL ?_
  refine V_ald0 dL_law_796 ?_
  refine V_ild3 dL_law_797 ?_
  refine V_iconst (v := nI 2) dL_law_798 (by decide) ?_
  refine V_iaddN dL_law_799 ?_
  refine V_sldN rfl dL_law_800 (by omega) hL ?_
  refine V_iv2 dL_law_801 wlL_98 mdX6_tips miX6_tips rfl (h.1.r0.1 0 (0, 6) rfl) rfl rfl ((V.ok (b_tips h)).mono ?_)
  rintro r Y1 G1 N1 ⟨⟨rfl, hV⟩, hok⟩
  obtain ⟨v, rfl⟩ := ok_int hok
  refine ⟨rfl, ?_⟩
  refine V_ald2 dL_law_804 ?_
  refine V_ald0 dL_law_805 ?_
  refine V_ild3 dL_law_806 ?_
  refine V_iconst (v := nI 1) dL_law_807 (by decide) ?_
  refine V_iaddN dL_law_808 ?_
  refine V_sldN rfl dL_law_809 (by omega) hL ?_
  refine V_ald0 dL_law_810 ?_
  refine V_ild3 dL_law_811 ?_
  refine V_iconst (v := nI 2) dL_law_812 (by decide) ?_
  refine V_iaddN dL_law_813 ?_
  refine V_sldN rfl dL_law_814 (by omega) hL ?_
  refine V_iv2 dL_law_815 wlL_101 mdX7_tips miX7_tips rfl (h.1.mo.1 0 (0, 7) rfl) rfl rfl (V.mono hV ?_)
  rintro r2 Y2 G2 N2 ⟨rfl, rfl, -, hR⟩
  refine ⟨rfl, ?_⟩
  exact V_icmpeq (tgt := 1415) dL_law_818 (by decide) (fun _ => K _ _ (hR.up (by omega))) (fun c => absurd rfl c)
theorem law_21 {e : Nat} (he : 54 + e ≤ 9999) (h : Rl e Y G N (N 40)) (hi : i + 6 ≤ L) (hL : L ≤ 3072) (K : ∀ G2 N2, Rl (e + 9) Y G2 N2 (N2 40) → V RL false cL_law 4 (some .boolean) (some (L, xs)) 17 b 1415 [some (xR 1000000 0), some (xR 0 0), some (xR 40 0), some (xI (nI i))] [] Y G2 N2 Q) : V RL false cL_law 4 (some .boolean) (some (L, xs)) 17 b 823 [some (xR 1000000 0), some (xR 0 0), some (xR 40 0), some (xI (nI i))] [] Y G N Q := by
  refine V_ald1 dL_law_823 ?_
  refine V_ald0 dL_law_824 ?_
  refine V_ild3 dL_law_825 ?_
  refine V_iconst (v := nI 1) dL_law_826 (by decide) ?_
  refine V_iaddN dL_law_827 ?_
  refine V_sldN rfl dL_law_828 (by omega) hL ?_
  refine V_ald0 dL_law_829 ?_
  refine V_ild3 dL_law_830 ?_
  refine V_iconst (v := nI 2) dL_law_831 (by decide) ?_
  refine V_iaddN dL_law_832 ?_
  refine V_sldN rfl dL_law_833 (by omega) hL ?_
  refine V_iv2 dL_law_834 wlL_102 mdX6_order miX6_order rfl (h.1.r0.1 0 (0, 6) rfl) rfl rfl ((V.ok (b_order h he)).mono ?_)
  rintro r Y1 G1 N1 ⟨⟨rfl, hV⟩, hok⟩
  obtain ⟨v, rfl⟩ := ok_int hok
  refine ⟨rfl, ?_⟩
  refine V_ald2 dL_law_837 ?_
  refine V_ald0 dL_law_838 ?_
  refine V_ild3 dL_law_839 ?_
  refine V_iconst (v := nI 1) dL_law_840 (by decide) ?_
  refine V_iaddN dL_law_841 ?_
  refine V_sldN rfl dL_law_842 (by omega) hL ?_
  refine V_ald0 dL_law_843 ?_
  refine V_ild3 dL_law_844 ?_
  refine V_iconst (v := nI 2) dL_law_845 (by decide) ?_
  refine V_iaddN dL_law_846 ?_
  refine V_sldN rfl dL_law_847 (by omega) hL ?_
  refine V_iv2 dL_law_848 wlL_105 mdX7_order miX7_order rfl (h.1.mo.1 0 (0, 7) rfl) rfl rfl (V.mono hV ?_)
  rintro r2 Y2 G2 N2 ⟨rfl, rfl, -, hR⟩
  refine ⟨rfl, ?_⟩
  exact V_icmpeq (tgt := 1415) dL_law_851 (by decide) (fun _ => K _ _ (hR.up (by omega))) (fun c => absurd rfl c)
theorem law_22 {e : Nat} (he : 54 + e ≤ 9999) (h : Rl e Y G N (N 40)) (hi : i + 6 ≤ L) (hL : L ≤ 3072) (K : ∀ G2 N2, Rl (e + 9) Y G2 N2 (N2 40) → V RL false cL_law 4 (some .boolean) (some (L, xs)) 17 b 1415 [some (xR 1000000 0), some (xR 0 0), some (xR 40 0), some (xI (nI i))] [] Y G2 N2 Q) : V RL false cL_law 4 (some .boolean) (some (L, xs)) 17 b 856 [some (xR 1000000 0), some (xR 0 0), some (xR 40 0), some (xI (nI i))] [] Y G N Q := by
  refine V_ald1 dL_law_856 ?_
  refine V_ald0 dL_law_857 ?_
  refine V_ild3 dL_law_858 ?_
  refine V_iconst (v := nI 1) dL_law_859 (by decide) ?_
  refine V_iaddN dL_law_860 ?_
  refine V_sldN rfl dL_law_861 (by omega) hL ?_
  refine V_ald0 dL_law_862 ?_
  refine V_ild3 dL_law_863 ?_
  refine V_iconst (v := nI 2) dL_law_864 (by decide) ?_
  refine V_iaddN dL_law_865 ?_
  refine V_sldN rfl dL_law_866 (by omega) hL ?_
  refine V_ald0 dL_law_867 ?_
  refine V_ild3 dL_law_868 ?_
  refine V_iconst (v := nI 3) dL_law_869 (by decide) ?_
  refine V_iaddN dL_law_870 ?_
  refine V_sldN rfl dL_law_871 (by omega) hL ?_
  refine V_iv3 dL_law_872 wlL_106 mdX6_leads miX6_leads rfl (h.1.r0.1 0 (0, 6) rfl) rfl rfl ((V.ok (b_leads h)).mono ?_)
  rintro r Y1 G1 N1 ⟨⟨rfl, hV⟩, hok⟩
  obtain ⟨v, rfl⟩ := ok_int hok
  refine ⟨rfl, ?_⟩
  refine V_ald2 dL_law_875 ?_
  refine V_ald0 dL_law_876 ?_
  refine V_ild3 dL_law_877 ?_
  refine V_iconst (v := nI 1) dL_law_878 (by decide) ?_
  refine V_iaddN dL_law_879 ?_
  refine V_sldN rfl dL_law_880 (by omega) hL ?_
  refine V_ald0 dL_law_881 ?_
  refine V_ild3 dL_law_882 ?_
  refine V_iconst (v := nI 2) dL_law_883 (by decide) ?_
  refine V_iaddN dL_law_884 ?_
  refine V_sldN rfl dL_law_885 (by omega) hL ?_
  refine V_ald0 dL_law_886 ?_
  refine V_ild3 dL_law_887 ?_
  refine V_iconst (v := nI 3) dL_law_888 (by decide) ?_
  refine V_iaddN dL_law_889 ?_
  refine V_sldN rfl dL_law_890 (by omega) hL ?_
  refine V_iv3 dL_law_891 wlL_109 mdX7_leads miX7_leads rfl (h.1.mo.1 0 (0, 7) rfl) rfl rfl (V.mono hV ?_)
  rintro r2 Y2 G2 N2 ⟨rfl, rfl, -, hR⟩
  refine ⟨rfl, ?_⟩
  exact V_icmpeq (tgt := 1415) dL_law_894 (by decide) (fun _ => K _ _ (hR.up (by omega))) (fun c => absurd rfl c)
theorem law_23 {e : Nat} (he : 54 + e ≤ 9999) (h : Rl e Y G N (N 40)) (hi : i + 6 ≤ L) (hL : L ≤ 3072) (K : ∀ G2 N2, Rl (e + 9) Y G2 N2 (N2 40) → V RL false cL_law 4 (some .boolean) (some (L, xs)) 17 b 1415 [some (xR 1000000 0), some (xR 0 0), some (xR 40 0), some (xI (nI i))] [] Y G2 N2 Q) : V RL false cL_law 4 (some .boolean) (some (L, xs)) 17 b 899 [some (xR 1000000 0), some (xR 0 0), some (xR 40 0), some (xI (nI i))] [] Y G N Q := by
  refine V_ald1 dL_law_899 ?_
  refine V_ald0 dL_law_900 ?_
  refine V_ild3 dL_law_901 ?_
  refine V_iconst (v := nI 1) dL_law_902 (by decide) ?_
  refine V_iaddN dL_law_903 ?_
  refine V_sldN rfl dL_law_904 (by omega) hL ?_
  refine V_ald0 dL_law_905 ?_
  refine V_ild3 dL_law_906 ?_
  refine V_iconst (v := nI 2) dL_law_907 (by decide) ?_
  refine V_iaddN dL_law_908 ?_
  refine V_sldN rfl dL_law_909 (by omega) hL ?_
  refine V_iv2 dL_law_910 wlL_110 mdX6_sets miX6_sets rfl (h.1.r0.1 0 (0, 6) rfl) rfl rfl ((V.ok (b_sets h)).mono ?_)
  rintro r Y1 G1 N1 ⟨⟨rfl, hV⟩, hok⟩
  obtain ⟨v, rfl⟩ := ok_int hok
  refine ⟨rfl, ?_⟩
  refine V_ald2 dL_law_913 ?_
  refine V_ald0 dL_law_914 ?_
  refine V_ild3 dL_law_915 ?_
  refine V_iconst (v := nI 1) dL_law_916 (by decide) ?_
  refine V_iaddN dL_law_917 ?_
  refine V_sldN rfl dL_law_918 (by omega) hL ?_
  refine V_ald0 dL_law_919 ?_
  refine V_ild3 dL_law_920 ?_
  refine V_iconst (v := nI 2) dL_law_921 (by decide) ?_
  refine V_iaddN dL_law_922 ?_
  refine V_sldN rfl dL_law_923 (by omega) hL ?_
  refine V_iv2 dL_law_924 wlL_113 mdX7_sets miX7_sets rfl (h.1.mo.1 0 (0, 7) rfl) rfl rfl (V.mono hV ?_)
  rintro r2 Y2 G2 N2 ⟨rfl, rfl, -, hR⟩
  refine ⟨rfl, ?_⟩
  exact V_icmpeq (tgt := 1415) dL_law_927 (by decide) (fun _ => K _ _ (hR.up (by omega))) (fun c => absurd rfl c)
theorem law_24 {e : Nat} (he : 54 + e ≤ 9999) (h : Rl e Y G N (N 40)) (hi : i + 6 ≤ L) (hL : L ≤ 3072) (K : ∀ G2 N2, Rl (e + 9) Y G2 N2 (N2 40) → V RL false cL_law 4 (some .boolean) (some (L, xs)) 17 b 1415 [some (xR 1000000 0), some (xR 0 0), some (xR 40 0), some (xI (nI i))] [] Y G2 N2 Q) : V RL false cL_law 4 (some .boolean) (some (L, xs)) 17 b 932 [some (xR 1000000 0), some (xR 0 0), some (xR 40 0), some (xI (nI i))] [] Y G N Q := by
  refine V_ald1 dL_law_932 ?_
  refine V_ald0 dL_law_933 ?_
  refine V_ild3 dL_law_934 ?_
  refine V_iconst (v := nI 1) dL_law_935 (by decide) ?_
  refine V_iaddN dL_law_936 ?_
  refine V_sldN rfl dL_law_937 (by omega) hL ?_
  refine V_ald0 dL_law_938 ?_
  refine V_ild3 dL_law_939 ?_
  refine V_iconst (v := nI 2) dL_law_940 (by decide) ?_
  refine V_iaddN dL_law_941 ?_
  refine V_sldN rfl dL_law_942 (by omega) hL ?_
  refine V_iv2 dL_law_943 wlL_114 mdX6_share miX6_share rfl (h.1.r0.1 0 (0, 6) rfl) rfl rfl ((V.ok (b_share h)).mono ?_)
  rintro r Y1 G1 N1 ⟨⟨rfl, hV⟩, hok⟩
  obtain ⟨v, rfl⟩ := ok_int hok
  refine ⟨rfl, ?_⟩
  refine V_ald2 dL_law_946 ?_
  refine V_ald0 dL_law_947 ?_
  refine V_ild3 dL_law_948 ?_
  refine V_iconst (v := nI 1) dL_law_949 (by decide) ?_
  refine V_iaddN dL_law_950 ?_
  refine V_sldN rfl dL_law_951 (by omega) hL ?_
  refine V_ald0 dL_law_952 ?_
  refine V_ild3 dL_law_953 ?_
  refine V_iconst (v := nI 2) dL_law_954 (by decide) ?_
  refine V_iaddN dL_law_955 ?_
  refine V_sldN rfl dL_law_956 (by omega) hL ?_
  refine V_iv2 dL_law_957 wlL_117 mdX7_share miX7_share rfl (h.1.mo.1 0 (0, 7) rfl) rfl rfl (V.mono hV ?_)
  rintro r2 Y2 G2 N2 ⟨rfl, rfl, -, hR⟩
  refine ⟨rfl, ?_⟩
  exact V_icmpeq (tgt := 1415) dL_law_960 (by decide) (fun _ => K _ _ (hR.up (by omega))) (fun c => absurd rfl c)
theorem law_25 {e : Nat} (he : 54 + e ≤ 9999) (h : Rl e Y G N (N 40)) (hi : i + 6 ≤ L) (hL : L ≤ 3072) (K : ∀ G2 N2, Rl (e + 9) Y G2 N2 (N2 40) → V RL false cL_law 4 (some .boolean) (some (L, xs)) 17 b 1415 [some (xR 1000000 0), some (xR 0 0), some (xR 40 0), some (xI (nI i))] [] Y G2 N2 Q) : V RL false cL_law 4 (some .boolean) (some (L, xs)) 17 b 965 [some (xR 1000000 0), some (xR 0 0), some (xR 40 0), some (xI (nI i))] [] Y G N Q := by
  refine V_ald1 dL_law_965 ?_
  refine V_ald0 dL_law_966 ?_
  refine V_ild3 dL_law_967 ?_
  refine V_iconst (v := nI 1) dL_law_968 (by decide) ?_
  refine V_iaddN dL_law_969 ?_
  refine V_sldN rfl dL_law_970 (by omega) hL ?_
  refine V_ald0 dL_law_971 ?_
  refine V_ild3 dL_law_972 ?_
  refine V_iconst (v := nI 2) dL_law_973 (by decide) ?_
  refine V_iaddN dL_law_974 ?_
  refine V_sldN rfl dL_law_975 (by omega) hL ?_
  refine V_iv2 dL_law_976 wlL_118 mdX6_byTurns miX6_byTurns rfl (h.1.r0.1 0 (0, 6) rfl) rfl rfl ((V.ok (b_byTurns h)).mono ?_)
  rintro r Y1 G1 N1 ⟨⟨rfl, hV⟩, hok⟩
  obtain ⟨v, rfl⟩ := ok_int hok
  refine ⟨rfl, ?_⟩
  refine V_ald2 dL_law_979 ?_
  refine V_ald0 dL_law_980 ?_
  refine V_ild3 dL_law_981 ?_
  refine V_iconst (v := nI 1) dL_law_982 (by decide) ?_
  refine V_iaddN dL_law_983 ?_
  refine V_sldN rfl dL_law_984 (by omega) hL ?_
  refine V_ald0 dL_law_985 ?_
  refine V_ild3 dL_law_986 ?_
  refine V_iconst (v := nI 2) dL_law_987 (by decide) ?_
  refine V_iaddN dL_law_988 ?_
  refine V_sldN rfl dL_law_989 (by omega) hL ?_
  refine V_iv2 dL_law_990 wlL_121 mdX7_byTurns miX7_byTurns rfl (h.1.mo.1 0 (0, 7) rfl) rfl rfl (V.mono hV ?_)
  rintro r2 Y2 G2 N2 ⟨rfl, rfl, -, hR⟩
  refine ⟨rfl, ?_⟩
  exact V_icmpeq (tgt := 1415) dL_law_993 (by decide) (fun _ => K _ _ (hR.up (by omega))) (fun c => absurd rfl c)
theorem law_26 {e : Nat} (he : 54 + e ≤ 9999) (h : Rl e Y G N (N 40)) (hi : i + 6 ≤ L) (hL : L ≤ 3072) (K : ∀ G2 N2, Rl (e + 9) Y G2 N2 (N2 40) → V RL false cL_law 4 (some .boolean) (some (L, xs)) 17 b 1415 [some (xR 1000000 0), some (xR 0 0), some (xR 40 0), some (xI (nI i))] [] Y G2 N2 Q) : V RL false cL_law 4 (some .boolean) (some (L, xs)) 17 b 998 [some (xR 1000000 0), some (xR 0 0), some (xR 40 0), some (xI (nI i))] [] Y G N Q := by
  refine V_ald1 dL_law_998 ?_
  refine V_ald0 dL_law_999 ?_
  refine V_ild3 dL_law_1000 ?_
  refine V_iconst (v := nI 1) dL_law_1001 (by decide) ?_
  refine V_iaddN dL_law_1002 ?_
  refine V_sldN rfl dL_law_1003 (by omega) hL ?_
  refine V_ald0 dL_law_1004 ?_
  refine V_ild3 dL_law_1005 ?_
  refine V_iconst (v := nI 2) dL_law_1006 (by decide) ?_
  refine V_iaddN dL_law_1007 ?_
  refine V_sldN rfl dL_law_1008 (by omega) hL ?_
  refine V_ald0 dL_law_1009 ?_
  refine V_ild3 dL_law_1010 ?_
  refine V_iconst (v := nI 3) dL_law_1011 (by decide) ?_
  refine V_iaddN dL_law_1012 ?_
  refine V_sldN rfl dL_law_1013 (by omega) hL ?_
  refine V_ald0 dL_law_1014 ?_
  refine V_ild3 dL_law_1015 ?_
  refine V_iconst (v := nI 4) dL_law_1016 (by decide) ?_
  refine V_iaddN dL_law_1017 ?_
  refine V_sldN rfl dL_law_1018 (by omega) hL ?_
  refine V_ald0 dL_law_1019 ?_
  refine V_ild3 dL_law_1020 ?_
  refine V_iconst (v := nI 5) dL_law_1021 (by decide) ?_
  refine V_iaddN dL_law_1022 ?_
  refine V_sldN rfl dL_law_1023 (by omega) hL ?_
  refine V_iv5 dL_law_1024 wlL_122 mdX6_who miX6_who rfl (h.1.r0.1 0 (0, 6) rfl) rfl rfl ((V.ok (b_who h)).mono ?_)
  rintro r Y1 G1 N1 ⟨⟨rfl, hV⟩, hok⟩
  obtain ⟨v, rfl⟩ := ok_int hok
  refine ⟨rfl, ?_⟩
  refine V_ald2 dL_law_1027 ?_
  refine V_ald0 dL_law_1028 ?_
  refine V_ild3 dL_law_1029 ?_
  refine V_iconst (v := nI 1) dL_law_1030 (by decide) ?_
  refine V_iaddN dL_law_1031 ?_
  refine V_sldN rfl dL_law_1032 (by omega) hL ?_
  refine V_ald0 dL_law_1033 ?_
  refine V_ild3 dL_law_1034 ?_
  refine V_iconst (v := nI 2) dL_law_1035 (by decide) ?_
  refine V_iaddN dL_law_1036 ?_
  refine V_sldN rfl dL_law_1037 (by omega) hL ?_
  refine V_ald0 dL_law_1038 ?_
  refine V_ild3 dL_law_1039 ?_
  refine V_iconst (v := nI 3) dL_law_1040 (by decide) ?_
  refine V_iaddN dL_law_1041 ?_
  refine V_sldN rfl dL_law_1042 (by omega) hL ?_
  refine V_ald0 dL_law_1043 ?_
  refine V_ild3 dL_law_1044 ?_
  refine V_iconst (v := nI 4) dL_law_1045 (by decide) ?_
  refine V_iaddN dL_law_1046 ?_
  refine V_sldN rfl dL_law_1047 (by omega) hL ?_
  refine V_ald0 dL_law_1048 ?_
  refine V_ild3 dL_law_1049 ?_
  refine V_iconst (v := nI 5) dL_law_1050 (by decide) ?_
  refine V_iaddN dL_law_1051 ?_
  refine V_sldN rfl dL_law_1052 (by omega) hL ?_
  refine V_iv5 dL_law_1053 wlL_125 mdX7_who miX7_who rfl (h.1.mo.1 0 (0, 7) rfl) rfl rfl (V.mono hV ?_)
  rintro r2 Y2 G2 N2 ⟨rfl, rfl, -, hR⟩
  refine ⟨rfl, ?_⟩
  exact V_icmpeq (tgt := 1415) dL_law_1056 (by decide) (fun _ => K _ _ (hR.up (by omega))) (fun c => absurd rfl c)
theorem law_27 {e : Nat} (he : 54 + e ≤ 9999) (h : Rl e Y G N (N 40)) (hi : i + 6 ≤ L) (hL : L ≤ 3072) (K : ∀ G2 N2, Rl (e + 9) Y G2 N2 (N2 40) → V RL false cL_law 4 (some .boolean) (some (L, xs)) 17 b 1415 [some (xR 1000000 0), some (xR 0 0), some (xR 40 0), some (xI (nI i))] [] Y G2 N2 Q) : V RL false cL_law 4 (some .boolean) (some (L, xs)) 17 b 1061 [some (xR 1000000 0), some (xR 0 0), some (xR 40 0), some (xI (nI i))] [] Y G N Q := by
  refine V_ald1 dL_law_1061 ?_
  refine V_ald0 dL_law_1062 ?_
  refine V_ild3 dL_law_1063 ?_
  refine V_iconst (v := nI 1) dL_law_1064 (by decide) ?_
  refine V_iaddN dL_law_1065 ?_
  refine V_sldN rfl dL_law_1066 (by omega) hL ?_
  refine V_ald0 dL_law_1067 ?_
  refine V_ild3 dL_law_1068 ?_
  refine V_iconst (v := nI 2) dL_law_1069 (by decide) ?_
  refine V_iaddN dL_law_1070 ?_
  refine V_sldN rfl dL_law_1071 (by omega) hL ?_
  refine V_ald0 dL_law_1072 ?_
  refine V_ild3 dL_law_1073 ?_
  refine V_iconst (v := nI 3) dL_law_1074 (by decide) ?_
  refine V_iaddN dL_law_1075 ?_
  refine V_sldN rfl dL_law_1076 (by omega) hL ?_
  refine V_ald0 dL_law_1077 ?_
  refine V_ild3 dL_law_1078 ?_
  refine V_iconst (v := nI 4) dL_law_1079 (by decide) ?_
  refine V_iaddN dL_law_1080 ?_
  refine V_sldN rfl dL_law_1081 (by omega) hL ?_
  refine V_ald0 dL_law_1082 ?_
  refine V_ild3 dL_law_1083 ?_
  refine V_iconst (v := nI 5) dL_law_1084 (by decide) ?_
  refine V_iaddN dL_law_1085 ?_
  refine V_sldN rfl dL_law_1086 (by omega) hL ?_
  refine V_iv5 dL_law_1087 wlL_126 mdX6_weights miX6_weights rfl (h.1.r0.1 0 (0, 6) rfl) rfl rfl ((V.ok (b_weights h)).mono ?_)
  rintro r Y1 G1 N1 ⟨⟨rfl, hV⟩, hok⟩
  obtain ⟨v, rfl⟩ := ok_int hok
  refine ⟨rfl, ?_⟩
  refine V_ald2 dL_law_1090 ?_
  refine V_ald0 dL_law_1091 ?_
  refine V_ild3 dL_law_1092 ?_
  refine V_iconst (v := nI 1) dL_law_1093 (by decide) ?_
  refine V_iaddN dL_law_1094 ?_
  refine V_sldN rfl dL_law_1095 (by omega) hL ?_
  refine V_ald0 dL_law_1096 ?_
  refine V_ild3 dL_law_1097 ?_
  refine V_iconst (v := nI 2) dL_law_1098 (by decide) ?_
  refine V_iaddN dL_law_1099 ?_
  refine V_sldN rfl dL_law_1100 (by omega) hL ?_
  refine V_ald0 dL_law_1101 ?_
  refine V_ild3 dL_law_1102 ?_
  refine V_iconst (v := nI 3) dL_law_1103 (by decide) ?_
  refine V_iaddN dL_law_1104 ?_
  refine V_sldN rfl dL_law_1105 (by omega) hL ?_
  refine V_ald0 dL_law_1106 ?_
  refine V_ild3 dL_law_1107 ?_
  refine V_iconst (v := nI 4) dL_law_1108 (by decide) ?_
  refine V_iaddN dL_law_1109 ?_
  refine V_sldN rfl dL_law_1110 (by omega) hL ?_
  refine V_ald0 dL_law_1111 ?_
  refine V_ild3 dL_law_1112 ?_
  refine V_iconst (v := nI 5) dL_law_1113 (by decide) ?_
  refine V_iaddN dL_law_1114 ?_
  refine V_sldN rfl dL_law_1115 (by omega) hL ?_
  refine V_iv5 dL_law_1116 wlL_129 mdX7_weights miX7_weights rfl (h.1.mo.1 0 (0, 7) rfl) rfl rfl (V.mono hV ?_)
  rintro r2 Y2 G2 N2 ⟨rfl, rfl, -, hR⟩
  refine ⟨rfl, ?_⟩
  exact V_icmpeq (tgt := 1415) dL_law_1119 (by decide) (fun _ => K _ _ (hR.up (by omega))) (fun c => absurd rfl c)
theorem law_28 {e : Nat} (he : 54 + e ≤ 9999) (h : Rl e Y G N (N 40)) (hi : i + 6 ≤ L) (hL : L ≤ 3072) (K : ∀ G2 N2, Rl (e + 9) Y G2 N2 (N2 40) → V RL false cL_law 4 (some .boolean) (some (L, xs)) 17 b 1415 [some (xR 1000000 0), some (xR 0 0), some (xR 40 0), some (xI (nI i))] [] Y G2 N2 Q) : V RL false cL_law 4 (some .boolean) (some (L, xs)) 17 b 1124 [some (xR 1000000 0), some (xR 0 0), some (xR 40 0), some (xI (nI i))] [] Y G N Q := by
  refine V_ald1 dL_law_1124 ?_
  refine V_ald0 dL_law_1125 ?_
  refine V_ild3 dL_law_1126 ?_
  refine V_iconst (v := nI 1) dL_law_1127 (by decide) ?_
  refine V_iaddN dL_law_1128 ?_
  refine V_sldN rfl dL_law_1129 (by omega) hL ?_
  refine V_ald0 dL_law_1130 ?_
  refine V_ild3 dL_law_1131 ?_
  refine V_iconst (v := nI 2) dL_law_1132 (by decide) ?_
  refine V_iaddN dL_law_1133 ?_
  refine V_sldN rfl dL_law_1134 (by omega) hL ?_
  refine V_ald0 dL_law_1135 ?_
  refine V_ild3 dL_law_1136 ?_
  refine V_iconst (v := nI 3) dL_law_1137 (by decide) ?_
  refine V_iaddN dL_law_1138 ?_
  refine V_sldN rfl dL_law_1139 (by omega) hL ?_
  refine V_ald0 dL_law_1140 ?_
  refine V_ild3 dL_law_1141 ?_
  refine V_iconst (v := nI 4) dL_law_1142 (by decide) ?_
  refine V_iaddN dL_law_1143 ?_
  refine V_sldN rfl dL_law_1144 (by omega) hL ?_
  refine V_iv4 dL_law_1145 wlL_130 mdX6_jam miX6_jam rfl (h.1.r0.1 0 (0, 6) rfl) rfl rfl ((b_jam h).mono ?_)
  rintro r Y1 G1 N1 ⟨rfl, v, rfl, hV⟩
  refine ⟨rfl, ?_⟩
  refine V_ald2 dL_law_1148 ?_
  refine V_ald0 dL_law_1149 ?_
  refine V_ild3 dL_law_1150 ?_
  refine V_iconst (v := nI 1) dL_law_1151 (by decide) ?_
  refine V_iaddN dL_law_1152 ?_
  refine V_sldN rfl dL_law_1153 (by omega) hL ?_
  refine V_ald0 dL_law_1154 ?_
  refine V_ild3 dL_law_1155 ?_
  refine V_iconst (v := nI 2) dL_law_1156 (by decide) ?_
  refine V_iaddN dL_law_1157 ?_
  refine V_sldN rfl dL_law_1158 (by omega) hL ?_
  refine V_ald0 dL_law_1159 ?_
  refine V_ild3 dL_law_1160 ?_
  refine V_iconst (v := nI 3) dL_law_1161 (by decide) ?_
  refine V_iaddN dL_law_1162 ?_
  refine V_sldN rfl dL_law_1163 (by omega) hL ?_
  refine V_ald0 dL_law_1164 ?_
  refine V_ild3 dL_law_1165 ?_
  refine V_iconst (v := nI 4) dL_law_1166 (by decide) ?_
  refine V_iaddN dL_law_1167 ?_
  refine V_sldN rfl dL_law_1168 (by omega) hL ?_
  refine V_iv4 dL_law_1169 wlL_134 mdX7_jam miX7_jam rfl (h.1.mo.1 0 (0, 7) rfl) rfl rfl (V.mono hV ?_)
  rintro r2 Y2 G2 N2 ⟨rfl, rfl, hR⟩
  refine ⟨rfl, ?_⟩
  refine V_lcmp dL_law_1172 ?_
  refine V_ifeq (tgt := 1415) dL_law_1173 (by decide) (fun _ => K _ _ (hR.up (by omega))) (fun c => absurd ?_ c)
  unfold lg_cmp
  rw [if_neg (Int64.lt_irrefl), if_pos rfl]
theorem law_29 {e : Nat} (he : 54 + e ≤ 9999) (h : Rl e Y G N (N 40)) (hi : i + 6 ≤ L) (hL : L ≤ 3072) (K : ∀ G2 N2, Rl (e + 9) Y G2 N2 (N2 40) → V RL false cL_law 4 (some .boolean) (some (L, xs)) 17 b 1415 [some (xR 1000000 0), some (xR 0 0), some (xR 40 0), some (xI (nI i))] [] Y G2 N2 Q) : V RL false cL_law 4 (some .boolean) (some (L, xs)) 17 b 1178 [some (xR 1000000 0), some (xR 0 0), some (xR 40 0), some (xI (nI i))] [] Y G N Q := by
  refine V_ald1 dL_law_1178 ?_
  refine V_ald0 dL_law_1179 ?_
  refine V_ild3 dL_law_1180 ?_
  refine V_iconst (v := nI 1) dL_law_1181 (by decide) ?_
  refine V_iaddN dL_law_1182 ?_
  refine V_sldN rfl dL_law_1183 (by omega) hL ?_
  refine V_ald0 dL_law_1184 ?_
  refine V_ild3 dL_law_1185 ?_
  refine V_iconst (v := nI 2) dL_law_1186 (by decide) ?_
  refine V_iaddN dL_law_1187 ?_
  refine V_sldN rfl dL_law_1188 (by omega) hL ?_
  refine V_ald0 dL_law_1189 ?_
  refine V_ild3 dL_law_1190 ?_
  refine V_iconst (v := nI 3) dL_law_1191 (by decide) ?_
  refine V_iaddN dL_law_1192 ?_
  refine V_sldN rfl dL_law_1193 (by omega) hL ?_
  refine V_iv3 dL_law_1194 wlL_135 mdX6_drawn miX6_drawn rfl (h.1.r0.1 0 (0, 6) rfl) rfl rfl ((V.ok (b_drawn h)).mono ?_)
  rintro r Y1 G1 N1 ⟨⟨rfl, hV⟩, hok⟩
  obtain ⟨v, rfl⟩ := ok_int hok
  refine ⟨rfl, ?_⟩
  refine V_ald2 dL_law_1197 ?_
  refine V_ald0 dL_law_1198 ?_
  refine V_ild3 dL_law_1199 ?_
  refine V_iconst (v := nI 1) dL_law_1200 (by decide) ?_
  refine V_iaddN dL_law_1201 ?_
  refine V_sldN rfl dL_law_1202 (by omega) hL ?_
  refine V_ald0 dL_law_1203 ?_
  refine V_ild3 dL_law_1204 ?_
  refine V_iconst (v := nI 2) dL_law_1205 (by decide) ?_
  refine V_iaddN dL_law_1206 ?_
  refine V_sldN rfl dL_law_1207 (by omega) hL ?_
  refine V_ald0 dL_law_1208 ?_
  refine V_ild3 dL_law_1209 ?_
  refine V_iconst (v := nI 3) dL_law_1210 (by decide) ?_
  refine V_iaddN dL_law_1211 ?_
  refine V_sldN rfl dL_law_1212 (by omega) hL ?_
  refine V_iv3 dL_law_1213 wlL_138 mdX7_drawn miX7_drawn rfl (h.1.mo.1 0 (0, 7) rfl) rfl rfl (V.mono hV ?_)
  rintro r2 Y2 G2 N2 ⟨rfl, rfl, -, hR⟩
  refine ⟨rfl, ?_⟩
  exact V_icmpeq (tgt := 1415) dL_law_1216 (by decide) (fun _ => K _ _ (hR.up (by omega))) (fun c => absurd rfl c)
theorem law_30 {e : Nat} (he : 54 + e ≤ 9999) (h : Rl e Y G N (N 40)) (hi : i + 6 ≤ L) (hL : L ≤ 3072) (K : ∀ G2 N2, Rl (e + 9) Y G2 N2 (N2 40) → V RL false cL_law 4 (some .boolean) (some (L, xs)) 17 b 1415 [some (xR 1000000 0), some (xR 0 0), some (xR 40 0), some (xI (nI i))] [] Y G2 N2 Q) : V RL false cL_law 4 (some .boolean) (some (L, xs)) 17 b 1221 [some (xR 1000000 0), some (xR 0 0), some (xR 40 0), some (xI (nI i))] [] Y G N Q := by
  refine V_ald1 dL_law_1221 ?_
  refine V_ald0 dL_law_1222 ?_
  refine V_ild3 dL_law_1223 ?_
  refine V_iconst (v := nI 1) dL_law_1224 (by decide) ?_
  refine V_iaddN dL_law_1225 ?_
  refine V_sldN rfl dL_law_1226 (by omega) hL ?_
  refine V_iv1 dL_law_1227 wlL_139 mdX6_image miX6_image rfl (h.1.r0.1 0 (0, 6) rfl) rfl rfl ((V.ok (b_image h)).mono ?_)
  rintro r Y1 G1 N1 ⟨⟨rfl, hV⟩, hok⟩
  obtain ⟨v, rfl⟩ := ok_int hok
  refine ⟨rfl, ?_⟩
  refine V_ald2 dL_law_1230 ?_
  refine V_ald0 dL_law_1231 ?_
  refine V_ild3 dL_law_1232 ?_
  refine V_iconst (v := nI 1) dL_law_1233 (by decide) ?_
  refine V_iaddN dL_law_1234 ?_
  refine V_sldN rfl dL_law_1235 (by omega) hL ?_
  refine V_iv1 dL_law_1236 wlL_142 mdX7_image miX7_image rfl (h.1.mo.1 0 (0, 7) rfl) rfl rfl (V.mono hV ?_)
  rintro r2 Y2 G2 N2 ⟨rfl, rfl, -, hR⟩
  refine ⟨rfl, ?_⟩
  exact V_icmpeq (tgt := 1415) dL_law_1239 (by decide) (fun _ => K _ _ (hR.up (by omega))) (fun c => absurd rfl c)
theorem law_31 {e : Nat} (he : 54 + e ≤ 9999) (h : Rl e Y G N (N 40)) (hi : i + 6 ≤ L) (hL : L ≤ 3072) (K : ∀ G2 N2, Rl (e + 9) Y G2 N2 (N2 40) → V RL false cL_law 4 (some .boolean) (some (L, xs)) 17 b 1415 [some (xR 1000000 0), some (xR 0 0), some (xR 40 0), some (xI (nI i))] [] Y G2 N2 Q) : V RL false cL_law 4 (some .boolean) (some (L, xs)) 17 b 1244 [some (xR 1000000 0), some (xR 0 0), some (xR 40 0), some (xI (nI i))] [] Y G N Q := by
  refine V_ald1 dL_law_1244 ?_
  refine V_ald0 dL_law_1245 ?_
  refine V_ild3 dL_law_1246 ?_
  refine V_iconst (v := nI 1) dL_law_1247 (by decide) ?_
  refine V_iaddN dL_law_1248 ?_
  refine V_sldN rfl dL_law_1249 (by omega) hL ?_
  refine V_iv1 dL_law_1250 wlL_143 mdX6_restore miX6_restore rfl (h.1.r0.1 0 (0, 6) rfl) rfl rfl ((V.ok (b_restore h)).mono ?_)
  rintro r Y1 G1 N1 ⟨⟨rfl, hV⟩, hok⟩
  obtain ⟨v, rfl⟩ := ok_int hok
  refine ⟨rfl, ?_⟩
  refine V_ald2 dL_law_1253 ?_
  refine V_ald0 dL_law_1254 ?_
  refine V_ild3 dL_law_1255 ?_
  refine V_iconst (v := nI 1) dL_law_1256 (by decide) ?_
  refine V_iaddN dL_law_1257 ?_
  refine V_sldN rfl dL_law_1258 (by omega) hL ?_
  refine V_iv1 dL_law_1259 wlL_146 mdX7_restore miX7_restore rfl (h.1.mo.1 0 (0, 7) rfl) rfl rfl (V.mono hV ?_)
  rintro r2 Y2 G2 N2 ⟨rfl, rfl, -, hR⟩
  refine ⟨rfl, ?_⟩
  exact V_icmpeq (tgt := 1415) dL_law_1262 (by decide) (fun _ => K _ _ (hR.up (by omega))) (fun c => absurd rfl c)
theorem law_32 {e : Nat} (he : 54 + e ≤ 9999) (h : Rl e Y G N (N 40)) (hi : i + 6 ≤ L) (hL : L ≤ 3072) (K : ∀ G2 N2, Rl (e + 9) Y G2 N2 (N2 40) → V RL false cL_law 4 (some .boolean) (some (L, xs)) 17 b 1415 [some (xR 1000000 0), some (xR 0 0), some (xR 40 0), some (xI (nI i))] [] Y G2 N2 Q) : V RL false cL_law 4 (some .boolean) (some (L, xs)) 17 b 1267 [some (xR 1000000 0), some (xR 0 0), some (xR 40 0), some (xI (nI i))] [] Y G N Q := by
  refine V_ald1 dL_law_1267 ?_
  refine V_ald0 dL_law_1268 ?_
  refine V_ild3 dL_law_1269 ?_
  refine V_iconst (v := nI 1) dL_law_1270 (by decide) ?_
  refine V_iaddN dL_law_1271 ?_
  refine V_sldN rfl dL_law_1272 (by omega) hL ?_
  refine V_iv1 dL_law_1273 wlL_147 mdX6_kind miX6_kind rfl (h.1.r0.1 0 (0, 6) rfl) rfl rfl ((V.ok (b_kind h)).mono ?_)
  rintro r Y1 G1 N1 ⟨⟨rfl, hV⟩, hok⟩
  obtain ⟨v, rfl⟩ := ok_int hok
  refine ⟨rfl, ?_⟩
  refine V_ald2 dL_law_1276 ?_
  refine V_ald0 dL_law_1277 ?_
  refine V_ild3 dL_law_1278 ?_
  refine V_iconst (v := nI 1) dL_law_1279 (by decide) ?_
  refine V_iaddN dL_law_1280 ?_
  refine V_sldN rfl dL_law_1281 (by omega) hL ?_
  refine V_iv1 dL_law_1282 wlL_150 mdX7_kind miX7_kind rfl (h.1.mo.1 0 (0, 7) rfl) rfl rfl (V.mono hV ?_)
  rintro r2 Y2 G2 N2 ⟨rfl, rfl, -, hR⟩
  refine ⟨rfl, ?_⟩
  exact V_icmpeq (tgt := 1415) dL_law_1285 (by decide) (fun _ => K _ _ (hR.up (by omega))) (fun c => absurd rfl c)
theorem law_33 {e : Nat} (he : 54 + e ≤ 9999) (h : Rl e Y G N (N 40)) (hi : i + 6 ≤ L) (hL : L ≤ 3072) (K : ∀ G2 N2, Rl (e + 9) Y G2 N2 (N2 40) → V RL false cL_law 4 (some .boolean) (some (L, xs)) 17 b 1415 [some (xR 1000000 0), some (xR 0 0), some (xR 40 0), some (xI (nI i))] [] Y G2 N2 Q) : V RL false cL_law 4 (some .boolean) (some (L, xs)) 17 b 1290 [some (xR 1000000 0), some (xR 0 0), some (xR 40 0), some (xI (nI i))] [] Y G N Q := by
  refine V_ald1 dL_law_1290 ?_
  refine V_ald0 dL_law_1291 ?_
  refine V_ild3 dL_law_1292 ?_
  refine V_iconst (v := nI 1) dL_law_1293 (by decide) ?_
  refine V_iaddN dL_law_1294 ?_
  refine V_sldN rfl dL_law_1295 (by omega) hL ?_
  refine V_ald0 dL_law_1296 ?_
  refine V_ild3 dL_law_1297 ?_
  refine V_iconst (v := nI 2) dL_law_1298 (by decide) ?_
  refine V_iaddN dL_law_1299 ?_
  refine V_sldN rfl dL_law_1300 (by omega) hL ?_
  refine V_iv2 dL_law_1301 wlL_151 mdX6_as miX6_as rfl (h.1.r0.1 0 (0, 6) rfl) rfl rfl ((V.ok (b_as h)).mono ?_)
  rintro r Y1 G1 N1 ⟨⟨rfl, hV⟩, hok⟩
  obtain ⟨v, rfl⟩ := ok_int hok
  refine ⟨rfl, ?_⟩
  refine V_ald2 dL_law_1304 ?_
  refine V_ald0 dL_law_1305 ?_
  refine V_ild3 dL_law_1306 ?_
  refine V_iconst (v := nI 1) dL_law_1307 (by decide) ?_
  refine V_iaddN dL_law_1308 ?_
  refine V_sldN rfl dL_law_1309 (by omega) hL ?_
  refine V_ald0 dL_law_1310 ?_
  refine V_ild3 dL_law_1311 ?_
  refine V_iconst (v := nI 2) dL_law_1312 (by decide) ?_
  refine V_iaddN dL_law_1313 ?_
  refine V_sldN rfl dL_law_1314 (by omega) hL ?_
  refine V_iv2 dL_law_1315 wlL_154 mdX7_as miX7_as rfl (h.1.mo.1 0 (0, 7) rfl) rfl rfl (V.mono hV ?_)
  rintro r2 Y2 G2 N2 ⟨rfl, rfl, -, hR⟩
  refine ⟨rfl, ?_⟩
  exact V_icmpeq (tgt := 1415) dL_law_1318 (by decide) (fun _ => K _ _ (hR.up (by omega))) (fun c => absurd rfl c)
theorem law_34 {e : Nat} (he : 54 + e ≤ 9999) (h : Rl e Y G N (N 40)) (hi : i + 6 ≤ L) (hL : L ≤ 3072) (K : ∀ G2 N2, Rl (e + 9) Y G2 N2 (N2 40) → V RL false cL_law 4 (some .boolean) (some (L, xs)) 17 b 1415 [some (xR 1000000 0), some (xR 0 0), some (xR 40 0), some (xI (nI i))] [] Y G2 N2 Q) : V RL false cL_law 4 (some .boolean) (some (L, xs)) 17 b 1323 [some (xR 1000000 0), some (xR 0 0), some (xR 40 0), some (xI (nI i))] [] Y G N Q := by
  refine V_ald1 dL_law_1323 ?_
  refine V_ald0 dL_law_1324 ?_
  refine V_ild3 dL_law_1325 ?_
  refine V_iconst (v := nI 1) dL_law_1326 (by decide) ?_
  refine V_iaddN dL_law_1327 ?_
  refine V_sldN rfl dL_law_1328 (by omega) hL ?_
  refine V_ald0 dL_law_1329 ?_
  refine V_ild3 dL_law_1330 ?_
  refine V_iconst (v := nI 2) dL_law_1331 (by decide) ?_
  refine V_iaddN dL_law_1332 ?_
  refine V_sldN rfl dL_law_1333 (by omega) hL ?_
  refine V_iv2 dL_law_1334 wlL_155 mdX6_ask miX6_ask rfl (h.1.r0.1 0 (0, 6) rfl) rfl rfl ((V.ok (b_ask h)).mono ?_)
  rintro r Y1 G1 N1 ⟨⟨rfl, hV⟩, hok⟩
  obtain ⟨v, rfl⟩ := ok_int hok
  refine ⟨rfl, ?_⟩
  refine V_ald2 dL_law_1337 ?_
  refine V_ald0 dL_law_1338 ?_
  refine V_ild3 dL_law_1339 ?_
  refine V_iconst (v := nI 1) dL_law_1340 (by decide) ?_
  refine V_iaddN dL_law_1341 ?_
  refine V_sldN rfl dL_law_1342 (by omega) hL ?_
  refine V_ald0 dL_law_1343 ?_
  refine V_ild3 dL_law_1344 ?_
  refine V_iconst (v := nI 2) dL_law_1345 (by decide) ?_
  refine V_iaddN dL_law_1346 ?_
  refine V_sldN rfl dL_law_1347 (by omega) hL ?_
  refine V_iv2 dL_law_1348 wlL_158 mdX7_ask miX7_ask rfl (h.1.mo.1 0 (0, 7) rfl) rfl rfl (V.mono hV ?_)
  rintro r2 Y2 G2 N2 ⟨rfl, rfl, -, hR⟩
  refine ⟨rfl, ?_⟩
  exact V_icmpeq (tgt := 1415) dL_law_1351 (by decide) (fun _ => K _ _ (hR.up (by omega))) (fun c => absurd rfl c)
theorem law_35 {e : Nat} (he : 54 + e ≤ 9999) (h : Rl e Y G N (N 40)) (hi : i + 6 ≤ L) (hL : L ≤ 3072) (K : ∀ G2 N2, Rl (e + 9) Y G2 N2 (N2 40) → V RL false cL_law 4 (some .boolean) (some (L, xs)) 17 b 1415 [some (xR 1000000 0), some (xR 0 0), some (xR 40 0), some (xI (nI i))] [] Y G2 N2 Q) : V RL false cL_law 4 (some .boolean) (some (L, xs)) 17 b 1356 [some (xR 1000000 0), some (xR 0 0), some (xR 40 0), some (xI (nI i))] [] Y G N Q := by
  refine V_ald1 dL_law_1356 ?_
  refine V_ald0 dL_law_1357 ?_
  refine V_ild3 dL_law_1358 ?_
  refine V_iconst (v := nI 1) dL_law_1359 (by decide) ?_
  refine V_iaddN dL_law_1360 ?_
  refine V_sldN rfl dL_law_1361 (by omega) hL ?_
  refine V_iv1 dL_law_1362 wlL_159 mdX6_trace miX6_trace rfl (h.1.r0.1 0 (0, 6) rfl) rfl rfl ((V.ok (b_trace h)).mono ?_)
  rintro r Y1 G1 N1 ⟨⟨rfl, hV⟩, hok⟩
  obtain ⟨v, rfl⟩ := ok_int hok
  refine ⟨rfl, ?_⟩
  refine V_ald2 dL_law_1365 ?_
  refine V_ald0 dL_law_1366 ?_
  refine V_ild3 dL_law_1367 ?_
  refine V_iconst (v := nI 1) dL_law_1368 (by decide) ?_
  refine V_iaddN dL_law_1369 ?_
  refine V_sldN rfl dL_law_1370 (by omega) hL ?_
  refine V_iv1 dL_law_1371 wlL_162 mdX7_trace miX7_trace rfl (h.1.mo.1 0 (0, 7) rfl) rfl rfl (V.mono hV ?_)
  rintro r2 Y2 G2 N2 ⟨rfl, rfl, -, hR⟩
  refine ⟨rfl, ?_⟩
  exact V_icmpeq (tgt := 1415) dL_law_1374 (by decide) (fun _ => K _ _ (hR.up (by omega))) (fun c => absurd rfl c)
theorem law_36 {e : Nat} (he : 54 + e ≤ 9999) (h : Rl e Y G N (N 40)) (hi : i + 6 ≤ L) (hL : L ≤ 3072) (K : ∀ G2 N2, Rl (e + 9) Y G2 N2 (N2 40) → V RL false cL_law 4 (some .boolean) (some (L, xs)) 17 b 1415 [some (xR 1000000 0), some (xR 0 0), some (xR 40 0), some (xI (nI i))] [] Y G2 N2 Q) : V RL false cL_law 4 (some .boolean) (some (L, xs)) 17 b 1379 [some (xR 1000000 0), some (xR 0 0), some (xR 40 0), some (xI (nI i))] [] Y G N Q := by
  refine V_ald1 dL_law_1379 ?_
  refine V_ald0 dL_law_1380 ?_
  refine V_ild3 dL_law_1381 ?_
  refine V_iconst (v := nI 1) dL_law_1382 (by decide) ?_
  refine V_iaddN dL_law_1383 ?_
  refine V_sldN rfl dL_law_1384 (by omega) hL ?_
  refine V_iv1 dL_law_1385 wlL_163 mdX6_count miX6_count rfl (h.1.r0.1 0 (0, 6) rfl) rfl rfl ((V.ok (b_count h)).mono ?_)
  rintro r Y1 G1 N1 ⟨⟨rfl, hV⟩, hok⟩
  obtain ⟨v, rfl⟩ := ok_int hok
  refine ⟨rfl, ?_⟩
  refine V_ald2 dL_law_1388 ?_
  refine V_ald0 dL_law_1389 ?_
  refine V_ild3 dL_law_1390 ?_
  refine V_iconst (v := nI 1) dL_law_1391 (by decide) ?_
  refine V_iaddN dL_law_1392 ?_
  refine V_sldN rfl dL_law_1393 (by omega) hL ?_
  refine V_iv1 dL_law_1394 wlL_166 mdX7_count miX7_count rfl (h.1.mo.1 0 (0, 7) rfl) rfl rfl (V.mono hV ?_)
  rintro r2 Y2 G2 N2 ⟨rfl, rfl, -, hR⟩
  refine ⟨rfl, ?_⟩
  exact V_icmpeq (tgt := 1415) dL_law_1397 (by decide) (fun _ => K _ _ (hR.up (by omega))) (fun c => absurd rfl c)
theorem law_37 {e : Nat} (he : 54 + e ≤ 9999) (h : Rl e Y G N (N 40)) (hi : i + 6 ≤ L) (hL : L ≤ 3072) (K : ∀ G2 N2, Rl (e + 9) Y G2 N2 (N2 40) → V RL false cL_law 4 (some .boolean) (some (L, xs)) 17 b 1415 [some (xR 1000000 0), some (xR 0 0), some (xR 40 0), some (xI (nI i))] [] Y G2 N2 Q) : V RL false cL_law 4 (some .boolean) (some (L, xs)) 17 b 1402 [some (xR 1000000 0), some (xR 0 0), some (xR 40 0), some (xI (nI i))] [] Y G N Q := by
  refine V_ald1 dL_law_1402 ?_
  refine V_iv0 dL_law_1403 wlL_167 mdX6_status miX6_status rfl (h.1.r0.1 0 (0, 6) rfl) rfl rfl ((V.ok (b_status h)).mono ?_)
  rintro r Y1 G1 N1 ⟨⟨rfl, hV⟩, hok⟩
  obtain ⟨v, rfl⟩ := ok_int hok
  refine ⟨rfl, ?_⟩
  refine V_ald2 dL_law_1406 ?_
  refine V_iv0 dL_law_1407 wlL_170 mdX7_status miX7_status rfl (h.1.mo.1 0 (0, 7) rfl) rfl rfl (V.mono hV ?_)
  rintro r2 Y2 G2 N2 ⟨rfl, rfl, -, hR⟩
  refine ⟨rfl, ?_⟩
  exact V_icmpeq (tgt := 1415) dL_law_1410 (by decide) (fun _ => K _ _ (hR.up (by omega))) (fun c => absurd rfl c)
theorem gt6 {L i : Nat} (hL : L ≤ 3072) (hi : i ≤ 4000) (h : ¬ nI L - nI 6 < nI i) : i + 6 ≤ L := by
  rw [Int32.not_lt, Int32.le_iff_toInt_le, Int32.toInt_sub, nI_toInt (by omega), nI_toInt (by omega), nI_toInt (by omega), Int.bmod_def] at h
  omega
theorem law_loop (hL : L ≤ 3072) (hQ : ∀ G2 N2, Q (some (xI 1)) Y G2 N2) : ∀ (f i : Nat) (G : xG) (N : xM), i + f = L + 6 → i ≤ L + 5 → Rl (2 * i) Y G N (N 40) → V RL false cL_law 4 (some .boolean) (some (L, xs)) 17 b 18 [some (xR 1000000 0), some (xR 0 0), some (xR 40 0), some (xI (nI i))] [] Y G N Q := by
  intro f
  induction f using Nat.strongRecOn with
  | ind f ih =>
    intro i G N hf hi h
    refine V_ild3 dL_law_18 ?_
    refine V_ald0 dL_law_19 ?_
    refine V_slen rfl dL_law_20 ?_
    refine V_bipush (v := nI 6) dL_law_21 (by decide) ?_
    refine V_isub dL_law_23 ?_
    refine V_icmpgt (tgt := 1421) dL_law_24 (by decide) (fun _ => ?_) (fun c => ?_)
    · refine V_iconst (v := 1) dL_law_1421 (by decide) ?_
      exact V_ireturn dL_law_1422 ⟨_, rfl, xbool (Or.inr rfl)⟩ (hQ _ _)
    · have hi6 : i + 6 ≤ L := gt6 hL (by omega) c
      have K : ∀ G2 N2, Rl (2 * i + 9) Y G2 N2 (N2 40) → V RL false cL_law 4 (some .boolean) (some (L, xs)) 17 b 1415 [some (xR 1000000 0), some (xR 0 0), some (xR 40 0), some (xI (nI i))] [] Y G2 N2 Q := by
        intro G2 N2 h2
        refine V_inc3 dL_law_1415 (v := nI (i + 6)) (by rw [← nI_add]; rfl) rfl ?_
        refine V_goto (tgt := 18) dL_law_1418 (by decide) ?_
        exact ih (f - 6) (by omega) (i + 6) G2 N2 (by omega) (by omega) (h2.up (by omega))
      refine V_ald0 dL_law_27 ?_
      refine V_ild3 dL_law_28 ?_
      refine V_sldN rfl dL_law_29 (by omega) hL ?_
      refine V_bipush (v := nI 63) dL_law_30 (by decide) ?_
      refine V_iand dL_law_32 ?_
      exact V_tsw38 (lo := 0) (t0 := 200) (t1 := 243) (t2 := 286) (t3 := 349) (t4 := 372) (t5 := 395) (t6 := 408) (t7 := 421) (t8 := 434) (t9 := 457) (t10 := 480) (t11 := 523) (t12 := 556) (t13 := 589) (t14 := 622) (t15 := 645) (t16 := 678) (t17 := 721) (t18 := 754) (t19 := 777) (t20 := 790) (t21 := 823) (t22 := 856) (t23 := 899) (t24 := 932) (t25 := 965) (t26 := 998) (t27 := 1061) (t28 := 1124) (t29 := 1178) (t30 := 1221) (t31 := 1244) (t32 := 1267) (t33 := 1290) (t34 := 1323) (t35 := 1356) (t36 := 1379) (t37 := 1402) (td := 1415) dL_law_33 (by decide) (by decide) (by decide) (by decide) (by decide) (by decide) (by decide) (by decide) (by decide) (by decide) (by decide) (by decide) (by decide) (by decide) (by decide) (by decide) (by decide) (by decide) (by decide) (by decide) (by decide) (by decide) (by decide) (by decide) (by decide) (by decide) (by decide) (by decide) (by decide) (by decide) (by decide) (by decide) (by decide) (by decide) (by decide) (by decide) (by decide) (by decide) (by decide) (fun _ => law_0 (by omega) h hi6 hL K) (fun _ => law_1 (by omega) h hi6 hL K) (fun _ => law_2 (by omega) h hi6 hL K) (fun _ => law_3 (by omega) h hi6 hL K) (fun _ => law_4 (by omega) h hi6 hL K) (fun _ => law_5 (by omega) h hi6 hL K) (fun _ => law_6 (by omega) h hi6 hL K) (fun _ => law_7 (by omega) h hi6 hL K) (fun _ => law_8 (by omega) h hi6 hL K) (fun _ => law_9 (by omega) h hi6 hL K) (fun _ => law_10 (by omega) h hi6 hL K) (fun _ => law_11 (by omega) h hi6 hL K) (fun _ => law_12 (by omega) h hi6 hL K) (fun _ => law_13 (by omega) h hi6 hL K) (fun _ => law_14 (by omega) h hi6 hL K) (fun _ => law_15 (by omega) h hi6 hL K) (fun _ => law_16 (by omega) h hi6 hL K) (fun _ => law_17 (by omega) h hi6 hL K) (fun _ => law_18 (by omega) h hi6 hL K) (fun _ => law_19 (by omega) h hi6 hL K) (fun _ => law_20 (by omega) h hi6 hL K) (fun _ => law_21 (by omega) h hi6 hL K) (fun _ => law_22 (by omega) h hi6 hL K) (fun _ => law_23 (by omega) h hi6 hL K) (fun _ => law_24 (by omega) h hi6 hL K) (fun _ => law_25 (by omega) h hi6 hL K) (fun _ => law_26 (by omega) h hi6 hL K) (fun _ => law_27 (by omega) h hi6 hL K) (fun _ => law_28 (by omega) h hi6 hL K) (fun _ => law_29 (by omega) h hi6 hL K) (fun _ => law_30 (by omega) h hi6 hL K) (fun _ => law_31 (by omega) h hi6 hL K) (fun _ => law_32 (by omega) h hi6 hL K) (fun _ => law_33 (by omega) h hi6 hL K) (fun _ => law_34 (by omega) h hi6 hL K) (fun _ => law_35 (by omega) h hi6 hL K) (fun _ => law_36 (by omega) h hi6 hL K) (fun _ => law_37 (by omega) h hi6 hL K) (fun _ _ _ _ _ _ _ _ _ _ _ _ _ _ _ _ _ _ _ _ _ _ _ _ _ _ _ _ _ _ _ _ _ _ _ _ _ _ => K _ _ (h.up (by omega)))
end LC
