section VCALL3
variable {E : VE} {X : VX} {own mn : String} {cc : ByteArray} {nL : Nat} {ret : Option FieldType} {d mc ms : Nat} {Q : State → Prop} {σ : Sg} {nc ns pc : Nat} {ls : List (Option Value)} {st : List Value} {idx : Nat}
variable {y : MethodName} {cy : ByteArray} {nLy : Nat} {rety : Option FieldType} {dy my py : Nat} {argv rest : List Value} {post : Option Value → Sg → Prop}
theorem V.cq3s {v1 v2 v3 : Value} {w : Value} {pv : Sg → Prop} (hE : eF E = true) (hd : decode cc pc = .ok (.invokevirtual idx, 3)) (hw : clV own idx y cy nLy rety 3) (hcls : RX11 = y.cls) (hM : MA E y cy nLy rety dy my py [.ref (eQ E 48), v1, v2, v3] σ (fun r s => r = some w ∧ pv s)) (hdd : dy < d) (hn : nLy ≤ 80) (hm : nc + my ≤ mc) (hs : ns + py ≤ ms) (hr : (rest.map fun v => v.category).sum ≤ 8) (kk : ∀ s, pv s → V E X own mn cc nL ret d mc ms Q s (nc + my) (ns + py) (pc + 3) ls (w :: rest)) : V E X own mn cc nL ret d mc ms Q σ nc ns pc ls (v3 :: v2 :: v1 :: .ref (eQ E 48) :: rest) := V.callV0 (argv := [v1, v2, v3]) (rest := rest) (recQ hE hcls) hd hw hM rfl hdd hn hm hs hr (fun r s h => by obtain ⟨rfl, h⟩ := h; exact kk s h)
end VCALL3
/-! ===== the law: a case for each call ===== -/
section LAW2
variable {E : VE} {X : VX} {mn : String} {Q : State → Prop} {σ : Sg} {nc ns : Nat} {b L x n : Nat} {xs : Nat → Int32} {P : PT} {G : GS}
/-- what holds ahead of each call: class and model alike -/
def LZ (x : Nat) (P : PT) (G : GS) (σ : Sg) : Prop := Inv G ∧ Rp σ x P G ∧ sG σ = G
theorem LZ.go {σ : Sg} {R : Int32 × GS} {s : Sg} {P : PT} (hI : Inv R.2) (hs : Rp s x P R.2) : LZ x P R.2 (wG s R.2) := ⟨hI, hs.wG _, rfl⟩
set_option maxRecDepth 100000 in
theorem L_ship (hE : eF E = true) (hX : va_X b L xs (xS X) (eH E)) (hb : b < (eH E).size) (hL : L ≤ 2048) (hn : n + 4 ≤ L) (hZ : LZ x P G σ) (hc : nc + 8 ≤ 600000) (hs : ns + 64 ≤ 7302250)
    (kk : ∀ σ2 P2 G2, LZ x P2 G2 σ2 → V E X RL mn cL_law 4 ret 30 600000 7302250 Q σ2 (nc + 8) (ns + 64) 1142 [some (.ref b), some (.ref x), some (.ref (eQ E 48)), some (.int (nI n))] []) : V E X RL mn cL_law 4 ret 30 600000 7302250 Q σ nc ns 176 [some (.ref b), some (.ref x), some (.ref (eQ E 48)), some (.int (nI n))] [] := by
  obtain ⟨hI, hR, hg⟩ := hZ
  refine V.aload_n (i := 1) dL_law_176 rfl rfl ?_
  refine V.sarg (n := n) (c := 1) (k1 := 182) hX hb hL rfl rfl dL_law_177 dL_law_178 dL_law_179 rfl dL_law_180 dL_law_181 (by omega) rfl ?_
  refine V.sarg (n := n) (c := 2) (k1 := 187) hX hb hL rfl rfl dL_law_182 dL_law_183 dL_law_184 rfl dL_law_185 dL_law_186 (by omega) rfl ?_
  refine V.sarg (n := n) (c := 3) (k1 := 192) hX hb hL rfl rfl dL_law_187 dL_law_188 dL_law_189 rfl dL_law_190 dL_law_191 (by omega) rfl ?_
  refine V.cv3s (ci := 10) dL_law_192 lk_L_13 (by decide) rfl hR.1.1 (k_ship hR hI (xs (n + 1)) (xs (n + 2)) (xs (n + 3)) (fun s q h1 h2 => ⟨rfl, (⟨q, h1, h2⟩ : ∃ q, Rp s x q (s_ship G (xs (n + 1)) (xs (n + 2)) (xs (n + 3))).2 ∧ sG s = sG σ)⟩)) (by decide) (by decide) (by omega) (by omega) (by decide) (fun s hs2 => ?_)
  obtain ⟨q, h1, h2⟩ := hs2
  refine V.sts (σ' := wG s G) (by rw [← hg, ← h2]; rfl) ?_
  refine V.aload_n (i := 2) dL_law_195 rfl rfl ?_
  refine V.sarg (n := n) (c := 1) (k1 := 201) hX hb hL rfl rfl dL_law_196 dL_law_197 dL_law_198 rfl dL_law_199 dL_law_200 (by omega) rfl ?_
  refine V.sarg (n := n) (c := 2) (k1 := 206) hX hb hL rfl rfl dL_law_201 dL_law_202 dL_law_203 rfl dL_law_204 dL_law_205 (by omega) rfl ?_
  refine V.sarg (n := n) (c := 3) (k1 := 211) hX hb hL rfl rfl dL_law_206 dL_law_207 dL_law_208 rfl dL_law_209 dL_law_210 (by omega) rfl ?_
  refine V.cq3D hE dL_law_211 lk_L_17 rfl (c_ship hE (xs (n + 1)) (xs (n + 2)) (xs (n + 3)) hI ⟨rfl, rfl⟩) (by decide) (by decide) (by omega) (by omega) (Nat.le_of_ble_eq_true rfl) ?_
  refine V.icmp_eqT dL_law_214 rfl rfl ?_
  exact V.widen (by omega) (by omega) (kk _ q _ ⟨inv_ship hI (xs (n + 1)) (xs (n + 2)) (xs (n + 3)), h1.wG _, rfl⟩)
set_option maxRecDepth 100000 in
theorem L_as (hE : eF E = true) (hX : va_X b L xs (xS X) (eH E)) (hb : b < (eH E).size) (hL : L ≤ 2048) (hn : n + 4 ≤ L) (hZ : LZ x P G σ) (hc : nc + 8 ≤ 600000) (hs : ns + 64 ≤ 7302250)
    (kk : ∀ σ2 P2 G2, LZ x P2 G2 σ2 → V E X RL mn cL_law 4 ret 30 600000 7302250 Q σ2 (nc + 8) (ns + 64) 1142 [some (.ref b), some (.ref x), some (.ref (eQ E 48)), some (.int (nI n))] []) : V E X RL mn cL_law 4 ret 30 600000 7302250 Q σ nc ns 219 [some (.ref b), some (.ref x), some (.ref (eQ E 48)), some (.int (nI n))] [] := by
  obtain ⟨hI, hR, hg⟩ := hZ
  refine V.aload_n (i := 1) dL_law_219 rfl rfl ?_
  refine V.sarg (n := n) (c := 1) (k1 := 225) hX hb hL rfl rfl dL_law_220 dL_law_221 dL_law_222 rfl dL_law_223 dL_law_224 (by omega) rfl ?_
  refine V.sarg (n := n) (c := 2) (k1 := 230) hX hb hL rfl rfl dL_law_225 dL_law_226 dL_law_227 rfl dL_law_228 dL_law_229 (by omega) rfl ?_
  refine V.cv2s (ci := 10) dL_law_230 lk_L_18 (by decide) rfl hR.1.1 (k_as hR hI (xs (n + 1)) (xs (n + 2)) (fun s q h1 h2 => ⟨rfl, (⟨q, h1, h2⟩ : ∃ q, Rp s x q (s_as G (xs (n + 1)) (xs (n + 2))).2 ∧ sG s = sG σ)⟩)) (by decide) (by decide) (by omega) (by omega) (by decide) (fun s hs2 => ?_)
  obtain ⟨q, h1, h2⟩ := hs2
  refine V.sts (σ' := wG s G) (by rw [← hg, ← h2]; rfl) ?_
  refine V.aload_n (i := 2) dL_law_233 rfl rfl ?_
  refine V.sarg (n := n) (c := 1) (k1 := 239) hX hb hL rfl rfl dL_law_234 dL_law_235 dL_law_236 rfl dL_law_237 dL_law_238 (by omega) rfl ?_
  refine V.sarg (n := n) (c := 2) (k1 := 244) hX hb hL rfl rfl dL_law_239 dL_law_240 dL_law_241 rfl dL_law_242 dL_law_243 (by omega) rfl ?_
  refine V.cq2D hE dL_law_244 lk_L_22 rfl (c_as hE (xs (n + 1)) (xs (n + 2)) hI ⟨rfl, rfl⟩) (by decide) (by decide) (by omega) (by omega) (Nat.le_of_ble_eq_true rfl) ?_
  refine V.icmp_eqT dL_law_247 rfl rfl ?_
  exact V.widen (by omega) (by omega) (kk _ q _ ⟨inv_as hI (xs (n + 1)) (xs (n + 2)), h1.wG _, rfl⟩)
set_option maxRecDepth 100000 in
theorem L_change (hE : eF E = true) (hX : va_X b L xs (xS X) (eH E)) (hb : b < (eH E).size) (hL : L ≤ 2048) (hn : n + 4 ≤ L) (hZ : LZ x P G σ) (hc : nc + 8 ≤ 600000) (hs : ns + 64 ≤ 7302250)
    (kk : ∀ σ2 P2 G2, LZ x P2 G2 σ2 → V E X RL mn cL_law 4 ret 30 600000 7302250 Q σ2 (nc + 8) (ns + 64) 1142 [some (.ref b), some (.ref x), some (.ref (eQ E 48)), some (.int (nI n))] []) : V E X RL mn cL_law 4 ret 30 600000 7302250 Q σ nc ns 252 [some (.ref b), some (.ref x), some (.ref (eQ E 48)), some (.int (nI n))] [] := by
  obtain ⟨hI, hR, hg⟩ := hZ
  refine V.aload_n (i := 1) dL_law_252 rfl rfl ?_
  refine V.sarg (n := n) (c := 1) (k1 := 258) hX hb hL rfl rfl dL_law_253 dL_law_254 dL_law_255 rfl dL_law_256 dL_law_257 (by omega) rfl ?_
  refine V.sarg (n := n) (c := 2) (k1 := 263) hX hb hL rfl rfl dL_law_258 dL_law_259 dL_law_260 rfl dL_law_261 dL_law_262 (by omega) rfl ?_
  refine V.sarg (n := n) (c := 3) (k1 := 268) hX hb hL rfl rfl dL_law_263 dL_law_264 dL_law_265 rfl dL_law_266 dL_law_267 (by omega) rfl ?_
  refine V.cv3s (ci := 10) dL_law_268 lk_L_23 (by decide) rfl hR.1.1 (k_change hR hI (xs (n + 1)) (xs (n + 2)) (xs (n + 3)) (fun s q h1 h2 => ⟨rfl, (⟨q, h1, h2⟩ : ∃ q, Rp s x q (s_change G (xs (n + 1)) (xs (n + 2)) (xs (n + 3))).2 ∧ sG s = sG σ)⟩)) (by decide) (by decide) (by omega) (by omega) (by decide) (fun s hs2 => ?_)
  obtain ⟨q, h1, h2⟩ := hs2
  refine V.sts (σ' := wG s G) (by rw [← hg, ← h2]; rfl) ?_
  refine V.aload_n (i := 2) dL_law_271 rfl rfl ?_
  refine V.sarg (n := n) (c := 1) (k1 := 277) hX hb hL rfl rfl dL_law_272 dL_law_273 dL_law_274 rfl dL_law_275 dL_law_276 (by omega) rfl ?_
  refine V.sarg (n := n) (c := 2) (k1 := 282) hX hb hL rfl rfl dL_law_277 dL_law_278 dL_law_279 rfl dL_law_280 dL_law_281 (by omega) rfl ?_
  refine V.sarg (n := n) (c := 3) (k1 := 287) hX hb hL rfl rfl dL_law_282 dL_law_283 dL_law_284 rfl dL_law_285 dL_law_286 (by omega) rfl ?_
  refine V.cq3D hE dL_law_287 lk_L_26 rfl (c_change hE (xs (n + 1)) (xs (n + 2)) (xs (n + 3)) hI ⟨rfl, rfl⟩) (by decide) (by decide) (by omega) (by omega) (Nat.le_of_ble_eq_true rfl) ?_
  refine V.icmp_eqT dL_law_290 rfl rfl ?_
  exact V.widen (by omega) (by omega) (kk _ q _ ⟨inv_change hI (xs (n + 1)) (xs (n + 2)) (xs (n + 3)), h1.wG _, rfl⟩)
set_option maxRecDepth 100000 in
theorem L_has (hE : eF E = true) (hX : va_X b L xs (xS X) (eH E)) (hb : b < (eH E).size) (hL : L ≤ 2048) (hn : n + 4 ≤ L) (hZ : LZ x P G σ) (hc : nc + 8 ≤ 600000) (hs : ns + 64 ≤ 7302250)
    (kk : ∀ σ2 P2 G2, LZ x P2 G2 σ2 → V E X RL mn cL_law 4 ret 30 600000 7302250 Q σ2 (nc + 8) (ns + 64) 1142 [some (.ref b), some (.ref x), some (.ref (eQ E 48)), some (.int (nI n))] []) : V E X RL mn cL_law 4 ret 30 600000 7302250 Q σ nc ns 295 [some (.ref b), some (.ref x), some (.ref (eQ E 48)), some (.int (nI n))] [] := by
  obtain ⟨hI, hR, hg⟩ := hZ
  refine V.aload_n (i := 1) dL_law_295 rfl rfl ?_
  refine V.sarg (n := n) (c := 1) (k1 := 301) hX hb hL rfl rfl dL_law_296 dL_law_297 dL_law_298 rfl dL_law_299 dL_law_300 (by omega) rfl ?_
  refine V.sarg (n := n) (c := 2) (k1 := 306) hX hb hL rfl rfl dL_law_301 dL_law_302 dL_law_303 rfl dL_law_304 dL_law_305 (by omega) rfl ?_
  refine V.sarg (n := n) (c := 3) (k1 := 311) hX hb hL rfl rfl dL_law_306 dL_law_307 dL_law_308 rfl dL_law_309 dL_law_310 (by omega) rfl ?_
  refine V.cv3s (ci := 10) dL_law_311 lk_L_27 (by decide) rfl hR.1.1 (k_has hR hI (xs (n + 1)) (xs (n + 2)) (xs (n + 3)) (fun s q h1 h2 => ⟨rfl, (⟨q, h1, h2⟩ : ∃ q, Rp s x q (s_has G (xs (n + 1)) (xs (n + 2)) (xs (n + 3))).2 ∧ sG s = sG σ)⟩)) (by decide) (by decide) (by omega) (by omega) (by decide) (fun s hs2 => ?_)
  obtain ⟨q, h1, h2⟩ := hs2
  refine V.sts (σ' := wG s G) (by rw [← hg, ← h2]; rfl) ?_
  refine V.aload_n (i := 2) dL_law_314 rfl rfl ?_
  refine V.sarg (n := n) (c := 1) (k1 := 320) hX hb hL rfl rfl dL_law_315 dL_law_316 dL_law_317 rfl dL_law_318 dL_law_319 (by omega) rfl ?_
  refine V.sarg (n := n) (c := 2) (k1 := 325) hX hb hL rfl rfl dL_law_320 dL_law_321 dL_law_322 rfl dL_law_323 dL_law_324 (by omega) rfl ?_
  refine V.sarg (n := n) (c := 3) (k1 := 330) hX hb hL rfl rfl dL_law_325 dL_law_326 dL_law_327 rfl dL_law_328 dL_law_329 (by omega) rfl ?_
  refine V.cq3D hE dL_law_330 lk_L_30 rfl (c_has hE (xs (n + 1)) (xs (n + 2)) (xs (n + 3)) hI ⟨rfl, rfl⟩) (by decide) (by decide) (by omega) (by omega) (Nat.le_of_ble_eq_true rfl) ?_
  refine V.icmp_eqT dL_law_333 rfl rfl ?_
  exact V.widen (by omega) (by omega) (kk _ q _ ⟨inv_has hI (xs (n + 1)) (xs (n + 2)) (xs (n + 3)), h1.wG _, rfl⟩)
set_option maxRecDepth 100000 in
theorem L_named (hE : eF E = true) (hX : va_X b L xs (xS X) (eH E)) (hb : b < (eH E).size) (hL : L ≤ 2048) (hn : n + 4 ≤ L) (hZ : LZ x P G σ) (hc : nc + 8 ≤ 600000) (hs : ns + 64 ≤ 7302250)
    (kk : ∀ σ2 P2 G2, LZ x P2 G2 σ2 → V E X RL mn cL_law 4 ret 30 600000 7302250 Q σ2 (nc + 8) (ns + 64) 1142 [some (.ref b), some (.ref x), some (.ref (eQ E 48)), some (.int (nI n))] []) : V E X RL mn cL_law 4 ret 30 600000 7302250 Q σ nc ns 338 [some (.ref b), some (.ref x), some (.ref (eQ E 48)), some (.int (nI n))] [] := by
  obtain ⟨hI, hR, hg⟩ := hZ
  refine V.aload_n (i := 1) dL_law_338 rfl rfl ?_
  refine V.sarg (n := n) (c := 1) (k1 := 344) hX hb hL rfl rfl dL_law_339 dL_law_340 dL_law_341 rfl dL_law_342 dL_law_343 (by omega) rfl ?_
  refine V.sarg (n := n) (c := 2) (k1 := 349) hX hb hL rfl rfl dL_law_344 dL_law_345 dL_law_346 rfl dL_law_347 dL_law_348 (by omega) rfl ?_
  refine V.cv2s (ci := 10) dL_law_349 lk_L_31 (by decide) rfl hR.1.1 (k_named hR hI (xs (n + 1)) (xs (n + 2)) (fun s q h1 h2 => ⟨rfl, (⟨q, h1, h2⟩ : ∃ q, Rp s x q (s_named G (xs (n + 1)) (xs (n + 2))).2 ∧ sG s = sG σ)⟩)) (by decide) (by decide) (by omega) (by omega) (by decide) (fun s hs2 => ?_)
  obtain ⟨q, h1, h2⟩ := hs2
  refine V.sts (σ' := wG s G) (by rw [← hg, ← h2]; rfl) ?_
  refine V.aload_n (i := 2) dL_law_352 rfl rfl ?_
  refine V.sarg (n := n) (c := 1) (k1 := 358) hX hb hL rfl rfl dL_law_353 dL_law_354 dL_law_355 rfl dL_law_356 dL_law_357 (by omega) rfl ?_
  refine V.sarg (n := n) (c := 2) (k1 := 363) hX hb hL rfl rfl dL_law_358 dL_law_359 dL_law_360 rfl dL_law_361 dL_law_362 (by omega) rfl ?_
  refine V.cq2D hE dL_law_363 lk_L_34 rfl (c_named hE (xs (n + 1)) (xs (n + 2)) hI ⟨rfl, rfl⟩) (by decide) (by decide) (by omega) (by omega) (Nat.le_of_ble_eq_true rfl) ?_
  refine V.icmp_eqT dL_law_366 rfl rfl ?_
  exact V.widen (by omega) (by omega) (kk _ q _ ⟨inv_named hI (xs (n + 1)) (xs (n + 2)), h1.wG _, rfl⟩)
set_option maxRecDepth 100000 in
theorem L_one (hE : eF E = true) (hX : va_X b L xs (xS X) (eH E)) (hb : b < (eH E).size) (hL : L ≤ 2048) (hn : n + 4 ≤ L) (hZ : LZ x P G σ) (hc : nc + 8 ≤ 600000) (hs : ns + 64 ≤ 7302250)
    (kk : ∀ σ2 P2 G2, LZ x P2 G2 σ2 → V E X RL mn cL_law 4 ret 30 600000 7302250 Q σ2 (nc + 8) (ns + 64) 1142 [some (.ref b), some (.ref x), some (.ref (eQ E 48)), some (.int (nI n))] []) : V E X RL mn cL_law 4 ret 30 600000 7302250 Q σ nc ns 371 [some (.ref b), some (.ref x), some (.ref (eQ E 48)), some (.int (nI n))] [] := by
  obtain ⟨hI, hR, hg⟩ := hZ
  refine V.aload_n (i := 1) dL_law_371 rfl rfl ?_
  refine V.sarg (n := n) (c := 1) (k1 := 377) hX hb hL rfl rfl dL_law_372 dL_law_373 dL_law_374 rfl dL_law_375 dL_law_376 (by omega) rfl ?_
  refine V.sarg (n := n) (c := 2) (k1 := 382) hX hb hL rfl rfl dL_law_377 dL_law_378 dL_law_379 rfl dL_law_380 dL_law_381 (by omega) rfl ?_
  refine V.cv2s (ci := 10) dL_law_382 lk_L_35 (by decide) rfl hR.1.1 (k_one hR hI (xs (n + 1)) (xs (n + 2)) (fun s q h1 h2 => ⟨rfl, (⟨q, h1, h2⟩ : ∃ q, Rp s x q (s_one G (xs (n + 1)) (xs (n + 2))).2 ∧ sG s = sG σ)⟩)) (by decide) (by decide) (by omega) (by omega) (by decide) (fun s hs2 => ?_)
  obtain ⟨q, h1, h2⟩ := hs2
  refine V.sts (σ' := wG s G) (by rw [← hg, ← h2]; rfl) ?_
  refine V.aload_n (i := 2) dL_law_385 rfl rfl ?_
  refine V.sarg (n := n) (c := 1) (k1 := 391) hX hb hL rfl rfl dL_law_386 dL_law_387 dL_law_388 rfl dL_law_389 dL_law_390 (by omega) rfl ?_
  refine V.sarg (n := n) (c := 2) (k1 := 396) hX hb hL rfl rfl dL_law_391 dL_law_392 dL_law_393 rfl dL_law_394 dL_law_395 (by omega) rfl ?_
  refine V.cq2D hE dL_law_396 lk_L_38 rfl (c_one hE (xs (n + 1)) (xs (n + 2)) hI ⟨rfl, rfl⟩) (by decide) (by decide) (by omega) (by omega) (Nat.le_of_ble_eq_true rfl) ?_
  refine V.icmp_eqT dL_law_399 rfl rfl ?_
  exact V.widen (by omega) (by omega) (kk _ q _ ⟨inv_one hI (xs (n + 1)) (xs (n + 2)), h1.wG _, rfl⟩)
set_option maxRecDepth 100000 in
theorem L_fleet (hE : eF E = true) (hX : va_X b L xs (xS X) (eH E)) (hb : b < (eH E).size) (hL : L ≤ 2048) (hn : n + 4 ≤ L) (hZ : LZ x P G σ) (hc : nc + 8 ≤ 600000) (hs : ns + 64 ≤ 7302250)
    (kk : ∀ σ2 P2 G2, LZ x P2 G2 σ2 → V E X RL mn cL_law 4 ret 30 600000 7302250 Q σ2 (nc + 8) (ns + 64) 1142 [some (.ref b), some (.ref x), some (.ref (eQ E 48)), some (.int (nI n))] []) : V E X RL mn cL_law 4 ret 30 600000 7302250 Q σ nc ns 404 [some (.ref b), some (.ref x), some (.ref (eQ E 48)), some (.int (nI n))] [] := by
  obtain ⟨hI, hR, hg⟩ := hZ
  refine V.aload_n (i := 1) dL_law_404 rfl rfl ?_
  refine V.sarg (n := n) (c := 1) (k1 := 410) hX hb hL rfl rfl dL_law_405 dL_law_406 dL_law_407 rfl dL_law_408 dL_law_409 (by omega) rfl ?_
  refine V.sarg (n := n) (c := 2) (k1 := 415) hX hb hL rfl rfl dL_law_410 dL_law_411 dL_law_412 rfl dL_law_413 dL_law_414 (by omega) rfl ?_
  refine V.cv2s (ci := 10) dL_law_415 lk_L_39 (by decide) rfl hR.1.1 (k_fleet hR hI (xs (n + 1)) (xs (n + 2)) (fun s q h1 h2 => ⟨rfl, (⟨q, h1, h2⟩ : ∃ q, Rp s x q (s_fleet G (xs (n + 1)) (xs (n + 2))).2 ∧ sG s = sG σ)⟩)) (by decide) (by decide) (by omega) (by omega) (by decide) (fun s hs2 => ?_)
  obtain ⟨q, h1, h2⟩ := hs2
  refine V.sts (σ' := wG s G) (by rw [← hg, ← h2]; rfl) ?_
  refine V.aload_n (i := 2) dL_law_418 rfl rfl ?_
  refine V.sarg (n := n) (c := 1) (k1 := 424) hX hb hL rfl rfl dL_law_419 dL_law_420 dL_law_421 rfl dL_law_422 dL_law_423 (by omega) rfl ?_
  refine V.sarg (n := n) (c := 2) (k1 := 429) hX hb hL rfl rfl dL_law_424 dL_law_425 dL_law_426 rfl dL_law_427 dL_law_428 (by omega) rfl ?_
  refine V.cq2D hE dL_law_429 lk_L_42 rfl (c_fleet hE (xs (n + 1)) (xs (n + 2)) hI ⟨rfl, rfl⟩) (by decide) (by decide) (by omega) (by omega) (Nat.le_of_ble_eq_true rfl) ?_
  refine V.icmp_eqT dL_law_432 rfl rfl ?_
  exact V.widen (by omega) (by omega) (kk _ q _ ⟨inv_fleet hI (xs (n + 1)) (xs (n + 2)), h1.wG _, rfl⟩)
set_option maxRecDepth 100000 in
theorem L_day (hE : eF E = true) (hX : va_X b L xs (xS X) (eH E)) (hb : b < (eH E).size) (hL : L ≤ 2048) (hn : n + 4 ≤ L) (hZ : LZ x P G σ) (hc : nc + 8 ≤ 600000) (hs : ns + 64 ≤ 7302250)
    (kk : ∀ σ2 P2 G2, LZ x P2 G2 σ2 → V E X RL mn cL_law 4 ret 30 600000 7302250 Q σ2 (nc + 8) (ns + 64) 1142 [some (.ref b), some (.ref x), some (.ref (eQ E 48)), some (.int (nI n))] []) : V E X RL mn cL_law 4 ret 30 600000 7302250 Q σ nc ns 437 [some (.ref b), some (.ref x), some (.ref (eQ E 48)), some (.int (nI n))] [] := by
  obtain ⟨hI, hR, hg⟩ := hZ
  refine V.aload_n (i := 1) dL_law_437 rfl rfl ?_
  refine V.sarg (n := n) (c := 1) (k1 := 443) hX hb hL rfl rfl dL_law_438 dL_law_439 dL_law_440 rfl dL_law_441 dL_law_442 (by omega) rfl ?_
  refine V.cv1s (ci := 10) dL_law_443 lk_L_43 (by decide) rfl hR.1.1 (k_day hR hI (xs (n + 1)) (fun s q h1 h2 => ⟨rfl, (⟨q, h1, h2⟩ : ∃ q, Rp s x q (s_day G (xs (n + 1))).2 ∧ sG s = sG σ)⟩)) (by decide) (by decide) (by omega) (by omega) (by decide) (fun s hs2 => ?_)
  obtain ⟨q, h1, h2⟩ := hs2
  refine V.sts (σ' := wG s G) (by rw [← hg, ← h2]; rfl) ?_
  refine V.aload_n (i := 2) dL_law_446 rfl rfl ?_
  refine V.sarg (n := n) (c := 1) (k1 := 452) hX hb hL rfl rfl dL_law_447 dL_law_448 dL_law_449 rfl dL_law_450 dL_law_451 (by omega) rfl ?_
  refine V.cq1D hE dL_law_452 lk_L_47 rfl (c_day hE (xs (n + 1)) hI ⟨rfl, rfl⟩) (by decide) (by decide) (by omega) (by omega) (Nat.le_of_ble_eq_true rfl) ?_
  refine V.icmp_eqT dL_law_455 rfl rfl ?_
  exact V.widen (by omega) (by omega) (kk _ q _ ⟨inv_day hI (xs (n + 1)), h1.wG _, rfl⟩)
set_option maxRecDepth 100000 in
theorem L_call (hE : eF E = true) (hX : va_X b L xs (xS X) (eH E)) (hb : b < (eH E).size) (hL : L ≤ 2048) (hn : n + 4 ≤ L) (hZ : LZ x P G σ) (hc : nc + 8 ≤ 600000) (hs : ns + 64 ≤ 7302250)
    (kk : ∀ σ2 P2 G2, LZ x P2 G2 σ2 → V E X RL mn cL_law 4 ret 30 600000 7302250 Q σ2 (nc + 8) (ns + 64) 1142 [some (.ref b), some (.ref x), some (.ref (eQ E 48)), some (.int (nI n))] []) : V E X RL mn cL_law 4 ret 30 600000 7302250 Q σ nc ns 460 [some (.ref b), some (.ref x), some (.ref (eQ E 48)), some (.int (nI n))] [] := by
  obtain ⟨hI, hR, hg⟩ := hZ
  refine V.aload_n (i := 1) dL_law_460 rfl rfl ?_
  refine V.sarg (n := n) (c := 1) (k1 := 466) hX hb hL rfl rfl dL_law_461 dL_law_462 dL_law_463 rfl dL_law_464 dL_law_465 (by omega) rfl ?_
  refine V.sarg (n := n) (c := 2) (k1 := 471) hX hb hL rfl rfl dL_law_466 dL_law_467 dL_law_468 rfl dL_law_469 dL_law_470 (by omega) rfl ?_
  refine V.cv2s (ci := 10) dL_law_471 lk_L_48 (by decide) rfl hR.1.1 (k_call hR hI (xs (n + 1)) (xs (n + 2)) (fun s q h1 h2 => ⟨rfl, (⟨q, h1, h2⟩ : ∃ q, Rp s x q (s_call G (xs (n + 1)) (xs (n + 2))).2 ∧ sG s = sG σ)⟩)) (by decide) (by decide) (by omega) (by omega) (by decide) (fun s hs2 => ?_)
  obtain ⟨q, h1, h2⟩ := hs2
  refine V.sts (σ' := wG s G) (by rw [← hg, ← h2]; rfl) ?_
  refine V.aload_n (i := 2) dL_law_474 rfl rfl ?_
  refine V.sarg (n := n) (c := 1) (k1 := 480) hX hb hL rfl rfl dL_law_475 dL_law_476 dL_law_477 rfl dL_law_478 dL_law_479 (by omega) rfl ?_
  refine V.sarg (n := n) (c := 2) (k1 := 485) hX hb hL rfl rfl dL_law_480 dL_law_481 dL_law_482 rfl dL_law_483 dL_law_484 (by omega) rfl ?_
  refine V.cq2D hE dL_law_485 lk_L_51 rfl (c_call hE (xs (n + 1)) (xs (n + 2)) hI ⟨rfl, rfl⟩) (by decide) (by decide) (by omega) (by omega) (Nat.le_of_ble_eq_true rfl) ?_
  refine V.icmp_eqT dL_law_488 rfl rfl ?_
  exact V.widen (by omega) (by omega) (kk _ q _ ⟨inv_call hI (xs (n + 1)) (xs (n + 2)), h1.wG _, rfl⟩)
set_option maxRecDepth 100000 in
theorem L_leave (hE : eF E = true) (hX : va_X b L xs (xS X) (eH E)) (hb : b < (eH E).size) (hL : L ≤ 2048) (hn : n + 4 ≤ L) (hZ : LZ x P G σ) (hc : nc + 8 ≤ 600000) (hs : ns + 64 ≤ 7302250)
    (kk : ∀ σ2 P2 G2, LZ x P2 G2 σ2 → V E X RL mn cL_law 4 ret 30 600000 7302250 Q σ2 (nc + 8) (ns + 64) 1142 [some (.ref b), some (.ref x), some (.ref (eQ E 48)), some (.int (nI n))] []) : V E X RL mn cL_law 4 ret 30 600000 7302250 Q σ nc ns 493 [some (.ref b), some (.ref x), some (.ref (eQ E 48)), some (.int (nI n))] [] := by
  obtain ⟨hI, hR, hg⟩ := hZ
  refine V.aload_n (i := 1) dL_law_493 rfl rfl ?_
  refine V.sarg (n := n) (c := 1) (k1 := 499) hX hb hL rfl rfl dL_law_494 dL_law_495 dL_law_496 rfl dL_law_497 dL_law_498 (by omega) rfl ?_
  refine V.cv1s (ci := 10) dL_law_499 lk_L_52 (by decide) rfl hR.1.1 (k_leave hR hI (xs (n + 1)) (fun s q h1 h2 => ⟨rfl, (⟨q, h1, h2⟩ : ∃ q, Rp s x q (s_leave G (xs (n + 1))).2 ∧ sG s = sG σ)⟩)) (by decide) (by decide) (by omega) (by omega) (by decide) (fun s hs2 => ?_)
  obtain ⟨q, h1, h2⟩ := hs2
  refine V.sts (σ' := wG s G) (by rw [← hg, ← h2]; rfl) ?_
  refine V.aload_n (i := 2) dL_law_502 rfl rfl ?_
  refine V.sarg (n := n) (c := 1) (k1 := 508) hX hb hL rfl rfl dL_law_503 dL_law_504 dL_law_505 rfl dL_law_506 dL_law_507 (by omega) rfl ?_
  refine V.cq1D hE dL_law_508 lk_L_55 rfl (c_leave hE (xs (n + 1)) hI ⟨rfl, rfl⟩) (by decide) (by decide) (by omega) (by omega) (Nat.le_of_ble_eq_true rfl) ?_
  refine V.icmp_eqT dL_law_511 rfl rfl ?_
  exact V.widen (by omega) (by omega) (kk _ q _ ⟨inv_leave hI (xs (n + 1)), h1.wG _, rfl⟩)
set_option maxRecDepth 100000 in
theorem L_of (hE : eF E = true) (hX : va_X b L xs (xS X) (eH E)) (hb : b < (eH E).size) (hL : L ≤ 2048) (hn : n + 4 ≤ L) (hZ : LZ x P G σ) (hc : nc + 8 ≤ 600000) (hs : ns + 64 ≤ 7302250)
    (kk : ∀ σ2 P2 G2, LZ x P2 G2 σ2 → V E X RL mn cL_law 4 ret 30 600000 7302250 Q σ2 (nc + 8) (ns + 64) 1142 [some (.ref b), some (.ref x), some (.ref (eQ E 48)), some (.int (nI n))] []) : V E X RL mn cL_law 4 ret 30 600000 7302250 Q σ nc ns 516 [some (.ref b), some (.ref x), some (.ref (eQ E 48)), some (.int (nI n))] [] := by
  obtain ⟨hI, hR, hg⟩ := hZ
  refine V.aload_n (i := 1) dL_law_516 rfl rfl ?_
  refine V.sarg (n := n) (c := 1) (k1 := 522) hX hb hL rfl rfl dL_law_517 dL_law_518 dL_law_519 rfl dL_law_520 dL_law_521 (by omega) rfl ?_
  refine V.sarg (n := n) (c := 2) (k1 := 527) hX hb hL rfl rfl dL_law_522 dL_law_523 dL_law_524 rfl dL_law_525 dL_law_526 (by omega) rfl ?_
  refine V.cv2s (ci := 10) dL_law_527 lk_L_56 (by decide) rfl hR.1.1 (k_of hR hI (xs (n + 1)) (xs (n + 2)) (fun s q h1 h2 => ⟨rfl, (⟨q, h1, h2⟩ : ∃ q, Rp s x q (s_of G (xs (n + 1)) (xs (n + 2))).2 ∧ sG s = sG σ)⟩)) (by decide) (by decide) (by omega) (by omega) (by decide) (fun s hs2 => ?_)
  obtain ⟨q, h1, h2⟩ := hs2
  refine V.sts (σ' := wG s G) (by rw [← hg, ← h2]; rfl) ?_
  refine V.aload_n (i := 2) dL_law_530 rfl rfl ?_
  refine V.sarg (n := n) (c := 1) (k1 := 536) hX hb hL rfl rfl dL_law_531 dL_law_532 dL_law_533 rfl dL_law_534 dL_law_535 (by omega) rfl ?_
  refine V.sarg (n := n) (c := 2) (k1 := 541) hX hb hL rfl rfl dL_law_536 dL_law_537 dL_law_538 rfl dL_law_539 dL_law_540 (by omega) rfl ?_
  refine V.cq2D hE dL_law_541 lk_L_59 rfl (c_of hE (xs (n + 1)) (xs (n + 2)) hI ⟨rfl, rfl⟩) (by decide) (by decide) (by omega) (by omega) (Nat.le_of_ble_eq_true rfl) ?_
  refine V.icmp_eqT dL_law_544 rfl rfl ?_
  exact V.widen (by omega) (by omega) (kk _ q _ ⟨inv_of hI (xs (n + 1)) (xs (n + 2)), h1.wG _, rfl⟩)
set_option maxRecDepth 100000 in
theorem L_feed (hE : eF E = true) (hX : va_X b L xs (xS X) (eH E)) (hb : b < (eH E).size) (hL : L ≤ 2048) (hn : n + 4 ≤ L) (hZ : LZ x P G σ) (hc : nc + 8 ≤ 600000) (hs : ns + 64 ≤ 7302250)
    (kk : ∀ σ2 P2 G2, LZ x P2 G2 σ2 → V E X RL mn cL_law 4 ret 30 600000 7302250 Q σ2 (nc + 8) (ns + 64) 1142 [some (.ref b), some (.ref x), some (.ref (eQ E 48)), some (.int (nI n))] []) : V E X RL mn cL_law 4 ret 30 600000 7302250 Q σ nc ns 549 [some (.ref b), some (.ref x), some (.ref (eQ E 48)), some (.int (nI n))] [] := by
  obtain ⟨hI, hR, hg⟩ := hZ
  refine V.aload_n (i := 1) dL_law_549 rfl rfl ?_
  refine V.sarg (n := n) (c := 1) (k1 := 555) hX hb hL rfl rfl dL_law_550 dL_law_551 dL_law_552 rfl dL_law_553 dL_law_554 (by omega) rfl ?_
  refine V.cv1s (ci := 10) dL_law_555 lk_L_60 (by decide) rfl hR.1.1 (k_feed hR hI (xs (n + 1)) (fun s q h1 h2 => ⟨rfl, (⟨q, h1, h2⟩ : ∃ q, Rp s x q (s_feed G (xs (n + 1))).2 ∧ sG s = sG σ)⟩)) (by decide) (by decide) (by omega) (by omega) (by decide) (fun s hs2 => ?_)
  obtain ⟨q, h1, h2⟩ := hs2
  refine V.sts (σ' := wG s G) (by rw [← hg, ← h2]; rfl) ?_
  refine V.aload_n (i := 2) dL_law_558 rfl rfl ?_
  refine V.sarg (n := n) (c := 1) (k1 := 564) hX hb hL rfl rfl dL_law_559 dL_law_560 dL_law_561 rfl dL_law_562 dL_law_563 (by omega) rfl ?_
  refine V.cq1D hE dL_law_564 lk_L_63 rfl (c_feed hE (xs (n + 1)) hI ⟨rfl, rfl⟩) (by decide) (by decide) (by omega) (by omega) (Nat.le_of_ble_eq_true rfl) ?_
  refine V.icmp_eqT dL_law_567 rfl rfl ?_
  exact V.widen (by omega) (by omega) (kk _ q _ ⟨inv_feed hI (xs (n + 1)), h1.wG _, rfl⟩)
set_option maxRecDepth 100000 in
theorem L_treaty (hE : eF E = true) (hX : va_X b L xs (xS X) (eH E)) (hb : b < (eH E).size) (hL : L ≤ 2048) (hn : n + 4 ≤ L) (hZ : LZ x P G σ) (hc : nc + 8 ≤ 600000) (hs : ns + 64 ≤ 7302250)
    (kk : ∀ σ2 P2 G2, LZ x P2 G2 σ2 → V E X RL mn cL_law 4 ret 30 600000 7302250 Q σ2 (nc + 8) (ns + 64) 1142 [some (.ref b), some (.ref x), some (.ref (eQ E 48)), some (.int (nI n))] []) : V E X RL mn cL_law 4 ret 30 600000 7302250 Q σ nc ns 572 [some (.ref b), some (.ref x), some (.ref (eQ E 48)), some (.int (nI n))] [] := by
  obtain ⟨hI, hR, hg⟩ := hZ
  refine V.aload_n (i := 1) dL_law_572 rfl rfl ?_
  refine V.sarg (n := n) (c := 1) (k1 := 578) hX hb hL rfl rfl dL_law_573 dL_law_574 dL_law_575 rfl dL_law_576 dL_law_577 (by omega) rfl ?_
  refine V.cv1s (ci := 10) dL_law_578 lk_L_64 (by decide) rfl hR.1.1 (k_treaty hR hI (xs (n + 1)) (fun s q h1 h2 => ⟨rfl, (⟨q, h1, h2⟩ : ∃ q, Rp s x q (s_treaty G (xs (n + 1))).2 ∧ sG s = sG σ)⟩)) (by decide) (by decide) (by omega) (by omega) (by decide) (fun s hs2 => ?_)
  obtain ⟨q, h1, h2⟩ := hs2
  refine V.sts (σ' := wG s G) (by rw [← hg, ← h2]; rfl) ?_
  refine V.aload_n (i := 2) dL_law_581 rfl rfl ?_
  refine V.sarg (n := n) (c := 1) (k1 := 587) hX hb hL rfl rfl dL_law_582 dL_law_583 dL_law_584 rfl dL_law_585 dL_law_586 (by omega) rfl ?_
  refine V.cq1D hE dL_law_587 lk_L_67 rfl (c_treaty hE (xs (n + 1)) hI ⟨rfl, rfl⟩) (by decide) (by decide) (by omega) (by omega) (Nat.le_of_ble_eq_true rfl) ?_
  refine V.icmp_eqT dL_law_590 rfl rfl ?_
  exact V.widen (by omega) (by omega) (kk _ q _ ⟨inv_treaty hI (xs (n + 1)), h1.wG _, rfl⟩)
set_option maxRecDepth 100000 in
theorem L_says (hE : eF E = true) (hX : va_X b L xs (xS X) (eH E)) (hb : b < (eH E).size) (hL : L ≤ 2048) (hn : n + 4 ≤ L) (hZ : LZ x P G σ) (hc : nc + 8 ≤ 600000) (hs : ns + 64 ≤ 7302250)
    (kk : ∀ σ2 P2 G2, LZ x P2 G2 σ2 → V E X RL mn cL_law 4 ret 30 600000 7302250 Q σ2 (nc + 8) (ns + 64) 1142 [some (.ref b), some (.ref x), some (.ref (eQ E 48)), some (.int (nI n))] []) : V E X RL mn cL_law 4 ret 30 600000 7302250 Q σ nc ns 595 [some (.ref b), some (.ref x), some (.ref (eQ E 48)), some (.int (nI n))] [] := by
  obtain ⟨hI, hR, hg⟩ := hZ
  refine V.aload_n (i := 1) dL_law_595 rfl rfl ?_
  refine V.sarg (n := n) (c := 1) (k1 := 601) hX hb hL rfl rfl dL_law_596 dL_law_597 dL_law_598 rfl dL_law_599 dL_law_600 (by omega) rfl ?_
  refine V.sarg (n := n) (c := 2) (k1 := 606) hX hb hL rfl rfl dL_law_601 dL_law_602 dL_law_603 rfl dL_law_604 dL_law_605 (by omega) rfl ?_
  refine V.cv2s (ci := 10) dL_law_606 lk_L_68 (by decide) rfl hR.1.1 (k_says hR hI (xs (n + 1)) (xs (n + 2)) (fun s q h1 h2 => ⟨rfl, (⟨q, h1, h2⟩ : ∃ q, Rp s x q (s_says G (xs (n + 1)) (xs (n + 2))).2 ∧ sG s = sG σ)⟩)) (by decide) (by decide) (by omega) (by omega) (by decide) (fun s hs2 => ?_)
  obtain ⟨q, h1, h2⟩ := hs2
  refine V.sts (σ' := wG s G) (by rw [← hg, ← h2]; rfl) ?_
  refine V.aload_n (i := 2) dL_law_609 rfl rfl ?_
  refine V.sarg (n := n) (c := 1) (k1 := 615) hX hb hL rfl rfl dL_law_610 dL_law_611 dL_law_612 rfl dL_law_613 dL_law_614 (by omega) rfl ?_
  refine V.sarg (n := n) (c := 2) (k1 := 620) hX hb hL rfl rfl dL_law_615 dL_law_616 dL_law_617 rfl dL_law_618 dL_law_619 (by omega) rfl ?_
  refine V.cq2D hE dL_law_620 lk_L_71 rfl (c_says hE (xs (n + 1)) (xs (n + 2)) hI ⟨rfl, rfl⟩) (by decide) (by decide) (by omega) (by omega) (Nat.le_of_ble_eq_true rfl) ?_
  refine V.icmp_eqT dL_law_623 rfl rfl ?_
  exact V.widen (by omega) (by omega) (kk _ q _ ⟨inv_says hI (xs (n + 1)) (xs (n + 2)), h1.wG _, rfl⟩)
set_option maxRecDepth 100000 in
theorem L_look (hE : eF E = true) (hX : va_X b L xs (xS X) (eH E)) (hb : b < (eH E).size) (hL : L ≤ 2048) (hn : n + 4 ≤ L) (hZ : LZ x P G σ) (hc : nc + 8 ≤ 600000) (hs : ns + 64 ≤ 7302250)
    (kk : ∀ σ2 P2 G2, LZ x P2 G2 σ2 → V E X RL mn cL_law 4 ret 30 600000 7302250 Q σ2 (nc + 8) (ns + 64) 1142 [some (.ref b), some (.ref x), some (.ref (eQ E 48)), some (.int (nI n))] []) : V E X RL mn cL_law 4 ret 30 600000 7302250 Q σ nc ns 628 [some (.ref b), some (.ref x), some (.ref (eQ E 48)), some (.int (nI n))] [] := by
  obtain ⟨hI, hR, hg⟩ := hZ
  refine V.aload_n (i := 1) dL_law_628 rfl rfl ?_
  refine V.sarg (n := n) (c := 1) (k1 := 634) hX hb hL rfl rfl dL_law_629 dL_law_630 dL_law_631 rfl dL_law_632 dL_law_633 (by omega) rfl ?_
  refine V.sarg (n := n) (c := 2) (k1 := 639) hX hb hL rfl rfl dL_law_634 dL_law_635 dL_law_636 rfl dL_law_637 dL_law_638 (by omega) rfl ?_
  refine V.sarg (n := n) (c := 3) (k1 := 644) hX hb hL rfl rfl dL_law_639 dL_law_640 dL_law_641 rfl dL_law_642 dL_law_643 (by omega) rfl ?_
  refine V.cv3s (ci := 10) dL_law_644 lk_L_72 (by decide) rfl hR.1.1 (k_look hR hI (xs (n + 1)) (xs (n + 2)) (xs (n + 3)) (fun s q h1 h2 => ⟨rfl, (⟨q, h1, h2⟩ : ∃ q, Rp s x q (s_look G (xs (n + 1)) (xs (n + 2)) (xs (n + 3))).2 ∧ sG s = sG σ)⟩)) (by decide) (by decide) (by omega) (by omega) (by decide) (fun s hs2 => ?_)
  obtain ⟨q, h1, h2⟩ := hs2
  refine V.sts (σ' := wG s G) (by rw [← hg, ← h2]; rfl) ?_
  refine V.aload_n (i := 2) dL_law_647 rfl rfl ?_
  refine V.sarg (n := n) (c := 1) (k1 := 653) hX hb hL rfl rfl dL_law_648 dL_law_649 dL_law_650 rfl dL_law_651 dL_law_652 (by omega) rfl ?_
  refine V.sarg (n := n) (c := 2) (k1 := 658) hX hb hL rfl rfl dL_law_653 dL_law_654 dL_law_655 rfl dL_law_656 dL_law_657 (by omega) rfl ?_
  refine V.sarg (n := n) (c := 3) (k1 := 663) hX hb hL rfl rfl dL_law_658 dL_law_659 dL_law_660 rfl dL_law_661 dL_law_662 (by omega) rfl ?_
  refine V.cq3D hE dL_law_663 lk_L_75 rfl (c_look hE (xs (n + 1)) (xs (n + 2)) (xs (n + 3)) hI ⟨rfl, rfl⟩) (by decide) (by decide) (by omega) (by omega) (Nat.le_of_ble_eq_true rfl) ?_
  refine V.icmp_eqT dL_law_666 rfl rfl ?_
  exact V.widen (by omega) (by omega) (kk _ q _ ⟨inv_look hI (xs (n + 1)) (xs (n + 2)) (xs (n + 3)), h1.wG _, rfl⟩)
set_option maxRecDepth 100000 in
theorem L_told (hE : eF E = true) (hX : va_X b L xs (xS X) (eH E)) (hb : b < (eH E).size) (hL : L ≤ 2048) (hn : n + 4 ≤ L) (hZ : LZ x P G σ) (hc : nc + 8 ≤ 600000) (hs : ns + 64 ≤ 7302250)
    (kk : ∀ σ2 P2 G2, LZ x P2 G2 σ2 → V E X RL mn cL_law 4 ret 30 600000 7302250 Q σ2 (nc + 8) (ns + 64) 1142 [some (.ref b), some (.ref x), some (.ref (eQ E 48)), some (.int (nI n))] []) : V E X RL mn cL_law 4 ret 30 600000 7302250 Q σ nc ns 671 [some (.ref b), some (.ref x), some (.ref (eQ E 48)), some (.int (nI n))] [] := by
  obtain ⟨hI, hR, hg⟩ := hZ
  refine V.aload_n (i := 1) dL_law_671 rfl rfl ?_
  refine V.sarg (n := n) (c := 1) (k1 := 677) hX hb hL rfl rfl dL_law_672 dL_law_673 dL_law_674 rfl dL_law_675 dL_law_676 (by omega) rfl ?_
  refine V.sarg (n := n) (c := 2) (k1 := 682) hX hb hL rfl rfl dL_law_677 dL_law_678 dL_law_679 rfl dL_law_680 dL_law_681 (by omega) rfl ?_
  refine V.cv2s (ci := 10) dL_law_682 lk_L_76 (by decide) rfl hR.1.1 (k_told hR hI (xs (n + 1)) (xs (n + 2)) (fun s q h1 h2 => ⟨rfl, (⟨q, h1, h2⟩ : ∃ q, Rp s x q (s_told G (xs (n + 1)) (xs (n + 2))).2 ∧ sG s = sG σ)⟩)) (by decide) (by decide) (by omega) (by omega) (by decide) (fun s hs2 => ?_)
  obtain ⟨q, h1, h2⟩ := hs2
  refine V.sts (σ' := wG s G) (by rw [← hg, ← h2]; rfl) ?_
  refine V.aload_n (i := 2) dL_law_685 rfl rfl ?_
  refine V.sarg (n := n) (c := 1) (k1 := 691) hX hb hL rfl rfl dL_law_686 dL_law_687 dL_law_688 rfl dL_law_689 dL_law_690 (by omega) rfl ?_
  refine V.sarg (n := n) (c := 2) (k1 := 696) hX hb hL rfl rfl dL_law_691 dL_law_692 dL_law_693 rfl dL_law_694 dL_law_695 (by omega) rfl ?_
  refine V.cq2D hE dL_law_696 lk_L_79 rfl (c_told hE (xs (n + 1)) (xs (n + 2)) hI ⟨rfl, rfl⟩) (by decide) (by decide) (by omega) (by omega) (Nat.le_of_ble_eq_true rfl) ?_
  refine V.icmp_eqT dL_law_699 rfl rfl ?_
  exact V.widen (by omega) (by omega) (kk _ q _ ⟨inv_told hI (xs (n + 1)) (xs (n + 2)), h1.wG _, rfl⟩)
set_option maxRecDepth 100000 in
theorem L_share (hE : eF E = true) (hX : va_X b L xs (xS X) (eH E)) (hb : b < (eH E).size) (hL : L ≤ 2048) (hn : n + 4 ≤ L) (hZ : LZ x P G σ) (hc : nc + 8 ≤ 600000) (hs : ns + 64 ≤ 7302250)
    (kk : ∀ σ2 P2 G2, LZ x P2 G2 σ2 → V E X RL mn cL_law 4 ret 30 600000 7302250 Q σ2 (nc + 8) (ns + 64) 1142 [some (.ref b), some (.ref x), some (.ref (eQ E 48)), some (.int (nI n))] []) : V E X RL mn cL_law 4 ret 30 600000 7302250 Q σ nc ns 704 [some (.ref b), some (.ref x), some (.ref (eQ E 48)), some (.int (nI n))] [] := by
  obtain ⟨hI, hR, hg⟩ := hZ
  refine V.aload_n (i := 1) dL_law_704 rfl rfl ?_
  refine V.sarg (n := n) (c := 1) (k1 := 710) hX hb hL rfl rfl dL_law_705 dL_law_706 dL_law_707 rfl dL_law_708 dL_law_709 (by omega) rfl ?_
  refine V.sarg (n := n) (c := 2) (k1 := 715) hX hb hL rfl rfl dL_law_710 dL_law_711 dL_law_712 rfl dL_law_713 dL_law_714 (by omega) rfl ?_
  refine V.sarg (n := n) (c := 3) (k1 := 720) hX hb hL rfl rfl dL_law_715 dL_law_716 dL_law_717 rfl dL_law_718 dL_law_719 (by omega) rfl ?_
  refine V.cv3s (ci := 10) dL_law_720 lk_L_80 (by decide) rfl hR.1.1 (k_share hR hI (xs (n + 1)) (xs (n + 2)) (xs (n + 3)) (fun s q h1 h2 => ⟨rfl, (⟨q, h1, h2⟩ : ∃ q, Rp s x q (s_share G (xs (n + 1)) (xs (n + 2)) (xs (n + 3))).2 ∧ sG s = sG σ)⟩)) (by decide) (by decide) (by omega) (by omega) (by decide) (fun s hs2 => ?_)
  obtain ⟨q, h1, h2⟩ := hs2
  refine V.sts (σ' := wG s G) (by rw [← hg, ← h2]; rfl) ?_
  refine V.aload_n (i := 2) dL_law_723 rfl rfl ?_
  refine V.sarg (n := n) (c := 1) (k1 := 729) hX hb hL rfl rfl dL_law_724 dL_law_725 dL_law_726 rfl dL_law_727 dL_law_728 (by omega) rfl ?_
  refine V.sarg (n := n) (c := 2) (k1 := 734) hX hb hL rfl rfl dL_law_729 dL_law_730 dL_law_731 rfl dL_law_732 dL_law_733 (by omega) rfl ?_
  refine V.sarg (n := n) (c := 3) (k1 := 739) hX hb hL rfl rfl dL_law_734 dL_law_735 dL_law_736 rfl dL_law_737 dL_law_738 (by omega) rfl ?_
  refine V.cq3D hE dL_law_739 lk_L_83 rfl (c_share hE (xs (n + 1)) (xs (n + 2)) (xs (n + 3)) hI ⟨rfl, rfl⟩) (by decide) (by decide) (by omega) (by omega) (Nat.le_of_ble_eq_true rfl) ?_
  refine V.icmp_eqT dL_law_742 rfl rfl ?_
  exact V.widen (by omega) (by omega) (kk _ q _ ⟨inv_share hI (xs (n + 1)) (xs (n + 2)) (xs (n + 3)), h1.wG _, rfl⟩)
set_option maxRecDepth 100000 in
theorem L_risk (hE : eF E = true) (hX : va_X b L xs (xS X) (eH E)) (hb : b < (eH E).size) (hL : L ≤ 2048) (hn : n + 4 ≤ L) (hZ : LZ x P G σ) (hc : nc + 8 ≤ 600000) (hs : ns + 64 ≤ 7302250)
    (kk : ∀ σ2 P2 G2, LZ x P2 G2 σ2 → V E X RL mn cL_law 4 ret 30 600000 7302250 Q σ2 (nc + 8) (ns + 64) 1142 [some (.ref b), some (.ref x), some (.ref (eQ E 48)), some (.int (nI n))] []) : V E X RL mn cL_law 4 ret 30 600000 7302250 Q σ nc ns 747 [some (.ref b), some (.ref x), some (.ref (eQ E 48)), some (.int (nI n))] [] := by
  obtain ⟨hI, hR, hg⟩ := hZ
  refine V.aload_n (i := 1) dL_law_747 rfl rfl ?_
  refine V.sarg (n := n) (c := 1) (k1 := 753) hX hb hL rfl rfl dL_law_748 dL_law_749 dL_law_750 rfl dL_law_751 dL_law_752 (by omega) rfl ?_
  refine V.cv1s (ci := 10) dL_law_753 lk_L_84 (by decide) rfl hR.1.1 (k_risk hR hI (xs (n + 1)) (fun s q h1 h2 => ⟨rfl, (⟨q, h1, h2⟩ : ∃ q, Rp s x q (s_risk G (xs (n + 1))).2 ∧ sG s = sG σ)⟩)) (by decide) (by decide) (by omega) (by omega) (by decide) (fun s hs2 => ?_)
  obtain ⟨q, h1, h2⟩ := hs2
  refine V.sts (σ' := wG s G) (by rw [← hg, ← h2]; rfl) ?_
  refine V.aload_n (i := 2) dL_law_756 rfl rfl ?_
  refine V.sarg (n := n) (c := 1) (k1 := 762) hX hb hL rfl rfl dL_law_757 dL_law_758 dL_law_759 rfl dL_law_760 dL_law_761 (by omega) rfl ?_
  refine V.cq1D hE dL_law_762 lk_L_87 rfl (c_risk hE (xs (n + 1)) hI ⟨rfl, rfl⟩) (by decide) (by decide) (by omega) (by omega) (Nat.le_of_ble_eq_true rfl) ?_
  refine V.icmp_eqT dL_law_765 rfl rfl ?_
  exact V.widen (by omega) (by omega) (kk _ q _ ⟨inv_risk hI (xs (n + 1)), h1.wG _, rfl⟩)
set_option maxRecDepth 100000 in
theorem L_board (hE : eF E = true) (hX : va_X b L xs (xS X) (eH E)) (hb : b < (eH E).size) (hL : L ≤ 2048) (hn : n + 4 ≤ L) (hZ : LZ x P G σ) (hc : nc + 8 ≤ 600000) (hs : ns + 64 ≤ 7302250)
    (kk : ∀ σ2 P2 G2, LZ x P2 G2 σ2 → V E X RL mn cL_law 4 ret 30 600000 7302250 Q σ2 (nc + 8) (ns + 64) 1142 [some (.ref b), some (.ref x), some (.ref (eQ E 48)), some (.int (nI n))] []) : V E X RL mn cL_law 4 ret 30 600000 7302250 Q σ nc ns 770 [some (.ref b), some (.ref x), some (.ref (eQ E 48)), some (.int (nI n))] [] := by
  obtain ⟨hI, hR, hg⟩ := hZ
  refine V.aload_n (i := 1) dL_law_770 rfl rfl ?_
  refine V.sarg (n := n) (c := 1) (k1 := 776) hX hb hL rfl rfl dL_law_771 dL_law_772 dL_law_773 rfl dL_law_774 dL_law_775 (by omega) rfl ?_
  refine V.sarg (n := n) (c := 2) (k1 := 781) hX hb hL rfl rfl dL_law_776 dL_law_777 dL_law_778 rfl dL_law_779 dL_law_780 (by omega) rfl ?_
  refine V.sarg (n := n) (c := 3) (k1 := 786) hX hb hL rfl rfl dL_law_781 dL_law_782 dL_law_783 rfl dL_law_784 dL_law_785 (by omega) rfl ?_
  refine V.cv3s (ci := 10) dL_law_786 lk_L_88 (by decide) rfl hR.1.1 (k_board hR hI (xs (n + 1)) (xs (n + 2)) (xs (n + 3)) (fun s q h1 h2 => ⟨rfl, (⟨q, h1, h2⟩ : ∃ q, Rp s x q (s_board G (xs (n + 1)) (xs (n + 2)) (xs (n + 3))).2 ∧ sG s = sG σ)⟩)) (by decide) (by decide) (by omega) (by omega) (by decide) (fun s hs2 => ?_)
  obtain ⟨q, h1, h2⟩ := hs2
  refine V.sts (σ' := wG s G) (by rw [← hg, ← h2]; rfl) ?_
  refine V.aload_n (i := 2) dL_law_789 rfl rfl ?_
  refine V.sarg (n := n) (c := 1) (k1 := 795) hX hb hL rfl rfl dL_law_790 dL_law_791 dL_law_792 rfl dL_law_793 dL_law_794 (by omega) rfl ?_
  refine V.sarg (n := n) (c := 2) (k1 := 800) hX hb hL rfl rfl dL_law_795 dL_law_796 dL_law_797 rfl dL_law_798 dL_law_799 (by omega) rfl ?_
  refine V.sarg (n := n) (c := 3) (k1 := 805) hX hb hL rfl rfl dL_law_800 dL_law_801 dL_law_802 rfl dL_law_803 dL_law_804 (by omega) rfl ?_
  refine V.cq3s hE dL_law_805 lk_L_91 rfl (c_board hE (xs (n + 1)) (xs (n + 2)) (xs (n + 3)) hI (fun t ht => ⟨rfl, ht⟩)) (by decide) (by decide) (by omega) (by omega) (Nat.le_of_ble_eq_true rfl) (fun t ht => ?_)
  obtain ⟨G2, rfl, e⟩ := ht
  refine V.icmp_eqT dL_law_808 rfl rfl ?_
  exact V.widen (by omega) (by omega) (kk _ q G2 ⟨(inv_board hI (xs (n + 1)) (xs (n + 2)) (xs (n + 3))).eqL e, (h1.wG _).eqL e, rfl⟩)
set_option maxRecDepth 100000 in
theorem L_rest (hE : eF E = true) (hX : va_X b L xs (xS X) (eH E)) (hb : b < (eH E).size) (hL : L ≤ 2048) (hn : n + 4 ≤ L) (hZ : LZ x P G σ) (hc : nc + 8 ≤ 600000) (hs : ns + 64 ≤ 7302250)
    (kk : ∀ σ2 P2 G2, LZ x P2 G2 σ2 → V E X RL mn cL_law 4 ret 30 600000 7302250 Q σ2 (nc + 8) (ns + 64) 1142 [some (.ref b), some (.ref x), some (.ref (eQ E 48)), some (.int (nI n))] []) : V E X RL mn cL_law 4 ret 30 600000 7302250 Q σ nc ns 813 [some (.ref b), some (.ref x), some (.ref (eQ E 48)), some (.int (nI n))] [] := by
  obtain ⟨hI, hR, hg⟩ := hZ
  refine V.aload_n (i := 1) dL_law_813 rfl rfl ?_
  refine V.sarg (n := n) (c := 1) (k1 := 819) hX hb hL rfl rfl dL_law_814 dL_law_815 dL_law_816 rfl dL_law_817 dL_law_818 (by omega) rfl ?_
  refine V.sarg (n := n) (c := 2) (k1 := 824) hX hb hL rfl rfl dL_law_819 dL_law_820 dL_law_821 rfl dL_law_822 dL_law_823 (by omega) rfl ?_
  refine V.cv2s (ci := 10) dL_law_824 lk_L_92 (by decide) rfl hR.1.1 (k_rest hR hI (xs (n + 1)) (xs (n + 2)) (fun s q h1 h2 => ⟨rfl, (⟨q, h1, h2⟩ : ∃ q, Rp s x q (s_rest G (xs (n + 1)) (xs (n + 2))).2 ∧ sG s = sG σ)⟩)) (by decide) (by decide) (by omega) (by omega) (by decide) (fun s hs2 => ?_)
  obtain ⟨q, h1, h2⟩ := hs2
  refine V.sts (σ' := wG s G) (by rw [← hg, ← h2]; rfl) ?_
  refine V.aload_n (i := 2) dL_law_827 rfl rfl ?_
  refine V.sarg (n := n) (c := 1) (k1 := 833) hX hb hL rfl rfl dL_law_828 dL_law_829 dL_law_830 rfl dL_law_831 dL_law_832 (by omega) rfl ?_
  refine V.sarg (n := n) (c := 2) (k1 := 838) hX hb hL rfl rfl dL_law_833 dL_law_834 dL_law_835 rfl dL_law_836 dL_law_837 (by omega) rfl ?_
  refine V.cq2D hE dL_law_838 lk_L_95 rfl (c_rest hE (xs (n + 1)) (xs (n + 2)) hI ⟨rfl, rfl⟩) (by decide) (by decide) (by omega) (by omega) (Nat.le_of_ble_eq_true rfl) ?_
  refine V.icmp_eqT dL_law_841 rfl rfl ?_
  exact V.widen (by omega) (by omega) (kk _ q _ ⟨inv_rest hI (xs (n + 1)) (xs (n + 2)), h1.wG _, rfl⟩)
set_option maxRecDepth 100000 in
theorem L_tired (hE : eF E = true) (hX : va_X b L xs (xS X) (eH E)) (hb : b < (eH E).size) (hL : L ≤ 2048) (hn : n + 4 ≤ L) (hZ : LZ x P G σ) (hc : nc + 8 ≤ 600000) (hs : ns + 64 ≤ 7302250)
    (kk : ∀ σ2 P2 G2, LZ x P2 G2 σ2 → V E X RL mn cL_law 4 ret 30 600000 7302250 Q σ2 (nc + 8) (ns + 64) 1142 [some (.ref b), some (.ref x), some (.ref (eQ E 48)), some (.int (nI n))] []) : V E X RL mn cL_law 4 ret 30 600000 7302250 Q σ nc ns 846 [some (.ref b), some (.ref x), some (.ref (eQ E 48)), some (.int (nI n))] [] := by
  obtain ⟨hI, hR, hg⟩ := hZ
  refine V.aload_n (i := 1) dL_law_846 rfl rfl ?_
  refine V.sarg (n := n) (c := 1) (k1 := 852) hX hb hL rfl rfl dL_law_847 dL_law_848 dL_law_849 rfl dL_law_850 dL_law_851 (by omega) rfl ?_
  refine V.sarg (n := n) (c := 2) (k1 := 857) hX hb hL rfl rfl dL_law_852 dL_law_853 dL_law_854 rfl dL_law_855 dL_law_856 (by omega) rfl ?_
  refine V.cv2s (ci := 10) dL_law_857 lk_L_96 (by decide) rfl hR.1.1 (k_tired hR hI (xs (n + 1)) (xs (n + 2)) (fun s q h1 h2 => ⟨rfl, (⟨q, h1, h2⟩ : ∃ q, Rp s x q (s_tired G (xs (n + 1)) (xs (n + 2))).2 ∧ sG s = sG σ)⟩)) (by decide) (by decide) (by omega) (by omega) (by decide) (fun s hs2 => ?_)
  obtain ⟨q, h1, h2⟩ := hs2
  refine V.sts (σ' := wG s G) (by rw [← hg, ← h2]; rfl) ?_
  refine V.aload_n (i := 2) dL_law_860 rfl rfl ?_
  refine V.sarg (n := n) (c := 1) (k1 := 866) hX hb hL rfl rfl dL_law_861 dL_law_862 dL_law_863 rfl dL_law_864 dL_law_865 (by omega) rfl ?_
  refine V.sarg (n := n) (c := 2) (k1 := 871) hX hb hL rfl rfl dL_law_866 dL_law_867 dL_law_868 rfl dL_law_869 dL_law_870 (by omega) rfl ?_
  refine V.cq2D hE dL_law_871 lk_L_99 rfl (c_tired hE (xs (n + 1)) (xs (n + 2)) hI ⟨rfl, rfl⟩) (by decide) (by decide) (by omega) (by omega) (Nat.le_of_ble_eq_true rfl) ?_
  refine V.icmp_eqT dL_law_874 rfl rfl ?_
  exact V.widen (by omega) (by omega) (kk _ q _ ⟨inv_tired hI (xs (n + 1)) (xs (n + 2)), h1.wG _, rfl⟩)
set_option maxRecDepth 100000 in
theorem L_months (hE : eF E = true) (hX : va_X b L xs (xS X) (eH E)) (hb : b < (eH E).size) (hL : L ≤ 2048) (hn : n + 4 ≤ L) (hZ : LZ x P G σ) (hc : nc + 8 ≤ 600000) (hs : ns + 64 ≤ 7302250)
    (kk : ∀ σ2 P2 G2, LZ x P2 G2 σ2 → V E X RL mn cL_law 4 ret 30 600000 7302250 Q σ2 (nc + 8) (ns + 64) 1142 [some (.ref b), some (.ref x), some (.ref (eQ E 48)), some (.int (nI n))] []) : V E X RL mn cL_law 4 ret 30 600000 7302250 Q σ nc ns 879 [some (.ref b), some (.ref x), some (.ref (eQ E 48)), some (.int (nI n))] [] := by
  obtain ⟨hI, hR, hg⟩ := hZ
  refine V.aload_n (i := 1) dL_law_879 rfl rfl ?_
  refine V.sarg (n := n) (c := 1) (k1 := 885) hX hb hL rfl rfl dL_law_880 dL_law_881 dL_law_882 rfl dL_law_883 dL_law_884 (by omega) rfl ?_
  refine V.cv1s (ci := 10) dL_law_885 lk_L_100 (by decide) rfl hR.1.1 (k_months hR hI (xs (n + 1)) (fun s q h1 h2 => ⟨rfl, (⟨q, h1, h2⟩ : ∃ q, Rp s x q (s_months G (xs (n + 1))).2 ∧ sG s = sG σ)⟩)) (by decide) (by decide) (by omega) (by omega) (by decide) (fun s hs2 => ?_)
  obtain ⟨q, h1, h2⟩ := hs2
  refine V.sts (σ' := wG s G) (by rw [← hg, ← h2]; rfl) ?_
  refine V.aload_n (i := 2) dL_law_888 rfl rfl ?_
  refine V.sarg (n := n) (c := 1) (k1 := 894) hX hb hL rfl rfl dL_law_889 dL_law_890 dL_law_891 rfl dL_law_892 dL_law_893 (by omega) rfl ?_
  refine V.cq1D hE dL_law_894 lk_L_103 rfl (c_months hE (xs (n + 1)) ⟨rfl, rfl⟩) (by decide) (by decide) (by omega) (by omega) (Nat.le_of_ble_eq_true rfl) ?_
  refine V.icmp_eqT dL_law_897 rfl rfl ?_
  exact V.widen (by omega) (by omega) (kk _ q _ ⟨inv_months hI (xs (n + 1)), h1.wG _, rfl⟩)
set_option maxRecDepth 100000 in
theorem L_banned (hE : eF E = true) (hX : va_X b L xs (xS X) (eH E)) (hb : b < (eH E).size) (hL : L ≤ 2048) (hn : n + 4 ≤ L) (hZ : LZ x P G σ) (hc : nc + 8 ≤ 600000) (hs : ns + 64 ≤ 7302250)
    (kk : ∀ σ2 P2 G2, LZ x P2 G2 σ2 → V E X RL mn cL_law 4 ret 30 600000 7302250 Q σ2 (nc + 8) (ns + 64) 1142 [some (.ref b), some (.ref x), some (.ref (eQ E 48)), some (.int (nI n))] []) : V E X RL mn cL_law 4 ret 30 600000 7302250 Q σ nc ns 902 [some (.ref b), some (.ref x), some (.ref (eQ E 48)), some (.int (nI n))] [] := by
  obtain ⟨hI, hR, hg⟩ := hZ
  refine V.aload_n (i := 1) dL_law_902 rfl rfl ?_
  refine V.sarg (n := n) (c := 1) (k1 := 908) hX hb hL rfl rfl dL_law_903 dL_law_904 dL_law_905 rfl dL_law_906 dL_law_907 (by omega) rfl ?_
  refine V.sarg (n := n) (c := 2) (k1 := 913) hX hb hL rfl rfl dL_law_908 dL_law_909 dL_law_910 rfl dL_law_911 dL_law_912 (by omega) rfl ?_
  refine V.cv2s (ci := 10) dL_law_913 lk_L_104 (by decide) rfl hR.1.1 (k_banned hR hI (xs (n + 1)) (xs (n + 2)) (fun s q h1 h2 => ⟨rfl, (⟨q, h1, h2⟩ : ∃ q, Rp s x q (s_banned G (xs (n + 1)) (xs (n + 2))).2 ∧ sG s = sG σ)⟩)) (by decide) (by decide) (by omega) (by omega) (by decide) (fun s hs2 => ?_)
  obtain ⟨q, h1, h2⟩ := hs2
  refine V.sts (σ' := wG s G) (by rw [← hg, ← h2]; rfl) ?_
  refine V.aload_n (i := 2) dL_law_916 rfl rfl ?_
  refine V.sarg (n := n) (c := 1) (k1 := 922) hX hb hL rfl rfl dL_law_917 dL_law_918 dL_law_919 rfl dL_law_920 dL_law_921 (by omega) rfl ?_
  refine V.sarg (n := n) (c := 2) (k1 := 927) hX hb hL rfl rfl dL_law_922 dL_law_923 dL_law_924 rfl dL_law_925 dL_law_926 (by omega) rfl ?_
  refine V.cq2D hE dL_law_927 lk_L_107 rfl (c_banned hE (xs (n + 1)) (xs (n + 2)) hI ⟨rfl, rfl⟩) (by decide) (by decide) (by omega) (by omega) (Nat.le_of_ble_eq_true rfl) ?_
  refine V.icmp_eqT dL_law_930 rfl rfl ?_
  exact V.widen (by omega) (by omega) (kk _ q _ ⟨inv_banned hI (xs (n + 1)) (xs (n + 2)), h1.wG _, rfl⟩)
set_option maxRecDepth 100000 in
theorem L_lift (hE : eF E = true) (hX : va_X b L xs (xS X) (eH E)) (hb : b < (eH E).size) (hL : L ≤ 2048) (hn : n + 4 ≤ L) (hZ : LZ x P G σ) (hc : nc + 8 ≤ 600000) (hs : ns + 64 ≤ 7302250)
    (kk : ∀ σ2 P2 G2, LZ x P2 G2 σ2 → V E X RL mn cL_law 4 ret 30 600000 7302250 Q σ2 (nc + 8) (ns + 64) 1142 [some (.ref b), some (.ref x), some (.ref (eQ E 48)), some (.int (nI n))] []) : V E X RL mn cL_law 4 ret 30 600000 7302250 Q σ nc ns 935 [some (.ref b), some (.ref x), some (.ref (eQ E 48)), some (.int (nI n))] [] := by
  obtain ⟨hI, hR, hg⟩ := hZ
  refine V.aload_n (i := 1) dL_law_935 rfl rfl ?_
  refine V.sarg (n := n) (c := 1) (k1 := 941) hX hb hL rfl rfl dL_law_936 dL_law_937 dL_law_938 rfl dL_law_939 dL_law_940 (by omega) rfl ?_
  refine V.cv1s (ci := 10) dL_law_941 lk_L_108 (by decide) rfl hR.1.1 (k_lift hR hI (xs (n + 1)) (fun s q h1 h2 => ⟨rfl, (⟨q, h1, h2⟩ : ∃ q, Rp s x q (s_lift G (xs (n + 1))).2 ∧ sG s = sG σ)⟩)) (by decide) (by decide) (by omega) (by omega) (by decide) (fun s hs2 => ?_)
  obtain ⟨q, h1, h2⟩ := hs2
  refine V.sts (σ' := wG s G) (by rw [← hg, ← h2]; rfl) ?_
  refine V.aload_n (i := 2) dL_law_944 rfl rfl ?_
  refine V.sarg (n := n) (c := 1) (k1 := 950) hX hb hL rfl rfl dL_law_945 dL_law_946 dL_law_947 rfl dL_law_948 dL_law_949 (by omega) rfl ?_
  refine V.cq1D hE dL_law_950 lk_L_111 rfl (c_lift hE (xs (n + 1)) hI ⟨rfl, rfl⟩) (by decide) (by decide) (by omega) (by omega) (Nat.le_of_ble_eq_true rfl) ?_
  refine V.icmp_eqT dL_law_953 rfl rfl ?_
  exact V.widen (by omega) (by omega) (kk _ q _ ⟨inv_lift hI (xs (n + 1)), h1.wG _, rfl⟩)
set_option maxRecDepth 100000 in
theorem L_were (hE : eF E = true) (hX : va_X b L xs (xS X) (eH E)) (hb : b < (eH E).size) (hL : L ≤ 2048) (hn : n + 4 ≤ L) (hZ : LZ x P G σ) (hc : nc + 8 ≤ 600000) (hs : ns + 64 ≤ 7302250)
    (kk : ∀ σ2 P2 G2, LZ x P2 G2 σ2 → V E X RL mn cL_law 4 ret 30 600000 7302250 Q σ2 (nc + 8) (ns + 64) 1142 [some (.ref b), some (.ref x), some (.ref (eQ E 48)), some (.int (nI n))] []) : V E X RL mn cL_law 4 ret 30 600000 7302250 Q σ nc ns 958 [some (.ref b), some (.ref x), some (.ref (eQ E 48)), some (.int (nI n))] [] := by
  obtain ⟨hI, hR, hg⟩ := hZ
  refine V.aload_n (i := 1) dL_law_958 rfl rfl ?_
  refine V.sarg (n := n) (c := 1) (k1 := 964) hX hb hL rfl rfl dL_law_959 dL_law_960 dL_law_961 rfl dL_law_962 dL_law_963 (by omega) rfl ?_
  refine V.sarg (n := n) (c := 2) (k1 := 969) hX hb hL rfl rfl dL_law_964 dL_law_965 dL_law_966 rfl dL_law_967 dL_law_968 (by omega) rfl ?_
  refine V.cv2s (ci := 10) dL_law_969 lk_L_112 (by decide) rfl hR.1.1 (k_were hR hI (xs (n + 1)) (xs (n + 2)) (fun s q h1 h2 => ⟨rfl, (⟨q, h1, h2⟩ : ∃ q, Rp s x q (s_were G (xs (n + 1)) (xs (n + 2))).2 ∧ sG s = sG σ)⟩)) (by decide) (by decide) (by omega) (by omega) (by decide) (fun s hs2 => ?_)
  obtain ⟨q, h1, h2⟩ := hs2
  refine V.sts (σ' := wG s G) (by rw [← hg, ← h2]; rfl) ?_
  refine V.aload_n (i := 2) dL_law_972 rfl rfl ?_
  refine V.sarg (n := n) (c := 1) (k1 := 978) hX hb hL rfl rfl dL_law_973 dL_law_974 dL_law_975 rfl dL_law_976 dL_law_977 (by omega) rfl ?_
  refine V.sarg (n := n) (c := 2) (k1 := 983) hX hb hL rfl rfl dL_law_978 dL_law_979 dL_law_980 rfl dL_law_981 dL_law_982 (by omega) rfl ?_
  refine V.cq2D hE dL_law_983 lk_L_115 rfl (c_were hE (xs (n + 1)) (xs (n + 2)) hI ⟨rfl, rfl⟩) (by decide) (by decide) (by omega) (by omega) (Nat.le_of_ble_eq_true rfl) ?_
  refine V.icmp_eqT dL_law_986 rfl rfl ?_
  exact V.widen (by omega) (by omega) (kk _ q _ ⟨inv_were hI (xs (n + 1)) (xs (n + 2)), h1.wG _, rfl⟩)
set_option maxRecDepth 100000 in
theorem L_habit (hE : eF E = true) (hX : va_X b L xs (xS X) (eH E)) (hb : b < (eH E).size) (hL : L ≤ 2048) (hn : n + 4 ≤ L) (hZ : LZ x P G σ) (hc : nc + 8 ≤ 600000) (hs : ns + 64 ≤ 7302250)
    (kk : ∀ σ2 P2 G2, LZ x P2 G2 σ2 → V E X RL mn cL_law 4 ret 30 600000 7302250 Q σ2 (nc + 8) (ns + 64) 1142 [some (.ref b), some (.ref x), some (.ref (eQ E 48)), some (.int (nI n))] []) : V E X RL mn cL_law 4 ret 30 600000 7302250 Q σ nc ns 991 [some (.ref b), some (.ref x), some (.ref (eQ E 48)), some (.int (nI n))] [] := by
  obtain ⟨hI, hR, hg⟩ := hZ
  refine V.aload_n (i := 1) dL_law_991 rfl rfl ?_
  refine V.sarg (n := n) (c := 1) (k1 := 997) hX hb hL rfl rfl dL_law_992 dL_law_993 dL_law_994 rfl dL_law_995 dL_law_996 (by omega) rfl ?_
  refine V.cv1s (ci := 10) dL_law_997 lk_L_116 (by decide) rfl hR.1.1 (k_habit hR hI (xs (n + 1)) (fun s q h1 h2 => ⟨rfl, (⟨q, h1, h2⟩ : ∃ q, Rp s x q (s_habit G (xs (n + 1))).2 ∧ sG s = sG σ)⟩)) (by decide) (by decide) (by omega) (by omega) (by decide) (fun s hs2 => ?_)
  obtain ⟨q, h1, h2⟩ := hs2
  refine V.sts (σ' := wG s G) (by rw [← hg, ← h2]; rfl) ?_
  refine V.aload_n (i := 2) dL_law_1000 rfl rfl ?_
  refine V.sarg (n := n) (c := 1) (k1 := 1006) hX hb hL rfl rfl dL_law_1001 dL_law_1002 dL_law_1003 rfl dL_law_1004 dL_law_1005 (by omega) rfl ?_
  refine V.cq1D hE dL_law_1006 lk_L_119 rfl (c_habit hE (xs (n + 1)) hI ⟨rfl, rfl⟩) (by decide) (by decide) (by omega) (by omega) (Nat.le_of_ble_eq_true rfl) ?_
  refine V.icmp_eqT dL_law_1009 rfl rfl ?_
  exact V.widen (by omega) (by omega) (kk _ q _ ⟨inv_habit hI (xs (n + 1)), h1.wG _, rfl⟩)
set_option maxRecDepth 100000 in
theorem L_draw (hE : eF E = true) (hX : va_X b L xs (xS X) (eH E)) (hb : b < (eH E).size) (hL : L ≤ 2048) (hn : n + 4 ≤ L) (hZ : LZ x P G σ) (hc : nc + 8 ≤ 600000) (hs : ns + 64 ≤ 7302250)
    (kk : ∀ σ2 P2 G2, LZ x P2 G2 σ2 → V E X RL mn cL_law 4 ret 30 600000 7302250 Q σ2 (nc + 8) (ns + 64) 1142 [some (.ref b), some (.ref x), some (.ref (eQ E 48)), some (.int (nI n))] []) : V E X RL mn cL_law 4 ret 30 600000 7302250 Q σ nc ns 1014 [some (.ref b), some (.ref x), some (.ref (eQ E 48)), some (.int (nI n))] [] := by
  obtain ⟨hI, hR, hg⟩ := hZ
  refine V.aload_n (i := 1) dL_law_1014 rfl rfl ?_
  refine V.sarg (n := n) (c := 1) (k1 := 1020) hX hb hL rfl rfl dL_law_1015 dL_law_1016 dL_law_1017 rfl dL_law_1018 dL_law_1019 (by omega) rfl ?_
  refine V.sarg (n := n) (c := 2) (k1 := 1025) hX hb hL rfl rfl dL_law_1020 dL_law_1021 dL_law_1022 rfl dL_law_1023 dL_law_1024 (by omega) rfl ?_
  refine V.cv2s (ci := 10) dL_law_1025 lk_L_120 (by decide) rfl hR.1.1 (k_draw hR hI (xs (n + 1)) (xs (n + 2)) (fun s q h1 h2 => ⟨rfl, (⟨q, h1, h2⟩ : ∃ q, Rp s x q (s_draw G (xs (n + 1)) (xs (n + 2))).2 ∧ sG s = sG σ)⟩)) (by decide) (by decide) (by omega) (by omega) (by decide) (fun s hs2 => ?_)
  obtain ⟨q, h1, h2⟩ := hs2
  refine V.sts (σ' := wG s G) (by rw [← hg, ← h2]; rfl) ?_
  refine V.aload_n (i := 2) dL_law_1028 rfl rfl ?_
  refine V.sarg (n := n) (c := 1) (k1 := 1034) hX hb hL rfl rfl dL_law_1029 dL_law_1030 dL_law_1031 rfl dL_law_1032 dL_law_1033 (by omega) rfl ?_
  refine V.sarg (n := n) (c := 2) (k1 := 1039) hX hb hL rfl rfl dL_law_1034 dL_law_1035 dL_law_1036 rfl dL_law_1037 dL_law_1038 (by omega) rfl ?_
  refine V.cq2D hE dL_law_1039 lk_L_123 rfl (c_draw hE (xs (n + 1)) (xs (n + 2)) hI ⟨rfl, rfl⟩) (by decide) (by decide) (by omega) (by omega) (Nat.le_of_ble_eq_true rfl) ?_
  refine V.icmp_eqT dL_law_1042 rfl rfl ?_
  exact V.widen (by omega) (by omega) (kk _ q _ ⟨inv_draw hI (xs (n + 1)) (xs (n + 2)), h1.wG _, rfl⟩)
set_option maxRecDepth 100000 in
theorem L_rate (hE : eF E = true) (hX : va_X b L xs (xS X) (eH E)) (hb : b < (eH E).size) (hL : L ≤ 2048) (hn : n + 4 ≤ L) (hZ : LZ x P G σ) (hc : nc + 8 ≤ 600000) (hs : ns + 64 ≤ 7302250)
    (kk : ∀ σ2 P2 G2, LZ x P2 G2 σ2 → V E X RL mn cL_law 4 ret 30 600000 7302250 Q σ2 (nc + 8) (ns + 64) 1142 [some (.ref b), some (.ref x), some (.ref (eQ E 48)), some (.int (nI n))] []) : V E X RL mn cL_law 4 ret 30 600000 7302250 Q σ nc ns 1047 [some (.ref b), some (.ref x), some (.ref (eQ E 48)), some (.int (nI n))] [] := by
  obtain ⟨hI, hR, hg⟩ := hZ
  refine V.aload_n (i := 1) dL_law_1047 rfl rfl ?_
  refine V.cv0s (ci := 10) dL_law_1048 lk_L_124 (by decide) rfl hR.1.1 (k_rate hR hI  (fun s q h1 h2 => ⟨rfl, (⟨q, h1, h2⟩ : ∃ q, Rp s x q (s_rate G ).2 ∧ sG s = sG σ)⟩)) (by decide) (by decide) (by omega) (by omega) (by decide) (fun s hs2 => ?_)
  obtain ⟨q, h1, h2⟩ := hs2
  refine V.sts (σ' := wG s G) (by rw [← hg, ← h2]; rfl) ?_
  refine V.aload_n (i := 2) dL_law_1051 rfl rfl ?_
  refine V.cq0D hE dL_law_1052 lk_L_128 rfl (c_rate hE  hI ⟨rfl, rfl⟩) (by decide) (by decide) (by omega) (by omega) (Nat.le_of_ble_eq_true rfl) ?_
  refine V.icmp_eqT dL_law_1055 rfl rfl ?_
  exact V.widen (by omega) (by omega) (kk _ q _ ⟨inv_rate hI , h1.wG _, rfl⟩)
set_option maxRecDepth 100000 in
theorem L_tell (hE : eF E = true) (hX : va_X b L xs (xS X) (eH E)) (hb : b < (eH E).size) (hL : L ≤ 2048) (hn : n + 4 ≤ L) (hZ : LZ x P G σ) (hc : nc + 8 ≤ 600000) (hs : ns + 64 ≤ 7302250)
    (kk : ∀ σ2 P2 G2, LZ x P2 G2 σ2 → V E X RL mn cL_law 4 ret 30 600000 7302250 Q σ2 (nc + 8) (ns + 64) 1142 [some (.ref b), some (.ref x), some (.ref (eQ E 48)), some (.int (nI n))] []) : V E X RL mn cL_law 4 ret 30 600000 7302250 Q σ nc ns 1060 [some (.ref b), some (.ref x), some (.ref (eQ E 48)), some (.int (nI n))] [] := by
  obtain ⟨hI, hR, hg⟩ := hZ
  refine V.aload_n (i := 1) dL_law_1060 rfl rfl ?_
  refine V.sarg (n := n) (c := 1) (k1 := 1066) hX hb hL rfl rfl dL_law_1061 dL_law_1062 dL_law_1063 rfl dL_law_1064 dL_law_1065 (by omega) rfl ?_
  refine V.cv1s (ci := 10) dL_law_1066 lk_L_129 (by decide) rfl hR.1.1 (k_tell hR hI (xs (n + 1)) (fun s q h1 h2 => ⟨rfl, (⟨q, h1, h2⟩ : ∃ q, Rp s x q (s_tell G (xs (n + 1))).2 ∧ sG s = sG σ)⟩)) (by decide) (by decide) (by omega) (by omega) (by decide) (fun s hs2 => ?_)
  obtain ⟨q, h1, h2⟩ := hs2
  refine V.sts (σ' := wG s G) (by rw [← hg, ← h2]; rfl) ?_
  refine V.aload_n (i := 2) dL_law_1069 rfl rfl ?_
  refine V.sarg (n := n) (c := 1) (k1 := 1075) hX hb hL rfl rfl dL_law_1070 dL_law_1071 dL_law_1072 rfl dL_law_1073 dL_law_1074 (by omega) rfl ?_
  refine V.cq1D hE dL_law_1075 lk_L_132 rfl (c_tell hE (xs (n + 1)) hI ⟨rfl, rfl⟩) (by decide) (by decide) (by omega) (by omega) (Nat.le_of_ble_eq_true rfl) ?_
  refine V.icmp_eqT dL_law_1078 rfl rfl ?_
  exact V.widen (by omega) (by omega) (kk _ q _ ⟨inv_tell hI (xs (n + 1)), h1.wG _, rfl⟩)
set_option maxRecDepth 100000 in
theorem L_check (hE : eF E = true) (hX : va_X b L xs (xS X) (eH E)) (hb : b < (eH E).size) (hL : L ≤ 2048) (hn : n + 4 ≤ L) (hZ : LZ x P G σ) (hc : nc + 8 ≤ 600000) (hs : ns + 64 ≤ 7302250)
    (kk : ∀ σ2 P2 G2, LZ x P2 G2 σ2 → V E X RL mn cL_law 4 ret 30 600000 7302250 Q σ2 (nc + 8) (ns + 64) 1142 [some (.ref b), some (.ref x), some (.ref (eQ E 48)), some (.int (nI n))] []) : V E X RL mn cL_law 4 ret 30 600000 7302250 Q σ nc ns 1083 [some (.ref b), some (.ref x), some (.ref (eQ E 48)), some (.int (nI n))] [] := by
  obtain ⟨hI, hR, hg⟩ := hZ
  refine V.aload_n (i := 1) dL_law_1083 rfl rfl ?_
  refine V.cv0s (ci := 10) dL_law_1084 lk_L_133 (by decide) rfl hR.1.1 (k_check hR hI  (fun s q h1 h2 => ⟨rfl, (⟨q, h1, h2⟩ : ∃ q, Rp s x q (s_check G ).2 ∧ sG s = sG σ)⟩)) (by decide) (by decide) (by omega) (by omega) (by decide) (fun s hs2 => ?_)
  obtain ⟨q, h1, h2⟩ := hs2
  refine V.sts (σ' := wG s G) (by rw [← hg, ← h2]; rfl) ?_
  refine V.aload_n (i := 2) dL_law_1087 rfl rfl ?_
  refine V.cq0D hE dL_law_1088 lk_L_136 rfl (c_check hE  hI ⟨rfl, rfl⟩) (by decide) (by decide) (by omega) (by omega) (Nat.le_of_ble_eq_true rfl) ?_
  refine V.icmp_eqT dL_law_1091 rfl rfl ?_
  exact V.widen (by omega) (by omega) (kk _ q _ ⟨inv_check hI , h1.wG _, rfl⟩)
set_option maxRecDepth 100000 in
theorem L_count (hE : eF E = true) (hX : va_X b L xs (xS X) (eH E)) (hb : b < (eH E).size) (hL : L ≤ 2048) (hn : n + 4 ≤ L) (hZ : LZ x P G σ) (hc : nc + 8 ≤ 600000) (hs : ns + 64 ≤ 7302250)
    (kk : ∀ σ2 P2 G2, LZ x P2 G2 σ2 → V E X RL mn cL_law 4 ret 30 600000 7302250 Q σ2 (nc + 8) (ns + 64) 1142 [some (.ref b), some (.ref x), some (.ref (eQ E 48)), some (.int (nI n))] []) : V E X RL mn cL_law 4 ret 30 600000 7302250 Q σ nc ns 1096 [some (.ref b), some (.ref x), some (.ref (eQ E 48)), some (.int (nI n))] [] := by
  obtain ⟨hI, hR, hg⟩ := hZ
  refine V.aload_n (i := 1) dL_law_1096 rfl rfl ?_
  refine V.sarg (n := n) (c := 1) (k1 := 1102) hX hb hL rfl rfl dL_law_1097 dL_law_1098 dL_law_1099 rfl dL_law_1100 dL_law_1101 (by omega) rfl ?_
  refine V.cv1s (ci := 10) dL_law_1102 lk_L_137 (by decide) rfl hR.1.1 (k_count hR hI (xs (n + 1)) (fun s q h1 h2 => ⟨rfl, (⟨q, h1, h2⟩ : ∃ q, Rp s x q (s_count G (xs (n + 1))).2 ∧ sG s = sG σ)⟩)) (by decide) (by decide) (by omega) (by omega) (by decide) (fun s hs2 => ?_)
  obtain ⟨q, h1, h2⟩ := hs2
  refine V.sts (σ' := wG s G) (by rw [← hg, ← h2]; rfl) ?_
  refine V.aload_n (i := 2) dL_law_1105 rfl rfl ?_
  refine V.sarg (n := n) (c := 1) (k1 := 1111) hX hb hL rfl rfl dL_law_1106 dL_law_1107 dL_law_1108 rfl dL_law_1109 dL_law_1110 (by omega) rfl ?_
  refine V.cq1D hE dL_law_1111 lk_L_140 rfl (c_count hE (xs (n + 1)) hI ⟨rfl, rfl⟩) (by decide) (by decide) (by omega) (by omega) (Nat.le_of_ble_eq_true rfl) ?_
  refine V.icmp_eqT dL_law_1114 rfl rfl ?_
  exact V.widen (by omega) (by omega) (kk _ q _ ⟨inv_count hI (xs (n + 1)), h1.wG _, rfl⟩)
set_option maxRecDepth 100000 in
theorem L_found (hE : eF E = true) (hX : va_X b L xs (xS X) (eH E)) (hb : b < (eH E).size) (hL : L ≤ 2048) (hn : n + 4 ≤ L) (hZ : LZ x P G σ) (hc : nc + 8 ≤ 600000) (hs : ns + 64 ≤ 7302250)
    (kk : ∀ σ2 P2 G2, LZ x P2 G2 σ2 → V E X RL mn cL_law 4 ret 30 600000 7302250 Q σ2 (nc + 8) (ns + 64) 1142 [some (.ref b), some (.ref x), some (.ref (eQ E 48)), some (.int (nI n))] []) : V E X RL mn cL_law 4 ret 30 600000 7302250 Q σ nc ns 1119 [some (.ref b), some (.ref x), some (.ref (eQ E 48)), some (.int (nI n))] [] := by
  obtain ⟨hI, hR, hg⟩ := hZ
  refine V.aload_n (i := 1) dL_law_1119 rfl rfl ?_
  refine V.sarg (n := n) (c := 1) (k1 := 1125) hX hb hL rfl rfl dL_law_1120 dL_law_1121 dL_law_1122 rfl dL_law_1123 dL_law_1124 (by omega) rfl ?_
  refine V.cv1s (ci := 10) dL_law_1125 lk_L_141 (by decide) rfl hR.1.1 (k_found hR hI (xs (n + 1)) (fun s q h1 h2 => ⟨rfl, (⟨q, h1, h2⟩ : ∃ q, Rp s x q (s_found G (xs (n + 1))).2 ∧ sG s = sG σ)⟩)) (by decide) (by decide) (by omega) (by omega) (by decide) (fun s hs2 => ?_)
  obtain ⟨q, h1, h2⟩ := hs2
  refine V.sts (σ' := wG s G) (by rw [← hg, ← h2]; rfl) ?_
  refine V.aload_n (i := 2) dL_law_1128 rfl rfl ?_
  refine V.sarg (n := n) (c := 1) (k1 := 1134) hX hb hL rfl rfl dL_law_1129 dL_law_1130 dL_law_1131 rfl dL_law_1132 dL_law_1133 (by omega) rfl ?_
  refine V.cq1D hE dL_law_1134 lk_L_144 rfl (c_found hE (xs (n + 1)) ⟨rfl, rfl⟩) (by decide) (by decide) (by omega) (by omega) (Nat.le_of_ble_eq_true rfl) ?_
  refine V.icmp_eqT dL_law_1137 rfl rfl ?_
  exact V.widen (by omega) (by omega) (kk _ q _ ⟨inv_found hI (xs (n + 1)), h1.wG _, rfl⟩)
end LAW2
