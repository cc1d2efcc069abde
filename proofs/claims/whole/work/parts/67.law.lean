/-! ===== THE LAW: its cases, its loop (written by law.py) ===== -/
def mLaw (nm : String) : MD := (11, ⟨RL, nm, "([I)Z"⟩, code, 4, ret, 1)
def kL : KK := (1400, 600000, 7302250, 250, 3897)
abbrev lL (i : Nat) : LV := [some (vz 3), some (vr 0), some (vr 238), some (vi (i : Int))]
/-- the law answers true -/
def PT : PP := fun r _ _ _ => r = some (vi 1)
theorem rx (x : Int32) : R32 x.toInt := ⟨Int32.le_toInt x, Int32.toInt_lt x⟩
theorem b_m63 (z : Int) : i32 z &&& i32 63 = i32 (z % 64) := by
  apply Int32.toInt.inj
  have e1 : i32 z &&& i32 63 = nI ((i32 z).toBitVec.toNat % 2 ^ 6) := pk_and (i32 z) (m := i32 63) 6 (by decide +kernel)
  rw [e1, nI_toInt (by omega), i32_toInt (by omega)]
  have e2 : (i32 z).toBitVec.toNat = (z % 4294967296).toNat := by
    unfold i32
    rw [Int32.toBitVec_ofInt, BitVec.toNat_ofInt]
    rfl
  rw [e2]
  omega
section Law
variable {E : EV} {X : MD} {k : KK} {pc : Nat} {ls : LV} {st : List AV} {n : Nat} {G : GG} {M : MM} {Q : PP}
theorem w_aldz {j : Fin 4} {z : Nat} (hd : decode (mB X) pc = .ok (.aload_n j, 1)) (hl : ls[j.val]? = some (some (vz z))) (h : Wp E X k (pc + 1) ls (vz z :: st) n G M Q) : Wp E X k pc ls st n G M Q := by
  intro p l e s m args below meth c H locs lsA c1 c2 c3 c4 c5 c6
  exact lv_aload_n c1.1 c1.2.1 hd rfl (c5.get hl) (h p l e s m args below meth c H locs lsA c1 c2 c3 c4 c5 c6)
theorem l_sld {j : Nat} {q : Int} (hd : decode (mB X) pc = .ok (.iaload, 1)) (e : q = (j : Int)) (hj : j < eL E) (hL : eL E ≤ 384) (h : Wp E X k (pc + 1) ls (vi (eX E j).toInt :: st) n G M Q) : Wp E X k pc ls (vi q :: vz 3 :: st) n G M Q := by
  subst e
  exact w_sld hd hj (by omega) h
theorem l_call {stk : List AV} {i a d : Nat} {Y : MD} {As : List AV} {P : Int → MM → Prop} (hd : decode (mB X) pc = .ok (.invokevirtual i, 3)) (hY : MOK Y) (hl : LVk (mO X) i Y) (hc : Cx E Y d (vr a :: As) M P) (hs : stk = As.reverse ++ vr a :: st) (hg : (G0 a).1 = mO Y + 4) (ha : a < N0) (ho : mO Y < 11) (hn : As.length = mN Y) (hk : d < k.1 ∧ k.2.2.2.1 + 0 ≤ k.2.1 ∧ k.2.2.2.2 + 0 ≤ k.2.2.1) (hst : scat st ≤ 8)
    (h : ∀ (z : Int) (m : MM), R32 z → P z m → Wp E X k (pc + 3) ls (vi z :: st) N0 G0 m Q) : Wp E X k pc ls stk N0 G0 M Q := by
  refine w_callV hd hY hl hc hs hg ha ho hn hk hst (fun r n' G' M' hr hq => ?_)
  obtain ⟨z, rfl, rfl, rfl, hp⟩ := hq
  exact h z M' (hr.1 z rfl) hp
theorem l_callL {stk : List AV} {i a d : Nat} {Y : MD} {As : List AV} {P : Int → MM → Prop} (hd : decode (mB X) pc = .ok (.invokevirtual i, 3)) (hY : MOK Y) (hl : LVk (mO X) i Y) (hc : Cxl E Y d (vr a :: As) M P) (hs : stk = As.reverse ++ vr a :: st) (hg : (G0 a).1 = mO Y + 4) (ha : a < N0) (ho : mO Y < 11) (hn : As.length = mN Y) (hk : d < k.1 ∧ k.2.2.2.1 + 0 ≤ k.2.1 ∧ k.2.2.2.2 + 0 ≤ k.2.2.1) (hst : scat st ≤ 8)
    (h : ∀ (z : Int) (m : MM), R64 z → P z m → Wp E X k (pc + 3) ls (vl z :: st) N0 G0 m Q) : Wp E X k pc ls stk N0 G0 M Q := by
  refine w_callV hd hY hl hc hs hg ha ho hn hk hst (fun r n' G' M' hr hq => ?_)
  obtain ⟨z, rfl, rfl, rfl, hp⟩ := hq
  exact h z M' (hr.2 z rfl) hp
end Law
theorem law_0 {nm : String} {E : EV} {M : MM} {p : PS} {i : Nat} {Q : PP} (hL : eL E ≤ 384) (hi : i + 6 ≤ eL E) (J : INV M p) (nx : ∀ m p2, INV m p2 → Wp E (mLaw nm) kL 1476 (lL i) [] N0 G0 m Q) : Wp E (mLaw nm) kL 212 (lL i) [] N0 G0 M Q := by
  refine w_aload_n dL_law_212 rfl ?_
  refine w_aldz dL_law_213 rfl ?_
  refine w_iload_n dL_law_214 rfl ?_
  refine w_iconst dL_law_215 ?_
  refine w_iadd dL_law_216 ?_
  refine l_sld (j := i + 1) dL_law_217 (by omega) (by omega) hL ?_
  refine w_aldz dL_law_218 rfl ?_
  refine w_iload_n dL_law_219 rfl ?_
  refine w_iconst dL_law_220 ?_
  refine w_iadd dL_law_221 ?_
  refine l_sld (j := i + 2) dL_law_222 (by omega) (by omega) hL ?_
  refine w_aldz dL_law_223 rfl ?_
  refine w_iload_n dL_law_224 rfl ?_
  refine w_iconst dL_law_225 ?_
  refine w_iadd dL_law_226 ?_
  refine l_sld (j := i + 3) dL_law_227 (by omega) (by omega) hL ?_
  refine l_call dL_law_228 ok_X9_row lv11_13 (c_X9_row J.1 (rx _) (rx _) (rx _)) rfl (congrArg Prod.fst g0_0) (by decide) (by decide) rfl (by decide) (Nat.le_of_ble_eq_true rfl) (fun z1 m1 r1 k1 => ?_)
  refine w_aload_n dL_law_231 rfl ?_
  refine w_aldz dL_law_232 rfl ?_
  refine w_iload_n dL_law_233 rfl ?_
  refine w_iconst dL_law_234 ?_
  refine w_iadd dL_law_235 ?_
  refine l_sld (j := i + 1) dL_law_236 (by omega) (by omega) hL ?_
  refine w_aldz dL_law_237 rfl ?_
  refine w_iload_n dL_law_238 rfl ?_
  refine w_iconst dL_law_239 ?_
  refine w_iadd dL_law_240 ?_
  refine l_sld (j := i + 2) dL_law_241 (by omega) (by omega) hL ?_
  refine w_aldz dL_law_242 rfl ?_
  refine w_iload_n dL_law_243 rfl ?_
  refine w_iconst dL_law_244 ?_
  refine w_iadd dL_law_245 ?_
  refine l_sld (j := i + 3) dL_law_246 (by omega) (by omega) hL ?_
  refine l_call dL_law_247 ok_X10_row lv11_17 (c_X10_row (J.ref k1) (rx _) (rx _) (rx _)) rfl (congrArg Prod.fst g0_238) (by decide) (by decide) rfl (by decide) (Nat.le_of_ble_eq_true rfl) (fun z2 m2 r2 k2 => ?_)
  obtain ⟨e, J2⟩ := INV.step k1 k2 (POK_row J.2.2 _ _ _)
  exact w_icmp_eq (tgt := 1476) dL_law_250 (by decide) r1 r2 (fun _ => nx m2 _ J2) (fun h => absurd e h)
theorem law_1 {nm : String} {E : EV} {M : MM} {p : PS} {i : Nat} {Q : PP} (hL : eL E ≤ 384) (hi : i + 6 ≤ eL E) (J : INV M p) (nx : ∀ m p2, INV m p2 → Wp E (mLaw nm) kL 1476 (lL i) [] N0 G0 m Q) : Wp E (mLaw nm) kL 255 (lL i) [] N0 G0 M Q := by
  refine w_aload_n dL_law_255 rfl ?_
  refine w_aldz dL_law_256 rfl ?_
  refine w_iload_n dL_law_257 rfl ?_
  refine w_iconst dL_law_258 ?_
  refine w_iadd dL_law_259 ?_
  refine l_sld (j := i + 1) dL_law_260 (by omega) (by omega) hL ?_
  refine w_aldz dL_law_261 rfl ?_
  refine w_iload_n dL_law_262 rfl ?_
  refine w_iconst dL_law_263 ?_
  refine w_iadd dL_law_264 ?_
  refine l_sld (j := i + 2) dL_law_265 (by omega) (by omega) hL ?_
  refine w_aldz dL_law_266 rfl ?_
  refine w_iload_n dL_law_267 rfl ?_
  refine w_iconst dL_law_268 ?_
  refine w_iadd dL_law_269 ?_
  refine l_sld (j := i + 3) dL_law_270 (by omega) (by omega) hL ?_
  refine l_call dL_law_271 ok_X9_set lv11_18 (c_X9_set J.1 J.2.2 (rx _) (rx _) (rx _)) rfl (congrArg Prod.fst g0_0) (by decide) (by decide) rfl (by decide) (Nat.le_of_ble_eq_true rfl) (fun z1 m1 r1 k1 => ?_)
  refine w_aload_n dL_law_274 rfl ?_
  refine w_aldz dL_law_275 rfl ?_
  refine w_iload_n dL_law_276 rfl ?_
  refine w_iconst dL_law_277 ?_
  refine w_iadd dL_law_278 ?_
  refine l_sld (j := i + 1) dL_law_279 (by omega) (by omega) hL ?_
  refine w_aldz dL_law_280 rfl ?_
  refine w_iload_n dL_law_281 rfl ?_
  refine w_iconst dL_law_282 ?_
  refine w_iadd dL_law_283 ?_
  refine l_sld (j := i + 2) dL_law_284 (by omega) (by omega) hL ?_
  refine w_aldz dL_law_285 rfl ?_
  refine w_iload_n dL_law_286 rfl ?_
  refine w_iconst dL_law_287 ?_
  refine w_iadd dL_law_288 ?_
  refine l_sld (j := i + 3) dL_law_289 (by omega) (by omega) hL ?_
  refine l_call dL_law_290 ok_X10_set lv11_21 (c_X10_set (J.ref k1) J.2.2 (rx _) (rx _) (rx _)) rfl (congrArg Prod.fst g0_238) (by decide) (by decide) rfl (by decide) (Nat.le_of_ble_eq_true rfl) (fun z2 m2 r2 k2 => ?_)
  obtain ⟨e, J2⟩ := INV.step k1 k2 (POK_set J.2.2 _ _ _)
  exact w_icmp_eq (tgt := 1476) dL_law_293 (by decide) r1 r2 (fun _ => nx m2 _ J2) (fun h => absurd e h)
theorem law_2 {nm : String} {E : EV} {M : MM} {p : PS} {i : Nat} {Q : PP} (hL : eL E ≤ 384) (hi : i + 6 ≤ eL E) (J : INV M p) (nx : ∀ m p2, INV m p2 → Wp E (mLaw nm) kL 1476 (lL i) [] N0 G0 m Q) : Wp E (mLaw nm) kL 298 (lL i) [] N0 G0 M Q := by
  refine w_aload_n dL_law_298 rfl ?_
  refine w_aldz dL_law_299 rfl ?_
  refine w_iload_n dL_law_300 rfl ?_
  refine w_iconst dL_law_301 ?_
  refine w_iadd dL_law_302 ?_
  refine l_sld (j := i + 1) dL_law_303 (by omega) (by omega) hL ?_
  refine w_aldz dL_law_304 rfl ?_
  refine w_iload_n dL_law_305 rfl ?_
  refine w_iconst dL_law_306 ?_
  refine w_iadd dL_law_307 ?_
  refine l_sld (j := i + 2) dL_law_308 (by omega) (by omega) hL ?_
  refine w_aldz dL_law_309 rfl ?_
  refine w_iload_n dL_law_310 rfl ?_
  refine w_iconst dL_law_311 ?_
  refine w_iadd dL_law_312 ?_
  refine l_sld (j := i + 3) dL_law_313 (by omega) (by omega) hL ?_
  refine w_aldz dL_law_314 rfl ?_
  refine w_iload_n dL_law_315 rfl ?_
  refine w_iconst dL_law_316 ?_
  refine w_iadd dL_law_317 ?_
  refine l_sld (j := i + 4) dL_law_318 (by omega) (by omega) hL ?_
  refine w_aldz dL_law_319 rfl ?_
  refine w_iload_n dL_law_320 rfl ?_
  refine w_iconst dL_law_321 ?_
  refine w_iadd dL_law_322 ?_
  refine l_sld (j := i + 5) dL_law_323 (by omega) (by omega) hL ?_
  refine l_call dL_law_324 ok_X9_copy lv11_22 (c_X9_copy J.1 J.2.2 (rx _) (rx _) (rx _) (rx _) (rx _)) rfl (congrArg Prod.fst g0_0) (by decide) (by decide) rfl (by decide) (Nat.le_of_ble_eq_true rfl) (fun z1 m1 r1 k1 => ?_)
  refine w_aload_n dL_law_327 rfl ?_
  refine w_aldz dL_law_328 rfl ?_
  refine w_iload_n dL_law_329 rfl ?_
  refine w_iconst dL_law_330 ?_
  refine w_iadd dL_law_331 ?_
  refine l_sld (j := i + 1) dL_law_332 (by omega) (by omega) hL ?_
  refine w_aldz dL_law_333 rfl ?_
  refine w_iload_n dL_law_334 rfl ?_
  refine w_iconst dL_law_335 ?_
  refine w_iadd dL_law_336 ?_
  refine l_sld (j := i + 2) dL_law_337 (by omega) (by omega) hL ?_
  refine w_aldz dL_law_338 rfl ?_
  refine w_iload_n dL_law_339 rfl ?_
  refine w_iconst dL_law_340 ?_
  refine w_iadd dL_law_341 ?_
  refine l_sld (j := i + 3) dL_law_342 (by omega) (by omega) hL ?_
  refine w_aldz dL_law_343 rfl ?_
  refine w_iload_n dL_law_344 rfl ?_
  refine w_iconst dL_law_345 ?_
  refine w_iadd dL_law_346 ?_
  refine l_sld (j := i + 4) dL_law_347 (by omega) (by omega) hL ?_
  refine w_aldz dL_law_348 rfl ?_
  refine w_iload_n dL_law_349 rfl ?_
  refine w_iconst dL_law_350 ?_
  refine w_iadd dL_law_351 ?_
  refine l_sld (j := i + 5) dL_law_352 (by omega) (by omega) hL ?_
  refine l_call dL_law_353 ok_X10_copy lv11_26 (c_X10_copy (J.ref k1) J.2.2 (rx _) (rx _) (rx _) (rx _) (rx _)) rfl (congrArg Prod.fst g0_238) (by decide) (by decide) rfl (by decide) (Nat.le_of_ble_eq_true rfl) (fun z2 m2 r2 k2 => ?_)
  obtain ⟨e, J2⟩ := INV.step k1 k2 (POK_copy J.2.2 _ _ _ _ _)
  exact w_icmp_eq (tgt := 1476) dL_law_356 (by decide) r1 r2 (fun _ => nx m2 _ J2) (fun h => absurd e h)
theorem law_3 {nm : String} {E : EV} {M : MM} {p : PS} {i : Nat} {Q : PP} (hL : eL E ≤ 384) (hi : i + 6 ≤ eL E) (J : INV M p) (nx : ∀ m p2, INV m p2 → Wp E (mLaw nm) kL 1476 (lL i) [] N0 G0 m Q) : Wp E (mLaw nm) kL 361 (lL i) [] N0 G0 M Q := by
  refine w_aload_n dL_law_361 rfl ?_
  refine w_aldz dL_law_362 rfl ?_
  refine w_iload_n dL_law_363 rfl ?_
  refine w_iconst dL_law_364 ?_
  refine w_iadd dL_law_365 ?_
  refine l_sld (j := i + 1) dL_law_366 (by omega) (by omega) hL ?_
  refine l_call dL_law_367 ok_X9_drop lv11_27 (c_X9_drop J.1 J.2.2 (rx _)) rfl (congrArg Prod.fst g0_0) (by decide) (by decide) rfl (by decide) (Nat.le_of_ble_eq_true rfl) (fun z1 m1 r1 k1 => ?_)
  refine w_aload_n dL_law_370 rfl ?_
  refine w_aldz dL_law_371 rfl ?_
  refine w_iload_n dL_law_372 rfl ?_
  refine w_iconst dL_law_373 ?_
  refine w_iadd dL_law_374 ?_
  refine l_sld (j := i + 1) dL_law_375 (by omega) (by omega) hL ?_
  refine l_call dL_law_376 ok_X10_drop lv11_31 (c_X10_drop (J.ref k1) J.2.2 (rx _)) rfl (congrArg Prod.fst g0_238) (by decide) (by decide) rfl (by decide) (Nat.le_of_ble_eq_true rfl) (fun z2 m2 r2 k2 => ?_)
  obtain ⟨e, J2⟩ := INV.step k1 k2 (POK_drop J.2.2 _)
  exact w_icmp_eq (tgt := 1476) dL_law_379 (by decide) r1 r2 (fun _ => nx m2 _ J2) (fun h => absurd e h)
theorem law_4 {nm : String} {E : EV} {M : MM} {p : PS} {i : Nat} {Q : PP} (hL : eL E ≤ 384) (hi : i + 6 ≤ eL E) (J : INV M p) (nx : ∀ m p2, INV m p2 → Wp E (mLaw nm) kL 1476 (lL i) [] N0 G0 m Q) : Wp E (mLaw nm) kL 384 (lL i) [] N0 G0 M Q := by
  refine w_aload_n dL_law_384 rfl ?_
  refine w_aldz dL_law_385 rfl ?_
  refine w_iload_n dL_law_386 rfl ?_
  refine w_iconst dL_law_387 ?_
  refine w_iadd dL_law_388 ?_
  refine l_sld (j := i + 1) dL_law_389 (by omega) (by omega) hL ?_
  refine l_call dL_law_390 ok_X9_feed lv11_32 (c_X9_feed J.1 J.2.2 (rx _)) rfl (congrArg Prod.fst g0_0) (by decide) (by decide) rfl (by decide) (Nat.le_of_ble_eq_true rfl) (fun z1 m1 r1 k1 => ?_)
  refine w_aload_n dL_law_393 rfl ?_
  refine w_aldz dL_law_394 rfl ?_
  refine w_iload_n dL_law_395 rfl ?_
  refine w_iconst dL_law_396 ?_
  refine w_iadd dL_law_397 ?_
  refine l_sld (j := i + 1) dL_law_398 (by omega) (by omega) hL ?_
  refine l_call dL_law_399 ok_X10_feed lv11_35 (c_X10_feed (J.ref k1) J.2.2 (rx _)) rfl (congrArg Prod.fst g0_238) (by decide) (by decide) rfl (by decide) (Nat.le_of_ble_eq_true rfl) (fun z2 m2 r2 k2 => ?_)
  obtain ⟨e, J2⟩ := INV.step k1 k2 (POK_feed J.2.2 _)
  exact w_icmp_eq (tgt := 1476) dL_law_402 (by decide) r1 r2 (fun _ => nx m2 _ J2) (fun h => absurd e h)
theorem law_5 {nm : String} {E : EV} {M : MM} {p : PS} {i : Nat} {Q : PP} (hL : eL E ≤ 384) (hi : i + 6 ≤ eL E) (J : INV M p) (nx : ∀ m p2, INV m p2 → Wp E (mLaw nm) kL 1476 (lL i) [] N0 G0 m Q) : Wp E (mLaw nm) kL 407 (lL i) [] N0 G0 M Q := by
  refine w_aload_n dL_law_407 rfl ?_
  refine l_call dL_law_408 ok_X9_sky lv11_36 (c_X9_sky J.1 J.2.2) rfl (congrArg Prod.fst g0_0) (by decide) (by decide) rfl (by decide) (Nat.le_of_ble_eq_true rfl) (fun z1 m1 r1 k1 => ?_)
  refine w_aload_n dL_law_411 rfl ?_
  refine l_call dL_law_412 ok_X10_sky lv11_40 (c_X10_sky (J.ref k1) J.2.2) rfl (congrArg Prod.fst g0_238) (by decide) (by decide) rfl (by decide) (Nat.le_of_ble_eq_true rfl) (fun z2 m2 r2 k2 => ?_)
  obtain ⟨e, J2⟩ := INV.step k1 k2 (POK_sky J.2.2)
  exact w_icmp_eq (tgt := 1476) dL_law_415 (by decide) r1 r2 (fun _ => nx m2 _ J2) (fun h => absurd e h)
theorem law_6 {nm : String} {E : EV} {M : MM} {p : PS} {i : Nat} {Q : PP} (hL : eL E ≤ 384) (hi : i + 6 ≤ eL E) (J : INV M p) (nx : ∀ m p2, INV m p2 → Wp E (mLaw nm) kL 1476 (lL i) [] N0 G0 m Q) : Wp E (mLaw nm) kL 420 (lL i) [] N0 G0 M Q := by
  refine w_aload_n dL_law_420 rfl ?_
  refine l_call dL_law_421 ok_X9_fault lv11_41 (c_X9_fault J.1) rfl (congrArg Prod.fst g0_0) (by decide) (by decide) rfl (by decide) (Nat.le_of_ble_eq_true rfl) (fun z1 m1 r1 k1 => ?_)
  refine w_aload_n dL_law_424 rfl ?_
  refine l_call dL_law_425 ok_X10_fault lv11_44 (c_X10_fault (J.ref k1)) rfl (congrArg Prod.fst g0_238) (by decide) (by decide) rfl (by decide) (Nat.le_of_ble_eq_true rfl) (fun z2 m2 r2 k2 => ?_)
  obtain ⟨e, J2⟩ := INV.step k1 k2 J.2.2
  exact w_icmp_eq (tgt := 1476) dL_law_428 (by decide) r1 r2 (fun _ => nx m2 _ J2) (fun h => absurd e h)
theorem law_7 {nm : String} {E : EV} {M : MM} {p : PS} {i : Nat} {Q : PP} (hL : eL E ≤ 384) (hi : i + 6 ≤ eL E) (J : INV M p) (nx : ∀ m p2, INV m p2 → Wp E (mLaw nm) kL 1476 (lL i) [] N0 G0 m Q) : Wp E (mLaw nm) kL 433 (lL i) [] N0 G0 M Q := by
  refine w_aload_n dL_law_433 rfl ?_
  refine l_call dL_law_434 ok_X9_undo lv11_45 (c_X9_undo J.1 J.2.2) rfl (congrArg Prod.fst g0_0) (by decide) (by decide) rfl (by decide) (Nat.le_of_ble_eq_true rfl) (fun z1 m1 r1 k1 => ?_)
  refine w_aload_n dL_law_437 rfl ?_
  refine l_call dL_law_438 ok_X10_undo lv11_48 (c_X10_undo (J.ref k1) J.2.2) rfl (congrArg Prod.fst g0_238) (by decide) (by decide) rfl (by decide) (Nat.le_of_ble_eq_true rfl) (fun z2 m2 r2 k2 => ?_)
  obtain ⟨e, J2⟩ := INV.step k1 k2 (POK_undo J.2.2)
  exact w_icmp_eq (tgt := 1476) dL_law_441 (by decide) r1 r2 (fun _ => nx m2 _ J2) (fun h => absurd e h)
theorem law_8 {nm : String} {E : EV} {M : MM} {p : PS} {i : Nat} {Q : PP} (hL : eL E ≤ 384) (hi : i + 6 ≤ eL E) (J : INV M p) (nx : ∀ m p2, INV m p2 → Wp E (mLaw nm) kL 1476 (lL i) [] N0 G0 m Q) : Wp E (mLaw nm) kL 446 (lL i) [] N0 G0 M Q := by
  refine w_aload_n dL_law_446 rfl ?_
  refine w_aldz dL_law_447 rfl ?_
  refine w_iload_n dL_law_448 rfl ?_
  refine w_iconst dL_law_449 ?_
  refine w_iadd dL_law_450 ?_
  refine l_sld (j := i + 1) dL_law_451 (by omega) (by omega) hL ?_
  refine l_call dL_law_452 ok_X9_days lv11_49 (c_X9_days J.1 J.2.2 (rx _)) rfl (congrArg Prod.fst g0_0) (by decide) (by decide) rfl (by decide) (Nat.le_of_ble_eq_true rfl) (fun z1 m1 r1 k1 => ?_)
  refine w_aload_n dL_law_455 rfl ?_
  refine w_aldz dL_law_456 rfl ?_
  refine w_iload_n dL_law_457 rfl ?_
  refine w_iconst dL_law_458 ?_
  refine w_iadd dL_law_459 ?_
  refine l_sld (j := i + 1) dL_law_460 (by omega) (by omega) hL ?_
  refine l_call dL_law_461 ok_X10_days lv11_52 (c_X10_days (J.ref k1) J.2.2 (rx _)) rfl (congrArg Prod.fst g0_238) (by decide) (by decide) rfl (by decide) (Nat.le_of_ble_eq_true rfl) (fun z2 m2 r2 k2 => ?_)
  obtain ⟨e, J2⟩ := INV.step k1 k2 (POK_days J.2.2 _)
  exact w_icmp_eq (tgt := 1476) dL_law_464 (by decide) r1 r2 (fun _ => nx m2 _ J2) (fun h => absurd e h)
theorem law_9 {nm : String} {E : EV} {M : MM} {p : PS} {i : Nat} {Q : PP} (hL : eL E ≤ 384) (hi : i + 6 ≤ eL E) (J : INV M p) (nx : ∀ m p2, INV m p2 → Wp E (mLaw nm) kL 1476 (lL i) [] N0 G0 m Q) : Wp E (mLaw nm) kL 469 (lL i) [] N0 G0 M Q := by
  refine w_aload_n dL_law_469 rfl ?_
  refine w_aldz dL_law_470 rfl ?_
  refine w_iload_n dL_law_471 rfl ?_
  refine w_iconst dL_law_472 ?_
  refine w_iadd dL_law_473 ?_
  refine l_sld (j := i + 1) dL_law_474 (by omega) (by omega) hL ?_
  refine l_call dL_law_475 ok_X9_wind lv11_53 (c_X9_wind J.1 J.2.2 (rx _)) rfl (congrArg Prod.fst g0_0) (by decide) (by decide) rfl (by decide) (Nat.le_of_ble_eq_true rfl) (fun z1 m1 r1 k1 => ?_)
  refine w_aload_n dL_law_478 rfl ?_
  refine w_aldz dL_law_479 rfl ?_
  refine w_iload_n dL_law_480 rfl ?_
  refine w_iconst dL_law_481 ?_
  refine w_iadd dL_law_482 ?_
  refine l_sld (j := i + 1) dL_law_483 (by omega) (by omega) hL ?_
  refine l_call dL_law_484 ok_X10_wind lv11_56 (c_X10_wind (J.ref k1) J.2.2 (rx _)) rfl (congrArg Prod.fst g0_238) (by decide) (by decide) rfl (by decide) (Nat.le_of_ble_eq_true rfl) (fun z2 m2 r2 k2 => ?_)
  obtain ⟨e, J2⟩ := INV.step k1 k2 (POK_wind J.2.2 _)
  exact w_icmp_eq (tgt := 1476) dL_law_487 (by decide) r1 r2 (fun _ => nx m2 _ J2) (fun h => absurd e h)
theorem law_10 {nm : String} {E : EV} {M : MM} {p : PS} {i : Nat} {Q : PP} (hL : eL E ≤ 384) (hi : i + 6 ≤ eL E) (J : INV M p) (nx : ∀ m p2, INV m p2 → Wp E (mLaw nm) kL 1476 (lL i) [] N0 G0 m Q) : Wp E (mLaw nm) kL 492 (lL i) [] N0 G0 M Q := by
  refine w_aload_n dL_law_492 rfl ?_
  refine w_aldz dL_law_493 rfl ?_
  refine w_iload_n dL_law_494 rfl ?_
  refine w_iconst dL_law_495 ?_
  refine w_iadd dL_law_496 ?_
  refine l_sld (j := i + 1) dL_law_497 (by omega) (by omega) hL ?_
  refine w_aldz dL_law_498 rfl ?_
  refine w_iload_n dL_law_499 rfl ?_
  refine w_iconst dL_law_500 ?_
  refine w_iadd dL_law_501 ?_
  refine l_sld (j := i + 2) dL_law_502 (by omega) (by omega) hL ?_
  refine l_call dL_law_503 ok_X9_tow lv11_57 (c_X9_tow J.1 J.2.2 (rx _) (rx _)) rfl (congrArg Prod.fst g0_0) (by decide) (by decide) rfl (by decide) (Nat.le_of_ble_eq_true rfl) (fun z1 m1 r1 k1 => ?_)
  refine w_aload_n dL_law_506 rfl ?_
  refine w_aldz dL_law_507 rfl ?_
  refine w_iload_n dL_law_508 rfl ?_
  refine w_iconst dL_law_509 ?_
  refine w_iadd dL_law_510 ?_
  refine l_sld (j := i + 1) dL_law_511 (by omega) (by omega) hL ?_
  refine w_aldz dL_law_512 rfl ?_
  refine w_iload_n dL_law_513 rfl ?_
  refine w_iconst dL_law_514 ?_
  refine w_iadd dL_law_515 ?_
  refine l_sld (j := i + 2) dL_law_516 (by omega) (by omega) hL ?_
  refine l_call dL_law_517 ok_X10_tow lv11_61 (c_X10_tow (J.ref k1) J.2.2 (rx _) (rx _)) rfl (congrArg Prod.fst g0_238) (by decide) (by decide) rfl (by decide) (Nat.le_of_ble_eq_true rfl) (fun z2 m2 r2 k2 => ?_)
  obtain ⟨e, J2⟩ := INV.step k1 k2 (POK_tow J.2.2 _ _)
  exact w_icmp_eq (tgt := 1476) dL_law_520 (by decide) r1 r2 (fun _ => nx m2 _ J2) (fun h => absurd e h)
theorem law_11 {nm : String} {E : EV} {M : MM} {p : PS} {i : Nat} {Q : PP} (hL : eL E ≤ 384) (hi : i + 6 ≤ eL E) (J : INV M p) (nx : ∀ m p2, INV m p2 → Wp E (mLaw nm) kL 1476 (lL i) [] N0 G0 m Q) : Wp E (mLaw nm) kL 525 (lL i) [] N0 G0 M Q := by
  refine w_aload_n dL_law_525 rfl ?_
  refine w_aldz dL_law_526 rfl ?_
  refine w_iload_n dL_law_527 rfl ?_
  refine w_iconst dL_law_528 ?_
  refine w_iadd dL_law_529 ?_
  refine l_sld (j := i + 1) dL_law_530 (by omega) (by omega) hL ?_
  refine l_call dL_law_531 ok_X9_silk lv11_62 (c_X9_silk J.1 J.2.2 (rx _)) rfl (congrArg Prod.fst g0_0) (by decide) (by decide) rfl (by decide) (Nat.le_of_ble_eq_true rfl) (fun z1 m1 r1 k1 => ?_)
  refine w_aload_n dL_law_534 rfl ?_
  refine w_aldz dL_law_535 rfl ?_
  refine w_iload_n dL_law_536 rfl ?_
  refine w_iconst dL_law_537 ?_
  refine w_iadd dL_law_538 ?_
  refine l_sld (j := i + 1) dL_law_539 (by omega) (by omega) hL ?_
  refine l_call dL_law_540 ok_X10_silk lv11_65 (c_X10_silk (J.ref k1) J.2.2 (rx _)) rfl (congrArg Prod.fst g0_238) (by decide) (by decide) rfl (by decide) (Nat.le_of_ble_eq_true rfl) (fun z2 m2 r2 k2 => ?_)
  obtain ⟨e, J2⟩ := INV.step k1 k2 (POK_silk J.2.2 _)
  exact w_icmp_eq (tgt := 1476) dL_law_543 (by decide) r1 r2 (fun _ => nx m2 _ J2) (fun h => absurd e h)
theorem law_12 {nm : String} {E : EV} {M : MM} {p : PS} {i : Nat} {Q : PP} (hL : eL E ≤ 384) (hi : i + 6 ≤ eL E) (J : INV M p) (nx : ∀ m p2, INV m p2 → Wp E (mLaw nm) kL 1476 (lL i) [] N0 G0 m Q) : Wp E (mLaw nm) kL 548 (lL i) [] N0 G0 M Q := by
  refine w_aload_n dL_law_548 rfl ?_
  refine w_aldz dL_law_549 rfl ?_
  refine w_iload_n dL_law_550 rfl ?_
  refine w_iconst dL_law_551 ?_
  refine w_iadd dL_law_552 ?_
  refine l_sld (j := i + 1) dL_law_553 (by omega) (by omega) hL ?_
  refine w_aldz dL_law_554 rfl ?_
  refine w_iload_n dL_law_555 rfl ?_
  refine w_iconst dL_law_556 ?_
  refine w_iadd dL_law_557 ?_
  refine l_sld (j := i + 2) dL_law_558 (by omega) (by omega) hL ?_
  refine l_call dL_law_559 ok_X9_sign lv11_66 (c_X9_sign J.1 J.2.2 (rx _) (rx _)) rfl (congrArg Prod.fst g0_0) (by decide) (by decide) rfl (by decide) (Nat.le_of_ble_eq_true rfl) (fun z1 m1 r1 k1 => ?_)
  refine w_aload_n dL_law_562 rfl ?_
  refine w_aldz dL_law_563 rfl ?_
  refine w_iload_n dL_law_564 rfl ?_
  refine w_iconst dL_law_565 ?_
  refine w_iadd dL_law_566 ?_
  refine l_sld (j := i + 1) dL_law_567 (by omega) (by omega) hL ?_
  refine w_aldz dL_law_568 rfl ?_
  refine w_iload_n dL_law_569 rfl ?_
  refine w_iconst dL_law_570 ?_
  refine w_iadd dL_law_571 ?_
  refine l_sld (j := i + 2) dL_law_572 (by omega) (by omega) hL ?_
  refine l_call dL_law_573 ok_X10_sign lv11_69 (c_X10_sign (J.ref k1) J.2.2 (rx _) (rx _)) rfl (congrArg Prod.fst g0_238) (by decide) (by decide) rfl (by decide) (Nat.le_of_ble_eq_true rfl) (fun z2 m2 r2 k2 => ?_)
  obtain ⟨e, J2⟩ := INV.step k1 k2 (POK_sign J.2.2 _ _)
  exact w_icmp_eq (tgt := 1476) dL_law_576 (by decide) r1 r2 (fun _ => nx m2 _ J2) (fun h => absurd e h)
theorem law_13 {nm : String} {E : EV} {M : MM} {p : PS} {i : Nat} {Q : PP} (hL : eL E ≤ 384) (hi : i + 6 ≤ eL E) (J : INV M p) (nx : ∀ m p2, INV m p2 → Wp E (mLaw nm) kL 1476 (lL i) [] N0 G0 m Q) : Wp E (mLaw nm) kL 581 (lL i) [] N0 G0 M Q := by
  refine w_aload_n dL_law_581 rfl ?_
  refine w_aldz dL_law_582 rfl ?_
  refine w_iload_n dL_law_583 rfl ?_
  refine w_iconst dL_law_584 ?_
  refine w_iadd dL_law_585 ?_
  refine l_sld (j := i + 1) dL_law_586 (by omega) (by omega) hL ?_
  refine w_aldz dL_law_587 rfl ?_
  refine w_iload_n dL_law_588 rfl ?_
  refine w_iconst dL_law_589 ?_
  refine w_iadd dL_law_590 ?_
  refine l_sld (j := i + 2) dL_law_591 (by omega) (by omega) hL ?_
  refine l_call dL_law_592 ok_X9_cloud lv11_70 (c_X9_cloud J.1 J.2.2 (rx _) (rx _)) rfl (congrArg Prod.fst g0_0) (by decide) (by decide) rfl (by decide) (Nat.le_of_ble_eq_true rfl) (fun z1 m1 r1 k1 => ?_)
  refine w_aload_n dL_law_595 rfl ?_
  refine w_aldz dL_law_596 rfl ?_
  refine w_iload_n dL_law_597 rfl ?_
  refine w_iconst dL_law_598 ?_
  refine w_iadd dL_law_599 ?_
  refine l_sld (j := i + 1) dL_law_600 (by omega) (by omega) hL ?_
  refine w_aldz dL_law_601 rfl ?_
  refine w_iload_n dL_law_602 rfl ?_
  refine w_iconst dL_law_603 ?_
  refine w_iadd dL_law_604 ?_
  refine l_sld (j := i + 2) dL_law_605 (by omega) (by omega) hL ?_
  refine l_call dL_law_606 ok_X10_cloud lv11_73 (c_X10_cloud (J.ref k1) J.2.2 (rx _) (rx _)) rfl (congrArg Prod.fst g0_238) (by decide) (by decide) rfl (by decide) (Nat.le_of_ble_eq_true rfl) (fun z2 m2 r2 k2 => ?_)
  obtain ⟨e, J2⟩ := INV.step k1 k2 (POK_cloud J.2.2 _ _)
  exact w_icmp_eq (tgt := 1476) dL_law_609 (by decide) r1 r2 (fun _ => nx m2 _ J2) (fun h => absurd e h)
theorem law_14 {nm : String} {E : EV} {M : MM} {p : PS} {i : Nat} {Q : PP} (hL : eL E ≤ 384) (hi : i + 6 ≤ eL E) (J : INV M p) (nx : ∀ m p2, INV m p2 → Wp E (mLaw nm) kL 1476 (lL i) [] N0 G0 m Q) : Wp E (mLaw nm) kL 614 (lL i) [] N0 G0 M Q := by
  refine w_aload_n dL_law_614 rfl ?_
  refine w_aldz dL_law_615 rfl ?_
  refine w_iload_n dL_law_616 rfl ?_
  refine w_iconst dL_law_617 ?_
  refine w_iadd dL_law_618 ?_
  refine l_sld (j := i + 1) dL_law_619 (by omega) (by omega) hL ?_
  refine w_aldz dL_law_620 rfl ?_
  refine w_iload_n dL_law_621 rfl ?_
  refine w_iconst dL_law_622 ?_
  refine w_iadd dL_law_623 ?_
  refine l_sld (j := i + 2) dL_law_624 (by omega) (by omega) hL ?_
  refine l_call dL_law_625 ok_X9_field lv11_74 (c_X9_field J.1 J.2.2 (rx _) (rx _)) rfl (congrArg Prod.fst g0_0) (by decide) (by decide) rfl (by decide) (Nat.le_of_ble_eq_true rfl) (fun z1 m1 r1 k1 => ?_)
  refine w_aload_n dL_law_628 rfl ?_
  refine w_aldz dL_law_629 rfl ?_
  refine w_iload_n dL_law_630 rfl ?_
  refine w_iconst dL_law_631 ?_
  refine w_iadd dL_law_632 ?_
  refine l_sld (j := i + 1) dL_law_633 (by omega) (by omega) hL ?_
  refine w_aldz dL_law_634 rfl ?_
  refine w_iload_n dL_law_635 rfl ?_
  refine w_iconst dL_law_636 ?_
  refine w_iadd dL_law_637 ?_
  refine l_sld (j := i + 2) dL_law_638 (by omega) (by omega) hL ?_
  refine l_call dL_law_639 ok_X10_field lv11_77 (c_X10_field (J.ref k1) J.2.2 (rx _) (rx _)) rfl (congrArg Prod.fst g0_238) (by decide) (by decide) rfl (by decide) (Nat.le_of_ble_eq_true rfl) (fun z2 m2 r2 k2 => ?_)
  obtain ⟨e, J2⟩ := INV.step k1 k2 (POK_field J.2.2 _ _)
  exact w_icmp_eq (tgt := 1476) dL_law_642 (by decide) r1 r2 (fun _ => nx m2 _ J2) (fun h => absurd e h)
theorem law_15 {nm : String} {E : EV} {M : MM} {p : PS} {i : Nat} {Q : PP} (hL : eL E ≤ 384) (hi : i + 6 ≤ eL E) (J : INV M p) (nx : ∀ m p2, INV m p2 → Wp E (mLaw nm) kL 1476 (lL i) [] N0 G0 m Q) : Wp E (mLaw nm) kL 647 (lL i) [] N0 G0 M Q := by
  refine w_aload_n dL_law_647 rfl ?_
  refine w_aldz dL_law_648 rfl ?_
  refine w_iload_n dL_law_649 rfl ?_
  refine w_iconst dL_law_650 ?_
  refine w_iadd dL_law_651 ?_
  refine l_sld (j := i + 1) dL_law_652 (by omega) (by omega) hL ?_
  refine w_aldz dL_law_653 rfl ?_
  refine w_iload_n dL_law_654 rfl ?_
  refine w_iconst dL_law_655 ?_
  refine w_iadd dL_law_656 ?_
  refine l_sld (j := i + 2) dL_law_657 (by omega) (by omega) hL ?_
  refine w_aldz dL_law_658 rfl ?_
  refine w_iload_n dL_law_659 rfl ?_
  refine w_iconst dL_law_660 ?_
  refine w_iadd dL_law_661 ?_
  refine l_sld (j := i + 3) dL_law_662 (by omega) (by omega) hL ?_
  refine l_call dL_law_663 ok_X9_ahead lv11_78 (c_X9_ahead J.1 J.2.2 (rx _) (rx _) (rx _)) rfl (congrArg Prod.fst g0_0) (by decide) (by decide) rfl (by decide) (Nat.le_of_ble_eq_true rfl) (fun z1 m1 r1 k1 => ?_)
  refine w_aload_n dL_law_666 rfl ?_
  refine w_aldz dL_law_667 rfl ?_
  refine w_iload_n dL_law_668 rfl ?_
  refine w_iconst dL_law_669 ?_
  refine w_iadd dL_law_670 ?_
  refine l_sld (j := i + 1) dL_law_671 (by omega) (by omega) hL ?_
  refine w_aldz dL_law_672 rfl ?_
  refine w_iload_n dL_law_673 rfl ?_
  refine w_iconst dL_law_674 ?_
  refine w_iadd dL_law_675 ?_
  refine l_sld (j := i + 2) dL_law_676 (by omega) (by omega) hL ?_
  refine w_aldz dL_law_677 rfl ?_
  refine w_iload_n dL_law_678 rfl ?_
  refine w_iconst dL_law_679 ?_
  refine w_iadd dL_law_680 ?_
  refine l_sld (j := i + 3) dL_law_681 (by omega) (by omega) hL ?_
  refine l_call dL_law_682 ok_X10_ahead lv11_81 (c_X10_ahead (J.ref k1) J.2.2 (rx _) (rx _) (rx _)) rfl (congrArg Prod.fst g0_238) (by decide) (by decide) rfl (by decide) (Nat.le_of_ble_eq_true rfl) (fun z2 m2 r2 k2 => ?_)
  obtain ⟨e, J2⟩ := INV.step k1 k2 (POK_ahead J.2.2 _ _ _)
  exact w_icmp_eq (tgt := 1476) dL_law_685 (by decide) r1 r2 (fun _ => nx m2 _ J2) (fun h => absurd e h)
theorem law_16 {nm : String} {E : EV} {M : MM} {p : PS} {i : Nat} {Q : PP} (hL : eL E ≤ 384) (hi : i + 6 ≤ eL E) (J : INV M p) (nx : ∀ m p2, INV m p2 → Wp E (mLaw nm) kL 1476 (lL i) [] N0 G0 m Q) : Wp E (mLaw nm) kL 690 (lL i) [] N0 G0 M Q := by
  refine w_aload_n dL_law_690 rfl ?_
  refine w_aldz dL_law_691 rfl ?_
  refine w_iload_n dL_law_692 rfl ?_
  refine w_iconst dL_law_693 ?_
  refine w_iadd dL_law_694 ?_
  refine l_sld (j := i + 1) dL_law_695 (by omega) (by omega) hL ?_
  refine w_aldz dL_law_696 rfl ?_
  refine w_iload_n dL_law_697 rfl ?_
  refine w_iconst dL_law_698 ?_
  refine w_iadd dL_law_699 ?_
  refine l_sld (j := i + 2) dL_law_700 (by omega) (by omega) hL ?_
  refine l_call dL_law_701 ok_X9_over lv11_82 (c_X9_over J.1 J.2.2 (rx _) (rx _)) rfl (congrArg Prod.fst g0_0) (by decide) (by decide) rfl (by decide) (Nat.le_of_ble_eq_true rfl) (fun z1 m1 r1 k1 => ?_)
  refine w_aload_n dL_law_704 rfl ?_
  refine w_aldz dL_law_705 rfl ?_
  refine w_iload_n dL_law_706 rfl ?_
  refine w_iconst dL_law_707 ?_
  refine w_iadd dL_law_708 ?_
  refine l_sld (j := i + 1) dL_law_709 (by omega) (by omega) hL ?_
  refine w_aldz dL_law_710 rfl ?_
  refine w_iload_n dL_law_711 rfl ?_
  refine w_iconst dL_law_712 ?_
  refine w_iadd dL_law_713 ?_
  refine l_sld (j := i + 2) dL_law_714 (by omega) (by omega) hL ?_
  refine l_call dL_law_715 ok_X10_over lv11_85 (c_X10_over (J.ref k1) J.2.2 (rx _) (rx _)) rfl (congrArg Prod.fst g0_238) (by decide) (by decide) rfl (by decide) (Nat.le_of_ble_eq_true rfl) (fun z2 m2 r2 k2 => ?_)
  obtain ⟨e, J2⟩ := INV.step k1 k2 (POK_over J.2.2 _ _)
  exact w_icmp_eq (tgt := 1476) dL_law_718 (by decide) r1 r2 (fun _ => nx m2 _ J2) (fun h => absurd e h)
theorem law_17 {nm : String} {E : EV} {M : MM} {p : PS} {i : Nat} {Q : PP} (hL : eL E ≤ 384) (hi : i + 6 ≤ eL E) (J : INV M p) (nx : ∀ m p2, INV m p2 → Wp E (mLaw nm) kL 1476 (lL i) [] N0 G0 m Q) : Wp E (mLaw nm) kL 723 (lL i) [] N0 G0 M Q := by
  refine w_aload_n dL_law_723 rfl ?_
  refine w_aldz dL_law_724 rfl ?_
  refine w_iload_n dL_law_725 rfl ?_
  refine w_iconst dL_law_726 ?_
  refine w_iadd dL_law_727 ?_
  refine l_sld (j := i + 1) dL_law_728 (by omega) (by omega) hL ?_
  refine w_aldz dL_law_729 rfl ?_
  refine w_iload_n dL_law_730 rfl ?_
  refine w_iconst dL_law_731 ?_
  refine w_iadd dL_law_732 ?_
  refine l_sld (j := i + 2) dL_law_733 (by omega) (by omega) hL ?_
  refine l_call dL_law_734 ok_X9_falls lv11_86 (c_X9_falls J.1 J.2.2 (rx _) (rx _)) rfl (congrArg Prod.fst g0_0) (by decide) (by decide) rfl (by decide) (Nat.le_of_ble_eq_true rfl) (fun z1 m1 r1 k1 => ?_)
  refine w_aload_n dL_law_737 rfl ?_
  refine w_aldz dL_law_738 rfl ?_
  refine w_iload_n dL_law_739 rfl ?_
  refine w_iconst dL_law_740 ?_
  refine w_iadd dL_law_741 ?_
  refine l_sld (j := i + 1) dL_law_742 (by omega) (by omega) hL ?_
  refine w_aldz dL_law_743 rfl ?_
  refine w_iload_n dL_law_744 rfl ?_
  refine w_iconst dL_law_745 ?_
  refine w_iadd dL_law_746 ?_
  refine l_sld (j := i + 2) dL_law_747 (by omega) (by omega) hL ?_
  refine l_call dL_law_748 ok_X10_falls lv11_89 (c_X10_falls (J.ref k1) J.2.2 (rx _) (rx _)) rfl (congrArg Prod.fst g0_238) (by decide) (by decide) rfl (by decide) (Nat.le_of_ble_eq_true rfl) (fun z2 m2 r2 k2 => ?_)
  obtain ⟨e, J2⟩ := INV.step k1 k2 (POK_falls J.2.2 _ _)
  exact w_icmp_eq (tgt := 1476) dL_law_751 (by decide) r1 r2 (fun _ => nx m2 _ J2) (fun h => absurd e h)
theorem law_18 {nm : String} {E : EV} {M : MM} {p : PS} {i : Nat} {Q : PP} (hL : eL E ≤ 384) (hi : i + 6 ≤ eL E) (J : INV M p) (nx : ∀ m p2, INV m p2 → Wp E (mLaw nm) kL 1476 (lL i) [] N0 G0 m Q) : Wp E (mLaw nm) kL 756 (lL i) [] N0 G0 M Q := by
  refine w_aload_n dL_law_756 rfl ?_
  refine w_aldz dL_law_757 rfl ?_
  refine w_iload_n dL_law_758 rfl ?_
  refine w_iconst dL_law_759 ?_
  refine w_iadd dL_law_760 ?_
  refine l_sld (j := i + 1) dL_law_761 (by omega) (by omega) hL ?_
  refine l_call dL_law_762 ok_X9_dry lv11_90 (c_X9_dry J.1 J.2.2 (rx _)) rfl (congrArg Prod.fst g0_0) (by decide) (by decide) rfl (by decide) (Nat.le_of_ble_eq_true rfl) (fun z1 m1 r1 k1 => ?_)
  refine w_aload_n dL_law_765 rfl ?_
  refine w_aldz dL_law_766 rfl ?_
  refine w_iload_n dL_law_767 rfl ?_
  refine w_iconst dL_law_768 ?_
  refine w_iadd dL_law_769 ?_
  refine l_sld (j := i + 1) dL_law_770 (by omega) (by omega) hL ?_
  refine l_call dL_law_771 ok_X10_dry lv11_93 (c_X10_dry (J.ref k1) J.2.2 (rx _)) rfl (congrArg Prod.fst g0_238) (by decide) (by decide) rfl (by decide) (Nat.le_of_ble_eq_true rfl) (fun z2 m2 r2 k2 => ?_)
  obtain ⟨e, J2⟩ := INV.step k1 k2 (POK_dry J.2.2 _)
  exact w_icmp_eq (tgt := 1476) dL_law_774 (by decide) r1 r2 (fun _ => nx m2 _ J2) (fun h => absurd e h)
theorem law_19 {nm : String} {E : EV} {M : MM} {p : PS} {i : Nat} {Q : PP} (hL : eL E ≤ 384) (hi : i + 6 ≤ eL E) (J : INV M p) (nx : ∀ m p2, INV m p2 → Wp E (mLaw nm) kL 1476 (lL i) [] N0 G0 m Q) : Wp E (mLaw nm) kL 779 (lL i) [] N0 G0 M Q := by
  refine w_aload_n dL_law_779 rfl ?_
  refine w_aldz dL_law_780 rfl ?_
  refine w_iload_n dL_law_781 rfl ?_
  refine w_iconst dL_law_782 ?_
  refine w_iadd dL_law_783 ?_
  refine l_sld (j := i + 1) dL_law_784 (by omega) (by omega) hL ?_
  refine l_call dL_law_785 ok_X9_first lv11_94 (c_X9_first J.1 J.2.2 (rx _)) rfl (congrArg Prod.fst g0_0) (by decide) (by decide) rfl (by decide) (Nat.le_of_ble_eq_true rfl) (fun z1 m1 r1 k1 => ?_)
  refine w_aload_n dL_law_788 rfl ?_
  refine w_aldz dL_law_789 rfl ?_
  refine w_iload_n dL_law_790 rfl ?_
  refine w_iconst dL_law_791 ?_
  refine w_iadd dL_law_792 ?_
  refine l_sld (j := i + 1) dL_law_793 (by omega) (by omega) hL ?_
  refine l_call dL_law_794 ok_X10_first lv11_97 (c_X10_first (J.ref k1) J.2.2 (rx _)) rfl (congrArg Prod.fst g0_238) (by decide) (by decide) rfl (by decide) (Nat.le_of_ble_eq_true rfl) (fun z2 m2 r2 k2 => ?_)
  obtain ⟨e, J2⟩ := INV.step k1 k2 (POK_first J.2.2 _)
  exact w_icmp_eq (tgt := 1476) dL_law_797 (by decide) r1 r2 (fun _ => nx m2 _ J2) (fun h => absurd e h)
theorem law_20 {nm : String} {E : EV} {M : MM} {p : PS} {i : Nat} {Q : PP} (hL : eL E ≤ 384) (hi : i + 6 ≤ eL E) (J : INV M p) (nx : ∀ m p2, INV m p2 → Wp E (mLaw nm) kL 1476 (lL i) [] N0 G0 m Q) : Wp E (mLaw nm) kL 802 (lL i) [] N0 G0 M Q := by
  refine w_aload_n dL_law_802 rfl ?_
  refine w_aldz dL_law_803 rfl ?_
  refine w_iload_n dL_law_804 rfl ?_
  refine w_iconst dL_law_805 ?_
  refine w_iadd dL_law_806 ?_
  refine l_sld (j := i + 1) dL_law_807 (by omega) (by omega) hL ?_
  refine l_call dL_law_808 ok_X9_gone lv11_98 (c_X9_gone J.1 J.2.2 (rx _)) rfl (congrArg Prod.fst g0_0) (by decide) (by decide) rfl (by decide) (Nat.le_of_ble_eq_true rfl) (fun z1 m1 r1 k1 => ?_)
  refine w_aload_n dL_law_811 rfl ?_
  refine w_aldz dL_law_812 rfl ?_
  refine w_iload_n dL_law_813 rfl ?_
  refine w_iconst dL_law_814 ?_
  refine w_iadd dL_law_815 ?_
  refine l_sld (j := i + 1) dL_law_816 (by omega) (by omega) hL ?_
  refine l_call dL_law_817 ok_X10_gone lv11_101 (c_X10_gone (J.ref k1) J.2.2 (rx _)) rfl (congrArg Prod.fst g0_238) (by decide) (by decide) rfl (by decide) (Nat.le_of_ble_eq_true rfl) (fun z2 m2 r2 k2 => ?_)
  obtain ⟨e, J2⟩ := INV.step k1 k2 (POK_gone J.2.2 _)
  exact w_icmp_eq (tgt := 1476) dL_law_820 (by decide) r1 r2 (fun _ => nx m2 _ J2) (fun h => absurd e h)
theorem law_21 {nm : String} {E : EV} {M : MM} {p : PS} {i : Nat} {Q : PP} (hL : eL E ≤ 384) (hi : i + 6 ≤ eL E) (J : INV M p) (nx : ∀ m p2, INV m p2 → Wp E (mLaw nm) kL 1476 (lL i) [] N0 G0 m Q) : Wp E (mLaw nm) kL 825 (lL i) [] N0 G0 M Q := by
  refine w_aload_n dL_law_825 rfl ?_
  refine w_aldz dL_law_826 rfl ?_
  refine w_iload_n dL_law_827 rfl ?_
  refine w_iconst dL_law_828 ?_
  refine w_iadd dL_law_829 ?_
  refine l_sld (j := i + 1) dL_law_830 (by omega) (by omega) hL ?_
  refine w_aldz dL_law_831 rfl ?_
  refine w_iload_n dL_law_832 rfl ?_
  refine w_iconst dL_law_833 ?_
  refine w_iadd dL_law_834 ?_
  refine l_sld (j := i + 2) dL_law_835 (by omega) (by omega) hL ?_
  refine l_call dL_law_836 ok_X9_storm lv11_102 (c_X9_storm J.1 J.2.2 (rx _) (rx _)) rfl (congrArg Prod.fst g0_0) (by decide) (by decide) rfl (by decide) (Nat.le_of_ble_eq_true rfl) (fun z1 m1 r1 k1 => ?_)
  refine w_aload_n dL_law_839 rfl ?_
  refine w_aldz dL_law_840 rfl ?_
  refine w_iload_n dL_law_841 rfl ?_
  refine w_iconst dL_law_842 ?_
  refine w_iadd dL_law_843 ?_
  refine l_sld (j := i + 1) dL_law_844 (by omega) (by omega) hL ?_
  refine w_aldz dL_law_845 rfl ?_
  refine w_iload_n dL_law_846 rfl ?_
  refine w_iconst dL_law_847 ?_
  refine w_iadd dL_law_848 ?_
  refine l_sld (j := i + 2) dL_law_849 (by omega) (by omega) hL ?_
  refine l_call dL_law_850 ok_X10_storm lv11_105 (c_X10_storm (J.ref k1) J.2.2 (rx _) (rx _)) rfl (congrArg Prod.fst g0_238) (by decide) (by decide) rfl (by decide) (Nat.le_of_ble_eq_true rfl) (fun z2 m2 r2 k2 => ?_)
  obtain ⟨e, J2⟩ := INV.step k1 k2 (POK_storm J.2.2 _ _)
  exact w_icmp_eq (tgt := 1476) dL_law_853 (by decide) r1 r2 (fun _ => nx m2 _ J2) (fun h => absurd e h)
theorem law_22 {nm : String} {E : EV} {M : MM} {p : PS} {i : Nat} {Q : PP} (hL : eL E ≤ 384) (hi : i + 6 ≤ eL E) (J : INV M p) (nx : ∀ m p2, INV m p2 → Wp E (mLaw nm) kL 1476 (lL i) [] N0 G0 m Q) : Wp E (mLaw nm) kL 858 (lL i) [] N0 G0 M Q := by
  refine w_aload_n dL_law_858 rfl ?_
  refine w_aldz dL_law_859 rfl ?_
  refine w_iload_n dL_law_860 rfl ?_
  refine w_iconst dL_law_861 ?_
  refine w_iadd dL_law_862 ?_
  refine l_sld (j := i + 1) dL_law_863 (by omega) (by omega) hL ?_
  refine l_call dL_law_864 ok_X9_blue lv11_106 (c_X9_blue J.1 J.2.2 (rx _)) rfl (congrArg Prod.fst g0_0) (by decide) (by decide) rfl (by decide) (Nat.le_of_ble_eq_true rfl) (fun z1 m1 r1 k1 => ?_)
  refine w_aload_n dL_law_867 rfl ?_
  refine w_aldz dL_law_868 rfl ?_
  refine w_iload_n dL_law_869 rfl ?_
  refine w_iconst dL_law_870 ?_
  refine w_iadd dL_law_871 ?_
  refine l_sld (j := i + 1) dL_law_872 (by omega) (by omega) hL ?_
  refine l_call dL_law_873 ok_X10_blue lv11_109 (c_X10_blue (J.ref k1) J.2.2 (rx _)) rfl (congrArg Prod.fst g0_238) (by decide) (by decide) rfl (by decide) (Nat.le_of_ble_eq_true rfl) (fun z2 m2 r2 k2 => ?_)
  obtain ⟨e, J2⟩ := INV.step k1 k2 (POK_blue J.2.2 _)
  exact w_icmp_eq (tgt := 1476) dL_law_876 (by decide) r1 r2 (fun _ => nx m2 _ J2) (fun h => absurd e h)
theorem law_23 {nm : String} {E : EV} {M : MM} {p : PS} {i : Nat} {Q : PP} (hL : eL E ≤ 384) (hi : i + 6 ≤ eL E) (J : INV M p) (nx : ∀ m p2, INV m p2 → Wp E (mLaw nm) kL 1476 (lL i) [] N0 G0 m Q) : Wp E (mLaw nm) kL 881 (lL i) [] N0 G0 M Q := by
  refine w_aload_n dL_law_881 rfl ?_
  refine w_aldz dL_law_882 rfl ?_
  refine w_iload_n dL_law_883 rfl ?_
  refine w_iconst dL_law_884 ?_
  refine w_iadd dL_law_885 ?_
  refine l_sld (j := i + 1) dL_law_886 (by omega) (by omega) hL ?_
  refine w_aldz dL_law_887 rfl ?_
  refine w_iload_n dL_law_888 rfl ?_
  refine w_iconst dL_law_889 ?_
  refine w_iadd dL_law_890 ?_
  refine l_sld (j := i + 2) dL_law_891 (by omega) (by omega) hL ?_
  refine w_aldz dL_law_892 rfl ?_
  refine w_iload_n dL_law_893 rfl ?_
  refine w_iconst dL_law_894 ?_
  refine w_iadd dL_law_895 ?_
  refine l_sld (j := i + 3) dL_law_896 (by omega) (by omega) hL ?_
  refine l_call dL_law_897 ok_X9_leastTow lv11_110 (c_X9_leastTow J.1 J.2.2 (rx _) (rx _) (rx _)) rfl (congrArg Prod.fst g0_0) (by decide) (by decide) rfl (by decide) (Nat.le_of_ble_eq_true rfl) (fun z1 m1 r1 k1 => ?_)
  refine w_aload_n dL_law_900 rfl ?_
  refine w_aldz dL_law_901 rfl ?_
  refine w_iload_n dL_law_902 rfl ?_
  refine w_iconst dL_law_903 ?_
  refine w_iadd dL_law_904 ?_
  refine l_sld (j := i + 1) dL_law_905 (by omega) (by omega) hL ?_
  refine w_aldz dL_law_906 rfl ?_
  refine w_iload_n dL_law_907 rfl ?_
  refine w_iconst dL_law_908 ?_
  refine w_iadd dL_law_909 ?_
  refine l_sld (j := i + 2) dL_law_910 (by omega) (by omega) hL ?_
  refine w_aldz dL_law_911 rfl ?_
  refine w_iload_n dL_law_912 rfl ?_
  refine w_iconst dL_law_913 ?_
  refine w_iadd dL_law_914 ?_
  refine l_sld (j := i + 3) dL_law_915 (by omega) (by omega) hL ?_
  refine l_call dL_law_916 ok_X10_leastTow lv11_113 (c_X10_leastTow (J.ref k1) J.2.2 (rx _) (rx _) (rx _)) rfl (congrArg Prod.fst g0_238) (by decide) (by decide) rfl (by decide) (Nat.le_of_ble_eq_true rfl) (fun z2 m2 r2 k2 => ?_)
  obtain ⟨e, J2⟩ := INV.step k1 k2 (POK_lst J.2.2 _ _ _)
  exact w_icmp_eq (tgt := 1476) dL_law_919 (by decide) r1 r2 (fun _ => nx m2 _ J2) (fun h => absurd e h)
theorem law_24 {nm : String} {E : EV} {M : MM} {p : PS} {i : Nat} {Q : PP} (hL : eL E ≤ 384) (hi : i + 6 ≤ eL E) (J : INV M p) (nx : ∀ m p2, INV m p2 → Wp E (mLaw nm) kL 1476 (lL i) [] N0 G0 m Q) : Wp E (mLaw nm) kL 924 (lL i) [] N0 G0 M Q := by
  refine w_aload_n dL_law_924 rfl ?_
  refine w_aldz dL_law_925 rfl ?_
  refine w_iload_n dL_law_926 rfl ?_
  refine w_iconst dL_law_927 ?_
  refine w_iadd dL_law_928 ?_
  refine l_sld (j := i + 1) dL_law_929 (by omega) (by omega) hL ?_
  refine w_aldz dL_law_930 rfl ?_
  refine w_iload_n dL_law_931 rfl ?_
  refine w_iconst dL_law_932 ?_
  refine w_iadd dL_law_933 ?_
  refine l_sld (j := i + 2) dL_law_934 (by omega) (by omega) hL ?_
  refine l_call dL_law_935 ok_X9_harvest lv11_114 (c_X9_harvest J.1 J.2.2 (rx _) (rx _)) rfl (congrArg Prod.fst g0_0) (by decide) (by decide) rfl (by decide) (Nat.le_of_ble_eq_true rfl) (fun z1 m1 r1 k1 => ?_)
  refine w_aload_n dL_law_938 rfl ?_
  refine w_aldz dL_law_939 rfl ?_
  refine w_iload_n dL_law_940 rfl ?_
  refine w_iconst dL_law_941 ?_
  refine w_iadd dL_law_942 ?_
  refine l_sld (j := i + 1) dL_law_943 (by omega) (by omega) hL ?_
  refine w_aldz dL_law_944 rfl ?_
  refine w_iload_n dL_law_945 rfl ?_
  refine w_iconst dL_law_946 ?_
  refine w_iadd dL_law_947 ?_
  refine l_sld (j := i + 2) dL_law_948 (by omega) (by omega) hL ?_
  refine l_call dL_law_949 ok_X10_harvest lv11_117 (c_X10_harvest (J.ref k1) J.2.2 (rx _) (rx _)) rfl (congrArg Prod.fst g0_238) (by decide) (by decide) rfl (by decide) (Nat.le_of_ble_eq_true rfl) (fun z2 m2 r2 k2 => ?_)
  obtain ⟨e, J2⟩ := INV.step k1 k2 (POK_harv J.2.2 _ _)
  exact w_icmp_eq (tgt := 1476) dL_law_952 (by decide) r1 r2 (fun _ => nx m2 _ J2) (fun h => absurd e h)
theorem law_25 {nm : String} {E : EV} {M : MM} {p : PS} {i : Nat} {Q : PP} (hL : eL E ≤ 384) (hi : i + 6 ≤ eL E) (J : INV M p) (nx : ∀ m p2, INV m p2 → Wp E (mLaw nm) kL 1476 (lL i) [] N0 G0 m Q) : Wp E (mLaw nm) kL 957 (lL i) [] N0 G0 M Q := by
  refine w_aload_n dL_law_957 rfl ?_
  refine w_aldz dL_law_958 rfl ?_
  refine w_iload_n dL_law_959 rfl ?_
  refine w_iconst dL_law_960 ?_
  refine w_iadd dL_law_961 ?_
  refine l_sld (j := i + 1) dL_law_962 (by omega) (by omega) hL ?_
  refine w_aldz dL_law_963 rfl ?_
  refine w_iload_n dL_law_964 rfl ?_
  refine w_iconst dL_law_965 ?_
  refine w_iadd dL_law_966 ?_
  refine l_sld (j := i + 2) dL_law_967 (by omega) (by omega) hL ?_
  refine w_aldz dL_law_968 rfl ?_
  refine w_iload_n dL_law_969 rfl ?_
  refine w_iconst dL_law_970 ?_
  refine w_iadd dL_law_971 ?_
  refine l_sld (j := i + 3) dL_law_972 (by omega) (by omega) hL ?_
  refine w_aldz dL_law_973 rfl ?_
  refine w_iload_n dL_law_974 rfl ?_
  refine w_iconst dL_law_975 ?_
  refine w_iadd dL_law_976 ?_
  refine l_sld (j := i + 4) dL_law_977 (by omega) (by omega) hL ?_
  refine w_aldz dL_law_978 rfl ?_
  refine w_iload_n dL_law_979 rfl ?_
  refine w_iconst dL_law_980 ?_
  refine w_iadd dL_law_981 ?_
  refine l_sld (j := i + 5) dL_law_982 (by omega) (by omega) hL ?_
  refine l_call dL_law_983 ok_X9_who lv11_118 (c_X9_who J.1 J.2.2 (rx _) (rx _) (rx _) (rx _) (rx _)) rfl (congrArg Prod.fst g0_0) (by decide) (by decide) rfl (by decide) (Nat.le_of_ble_eq_true rfl) (fun z1 m1 r1 k1 => ?_)
  refine w_aload_n dL_law_986 rfl ?_
  refine w_aldz dL_law_987 rfl ?_
  refine w_iload_n dL_law_988 rfl ?_
  refine w_iconst dL_law_989 ?_
  refine w_iadd dL_law_990 ?_
  refine l_sld (j := i + 1) dL_law_991 (by omega) (by omega) hL ?_
  refine w_aldz dL_law_992 rfl ?_
  refine w_iload_n dL_law_993 rfl ?_
  refine w_iconst dL_law_994 ?_
  refine w_iadd dL_law_995 ?_
  refine l_sld (j := i + 2) dL_law_996 (by omega) (by omega) hL ?_
  refine w_aldz dL_law_997 rfl ?_
  refine w_iload_n dL_law_998 rfl ?_
  refine w_iconst dL_law_999 ?_
  refine w_iadd dL_law_1000 ?_
  refine l_sld (j := i + 3) dL_law_1001 (by omega) (by omega) hL ?_
  refine w_aldz dL_law_1002 rfl ?_
  refine w_iload_n dL_law_1003 rfl ?_
  refine w_iconst dL_law_1004 ?_
  refine w_iadd dL_law_1005 ?_
  refine l_sld (j := i + 4) dL_law_1006 (by omega) (by omega) hL ?_
  refine w_aldz dL_law_1007 rfl ?_
  refine w_iload_n dL_law_1008 rfl ?_
  refine w_iconst dL_law_1009 ?_
  refine w_iadd dL_law_1010 ?_
  refine l_sld (j := i + 5) dL_law_1011 (by omega) (by omega) hL ?_
  refine l_call dL_law_1012 ok_X10_who lv11_121 (c_X10_who (J.ref k1) J.2.2 (rx _) (rx _) (rx _) (rx _) (rx _)) rfl (congrArg Prod.fst g0_238) (by decide) (by decide) rfl (by decide) (Nat.le_of_ble_eq_true rfl) (fun z2 m2 r2 k2 => ?_)
  obtain ⟨e, J2⟩ := INV.step k1 k2 (POK_who J.2.2 _ _ _ _ _)
  exact w_icmp_eq (tgt := 1476) dL_law_1015 (by decide) r1 r2 (fun _ => nx m2 _ J2) (fun h => absurd e h)
theorem law_26 {nm : String} {E : EV} {M : MM} {p : PS} {i : Nat} {Q : PP} (hL : eL E ≤ 384) (hi : i + 6 ≤ eL E) (J : INV M p) (nx : ∀ m p2, INV m p2 → Wp E (mLaw nm) kL 1476 (lL i) [] N0 G0 m Q) : Wp E (mLaw nm) kL 1020 (lL i) [] N0 G0 M Q := by
  refine w_aload_n dL_law_1020 rfl ?_
  refine w_aldz dL_law_1021 rfl ?_
  refine w_iload_n dL_law_1022 rfl ?_
  refine w_iconst dL_law_1023 ?_
  refine w_iadd dL_law_1024 ?_
  refine l_sld (j := i + 1) dL_law_1025 (by omega) (by omega) hL ?_
  refine w_aldz dL_law_1026 rfl ?_
  refine w_iload_n dL_law_1027 rfl ?_
  refine w_iconst dL_law_1028 ?_
  refine w_iadd dL_law_1029 ?_
  refine l_sld (j := i + 2) dL_law_1030 (by omega) (by omega) hL ?_
  refine w_aldz dL_law_1031 rfl ?_
  refine w_iload_n dL_law_1032 rfl ?_
  refine w_iconst dL_law_1033 ?_
  refine w_iadd dL_law_1034 ?_
  refine l_sld (j := i + 3) dL_law_1035 (by omega) (by omega) hL ?_
  refine w_aldz dL_law_1036 rfl ?_
  refine w_iload_n dL_law_1037 rfl ?_
  refine w_iconst dL_law_1038 ?_
  refine w_iadd dL_law_1039 ?_
  refine l_sld (j := i + 4) dL_law_1040 (by omega) (by omega) hL ?_
  refine w_aldz dL_law_1041 rfl ?_
  refine w_iload_n dL_law_1042 rfl ?_
  refine w_iconst dL_law_1043 ?_
  refine w_iadd dL_law_1044 ?_
  refine l_sld (j := i + 5) dL_law_1045 (by omega) (by omega) hL ?_
  refine l_call dL_law_1046 ok_X9_places lv11_122 (c_X9_places J.1 J.2.2 (rx _) (rx _) (rx _) (rx _) (rx _)) rfl (congrArg Prod.fst g0_0) (by decide) (by decide) rfl (by decide) (Nat.le_of_ble_eq_true rfl) (fun z1 m1 r1 k1 => ?_)
  refine w_aload_n dL_law_1049 rfl ?_
  refine w_aldz dL_law_1050 rfl ?_
  refine w_iload_n dL_law_1051 rfl ?_
  refine w_iconst dL_law_1052 ?_
  refine w_iadd dL_law_1053 ?_
  refine l_sld (j := i + 1) dL_law_1054 (by omega) (by omega) hL ?_
  refine w_aldz dL_law_1055 rfl ?_
  refine w_iload_n dL_law_1056 rfl ?_
  refine w_iconst dL_law_1057 ?_
  refine w_iadd dL_law_1058 ?_
  refine l_sld (j := i + 2) dL_law_1059 (by omega) (by omega) hL ?_
  refine w_aldz dL_law_1060 rfl ?_
  refine w_iload_n dL_law_1061 rfl ?_
  refine w_iconst dL_law_1062 ?_
  refine w_iadd dL_law_1063 ?_
  refine l_sld (j := i + 3) dL_law_1064 (by omega) (by omega) hL ?_
  refine w_aldz dL_law_1065 rfl ?_
  refine w_iload_n dL_law_1066 rfl ?_
  refine w_iconst dL_law_1067 ?_
  refine w_iadd dL_law_1068 ?_
  refine l_sld (j := i + 4) dL_law_1069 (by omega) (by omega) hL ?_
  refine w_aldz dL_law_1070 rfl ?_
  refine w_iload_n dL_law_1071 rfl ?_
  refine w_iconst dL_law_1072 ?_
  refine w_iadd dL_law_1073 ?_
  refine l_sld (j := i + 5) dL_law_1074 (by omega) (by omega) hL ?_
  refine l_call dL_law_1075 ok_X10_places lv11_125 (c_X10_places (J.ref k1) J.2.2 (rx _) (rx _) (rx _) (rx _) (rx _)) rfl (congrArg Prod.fst g0_238) (by decide) (by decide) rfl (by decide) (Nat.le_of_ble_eq_true rfl) (fun z2 m2 r2 k2 => ?_)
  obtain ⟨e, J2⟩ := INV.step k1 k2 (POK_plc J.2.2 _ _ _ _ _)
  exact w_icmp_eq (tgt := 1476) dL_law_1078 (by decide) r1 r2 (fun _ => nx m2 _ J2) (fun h => absurd e h)
theorem law_27 {nm : String} {E : EV} {M : MM} {p : PS} {i : Nat} {Q : PP} (hL : eL E ≤ 384) (hi : i + 6 ≤ eL E) (J : INV M p) (nx : ∀ m p2, INV m p2 → Wp E (mLaw nm) kL 1476 (lL i) [] N0 G0 m Q) : Wp E (mLaw nm) kL 1083 (lL i) [] N0 G0 M Q := by
  refine w_aload_n dL_law_1083 rfl ?_
  refine w_aldz dL_law_1084 rfl ?_
  refine w_iload_n dL_law_1085 rfl ?_
  refine w_iconst dL_law_1086 ?_
  refine w_iadd dL_law_1087 ?_
  refine l_sld (j := i + 1) dL_law_1088 (by omega) (by omega) hL ?_
  refine w_aldz dL_law_1089 rfl ?_
  refine w_iload_n dL_law_1090 rfl ?_
  refine w_iconst dL_law_1091 ?_
  refine w_iadd dL_law_1092 ?_
  refine l_sld (j := i + 2) dL_law_1093 (by omega) (by omega) hL ?_
  refine l_call dL_law_1094 ok_X9_from lv11_126 (c_X9_from J.1 J.2.2 (rx _) (rx _)) rfl (congrArg Prod.fst g0_0) (by decide) (by decide) rfl (by decide) (Nat.le_of_ble_eq_true rfl) (fun z1 m1 r1 k1 => ?_)
  refine w_aload_n dL_law_1097 rfl ?_
  refine w_aldz dL_law_1098 rfl ?_
  refine w_iload_n dL_law_1099 rfl ?_
  refine w_iconst dL_law_1100 ?_
  refine w_iadd dL_law_1101 ?_
  refine l_sld (j := i + 1) dL_law_1102 (by omega) (by omega) hL ?_
  refine w_aldz dL_law_1103 rfl ?_
  refine w_iload_n dL_law_1104 rfl ?_
  refine w_iconst dL_law_1105 ?_
  refine w_iadd dL_law_1106 ?_
  refine l_sld (j := i + 2) dL_law_1107 (by omega) (by omega) hL ?_
  refine l_call dL_law_1108 ok_X10_from lv11_129 (c_X10_from (J.ref k1) J.2.2 (rx _) (rx _)) rfl (congrArg Prod.fst g0_238) (by decide) (by decide) rfl (by decide) (Nat.le_of_ble_eq_true rfl) (fun z2 m2 r2 k2 => ?_)
  obtain ⟨e, J2⟩ := INV.step k1 k2 (POK_from J.2.2 _ _)
  exact w_icmp_eq (tgt := 1476) dL_law_1111 (by decide) r1 r2 (fun _ => nx m2 _ J2) (fun h => absurd e h)
theorem law_28 {nm : String} {E : EV} {M : MM} {p : PS} {i : Nat} {Q : PP} (hL : eL E ≤ 384) (hi : i + 6 ≤ eL E) (J : INV M p) (nx : ∀ m p2, INV m p2 → Wp E (mLaw nm) kL 1476 (lL i) [] N0 G0 m Q) : Wp E (mLaw nm) kL 1116 (lL i) [] N0 G0 M Q := by
  refine w_aload_n dL_law_1116 rfl ?_
  refine w_aldz dL_law_1117 rfl ?_
  refine w_iload_n dL_law_1118 rfl ?_
  refine w_iconst dL_law_1119 ?_
  refine w_iadd dL_law_1120 ?_
  refine l_sld (j := i + 1) dL_law_1121 (by omega) (by omega) hL ?_
  refine l_call dL_law_1122 ok_X9_alike lv11_130 (c_X9_alike J.1 J.2.2 (rx _)) rfl (congrArg Prod.fst g0_0) (by decide) (by decide) rfl (by decide) (Nat.le_of_ble_eq_true rfl) (fun z1 m1 r1 k1 => ?_)
  refine w_aload_n dL_law_1125 rfl ?_
  refine w_aldz dL_law_1126 rfl ?_
  refine w_iload_n dL_law_1127 rfl ?_
  refine w_iconst dL_law_1128 ?_
  refine w_iadd dL_law_1129 ?_
  refine l_sld (j := i + 1) dL_law_1130 (by omega) (by omega) hL ?_
  refine l_call dL_law_1131 ok_X10_alike lv11_133 (c_X10_alike (J.ref k1) J.2.2 (rx _)) rfl (congrArg Prod.fst g0_238) (by decide) (by decide) rfl (by decide) (Nat.le_of_ble_eq_true rfl) (fun z2 m2 r2 k2 => ?_)
  obtain ⟨e, J2⟩ := INV.step k1 k2 (POK_alike J.2.2 _)
  exact w_icmp_eq (tgt := 1476) dL_law_1134 (by decide) r1 r2 (fun _ => nx m2 _ J2) (fun h => absurd e h)
theorem law_29 {nm : String} {E : EV} {M : MM} {p : PS} {i : Nat} {Q : PP} (hL : eL E ≤ 384) (hi : i + 6 ≤ eL E) (J : INV M p) (nx : ∀ m p2, INV m p2 → Wp E (mLaw nm) kL 1476 (lL i) [] N0 G0 m Q) : Wp E (mLaw nm) kL 1139 (lL i) [] N0 G0 M Q := by
  refine w_aload_n dL_law_1139 rfl ?_
  refine w_aldz dL_law_1140 rfl ?_
  refine w_iload_n dL_law_1141 rfl ?_
  refine w_iconst dL_law_1142 ?_
  refine w_iadd dL_law_1143 ?_
  refine l_sld (j := i + 1) dL_law_1144 (by omega) (by omega) hL ?_
  refine w_aldz dL_law_1145 rfl ?_
  refine w_iload_n dL_law_1146 rfl ?_
  refine w_iconst dL_law_1147 ?_
  refine w_iadd dL_law_1148 ?_
  refine l_sld (j := i + 2) dL_law_1149 (by omega) (by omega) hL ?_
  refine l_call dL_law_1150 ok_X9_likeness lv11_134 (c_X9_likeness J.1 J.2.2 (rx _) (rx _)) rfl (congrArg Prod.fst g0_0) (by decide) (by decide) rfl (by decide) (Nat.le_of_ble_eq_true rfl) (fun z1 m1 r1 k1 => ?_)
  refine w_aload_n dL_law_1153 rfl ?_
  refine w_aldz dL_law_1154 rfl ?_
  refine w_iload_n dL_law_1155 rfl ?_
  refine w_iconst dL_law_1156 ?_
  refine w_iadd dL_law_1157 ?_
  refine l_sld (j := i + 1) dL_law_1158 (by omega) (by omega) hL ?_
  refine w_aldz dL_law_1159 rfl ?_
  refine w_iload_n dL_law_1160 rfl ?_
  refine w_iconst dL_law_1161 ?_
  refine w_iadd dL_law_1162 ?_
  refine l_sld (j := i + 2) dL_law_1163 (by omega) (by omega) hL ?_
  refine l_call dL_law_1164 ok_X10_likeness lv11_137 (c_X10_likeness (J.ref k1) J.2.2 (rx _) (rx _)) rfl (congrArg Prod.fst g0_238) (by decide) (by decide) rfl (by decide) (Nat.le_of_ble_eq_true rfl) (fun z2 m2 r2 k2 => ?_)
  obtain ⟨e, J2⟩ := INV.step k1 k2 (POK_like J.2.2 _ _)
  exact w_icmp_eq (tgt := 1476) dL_law_1167 (by decide) r1 r2 (fun _ => nx m2 _ J2) (fun h => absurd e h)
theorem law_30 {nm : String} {E : EV} {M : MM} {p : PS} {i : Nat} {Q : PP} (hL : eL E ≤ 384) (hi : i + 6 ≤ eL E) (J : INV M p) (nx : ∀ m p2, INV m p2 → Wp E (mLaw nm) kL 1476 (lL i) [] N0 G0 m Q) : Wp E (mLaw nm) kL 1172 (lL i) [] N0 G0 M Q := by
  refine w_aload_n dL_law_1172 rfl ?_
  refine w_aldz dL_law_1173 rfl ?_
  refine w_iload_n dL_law_1174 rfl ?_
  refine w_iconst dL_law_1175 ?_
  refine w_iadd dL_law_1176 ?_
  refine l_sld (j := i + 1) dL_law_1177 (by omega) (by omega) hL ?_
  refine l_call dL_law_1178 ok_X9_estate lv11_138 (c_X9_estate J.1 J.2.2 (rx _)) rfl (congrArg Prod.fst g0_0) (by decide) (by decide) rfl (by decide) (Nat.le_of_ble_eq_true rfl) (fun z1 m1 r1 k1 => ?_)
  refine w_aload_n dL_law_1181 rfl ?_
  refine w_aldz dL_law_1182 rfl ?_
  refine w_iload_n dL_law_1183 rfl ?_
  refine w_iconst dL_law_1184 ?_
  refine w_iadd dL_law_1185 ?_
  refine l_sld (j := i + 1) dL_law_1186 (by omega) (by omega) hL ?_
  refine l_call dL_law_1187 ok_X10_estate lv11_141 (c_X10_estate (J.ref k1) J.2.2 (rx _)) rfl (congrArg Prod.fst g0_238) (by decide) (by decide) rfl (by decide) (Nat.le_of_ble_eq_true rfl) (fun z2 m2 r2 k2 => ?_)
  obtain ⟨e, J2⟩ := INV.step k1 k2 (POK_est J.2.2 _)
  exact w_icmp_eq (tgt := 1476) dL_law_1190 (by decide) r1 r2 (fun _ => nx m2 _ J2) (fun h => absurd e h)
theorem law_31 {nm : String} {E : EV} {M : MM} {p : PS} {i : Nat} {Q : PP} (hL : eL E ≤ 384) (hi : i + 6 ≤ eL E) (J : INV M p) (nx : ∀ m p2, INV m p2 → Wp E (mLaw nm) kL 1476 (lL i) [] N0 G0 m Q) : Wp E (mLaw nm) kL 1195 (lL i) [] N0 G0 M Q := by
  refine w_aload_n dL_law_1195 rfl ?_
  refine w_aldz dL_law_1196 rfl ?_
  refine w_iload_n dL_law_1197 rfl ?_
  refine w_iconst dL_law_1198 ?_
  refine w_iadd dL_law_1199 ?_
  refine l_sld (j := i + 1) dL_law_1200 (by omega) (by omega) hL ?_
  refine w_aldz dL_law_1201 rfl ?_
  refine w_iload_n dL_law_1202 rfl ?_
  refine w_iconst dL_law_1203 ?_
  refine w_iadd dL_law_1204 ?_
  refine l_sld (j := i + 2) dL_law_1205 (by omega) (by omega) hL ?_
  refine w_aldz dL_law_1206 rfl ?_
  refine w_iload_n dL_law_1207 rfl ?_
  refine w_iconst dL_law_1208 ?_
  refine w_iadd dL_law_1209 ?_
  refine l_sld (j := i + 3) dL_law_1210 (by omega) (by omega) hL ?_
  refine l_callL dL_law_1211 ok_X9_seen lv11_142 (c_X9_seen J.1 J.2.2 (rx _) (rx _) (rx _)) rfl (congrArg Prod.fst g0_0) (by decide) (by decide) rfl (by decide) (Nat.le_of_ble_eq_true rfl) (fun z1 m1 r1 k1 => ?_)
  refine w_aload_n dL_law_1214 rfl ?_
  refine w_aldz dL_law_1215 rfl ?_
  refine w_iload_n dL_law_1216 rfl ?_
  refine w_iconst dL_law_1217 ?_
  refine w_iadd dL_law_1218 ?_
  refine l_sld (j := i + 1) dL_law_1219 (by omega) (by omega) hL ?_
  refine w_aldz dL_law_1220 rfl ?_
  refine w_iload_n dL_law_1221 rfl ?_
  refine w_iconst dL_law_1222 ?_
  refine w_iadd dL_law_1223 ?_
  refine l_sld (j := i + 2) dL_law_1224 (by omega) (by omega) hL ?_
  refine w_aldz dL_law_1225 rfl ?_
  refine w_iload_n dL_law_1226 rfl ?_
  refine w_iconst dL_law_1227 ?_
  refine w_iadd dL_law_1228 ?_
  refine l_sld (j := i + 3) dL_law_1229 (by omega) (by omega) hL ?_
  refine l_callL dL_law_1230 ok_X10_seen lv11_146 (c_X10_seen (J.ref k1) J.2.2 (rx _) (rx _) (rx _)) rfl (congrArg Prod.fst g0_238) (by decide) (by decide) rfl (by decide) (Nat.le_of_ble_eq_true rfl) (fun z2 m2 r2 k2 => ?_)
  refine w_lcmp dL_law_1233 r1 r2 ?_
  obtain ⟨e, J2⟩ := INV.step k1 k2 (POK_seen J.2.2 _ _ _)
  exact w_ifL_eq (tgt := 1476) dL_law_1234 (by decide) (fun _ => nx m2 _ J2) (fun h => absurd e h)
theorem law_32 {nm : String} {E : EV} {M : MM} {p : PS} {i : Nat} {Q : PP} (hL : eL E ≤ 384) (hi : i + 6 ≤ eL E) (J : INV M p) (nx : ∀ m p2, INV m p2 → Wp E (mLaw nm) kL 1476 (lL i) [] N0 G0 m Q) : Wp E (mLaw nm) kL 1239 (lL i) [] N0 G0 M Q := by
  refine w_aload_n dL_law_1239 rfl ?_
  refine w_aldz dL_law_1240 rfl ?_
  refine w_iload_n dL_law_1241 rfl ?_
  refine w_iconst dL_law_1242 ?_
  refine w_iadd dL_law_1243 ?_
  refine l_sld (j := i + 1) dL_law_1244 (by omega) (by omega) hL ?_
  refine w_aldz dL_law_1245 rfl ?_
  refine w_iload_n dL_law_1246 rfl ?_
  refine w_iconst dL_law_1247 ?_
  refine w_iadd dL_law_1248 ?_
  refine l_sld (j := i + 2) dL_law_1249 (by omega) (by omega) hL ?_
  refine w_aldz dL_law_1250 rfl ?_
  refine w_iload_n dL_law_1251 rfl ?_
  refine w_iconst dL_law_1252 ?_
  refine w_iadd dL_law_1253 ?_
  refine l_sld (j := i + 3) dL_law_1254 (by omega) (by omega) hL ?_
  refine l_call dL_law_1255 ok_X9_drawn lv11_147 (c_X9_drawn J.1 J.2.2 (rx _) (rx _) (rx _)) rfl (congrArg Prod.fst g0_0) (by decide) (by decide) rfl (by decide) (Nat.le_of_ble_eq_true rfl) (fun z1 m1 r1 k1 => ?_)
  refine w_aload_n dL_law_1258 rfl ?_
  refine w_aldz dL_law_1259 rfl ?_
  refine w_iload_n dL_law_1260 rfl ?_
  refine w_iconst dL_law_1261 ?_
  refine w_iadd dL_law_1262 ?_
  refine l_sld (j := i + 1) dL_law_1263 (by omega) (by omega) hL ?_
  refine w_aldz dL_law_1264 rfl ?_
  refine w_iload_n dL_law_1265 rfl ?_
  refine w_iconst dL_law_1266 ?_
  refine w_iadd dL_law_1267 ?_
  refine l_sld (j := i + 2) dL_law_1268 (by omega) (by omega) hL ?_
  refine w_aldz dL_law_1269 rfl ?_
  refine w_iload_n dL_law_1270 rfl ?_
  refine w_iconst dL_law_1271 ?_
  refine w_iadd dL_law_1272 ?_
  refine l_sld (j := i + 3) dL_law_1273 (by omega) (by omega) hL ?_
  refine l_call dL_law_1274 ok_X10_drawn lv11_150 (c_X10_drawn (J.ref k1) J.2.2 (rx _) (rx _) (rx _)) rfl (congrArg Prod.fst g0_238) (by decide) (by decide) rfl (by decide) (Nat.le_of_ble_eq_true rfl) (fun z2 m2 r2 k2 => ?_)
  obtain ⟨e, J2⟩ := INV.step k1 k2 (POK_draw J.2.2 _ _ _)
  exact w_icmp_eq (tgt := 1476) dL_law_1277 (by decide) r1 r2 (fun _ => nx m2 _ J2) (fun h => absurd e h)
theorem law_33 {nm : String} {E : EV} {M : MM} {p : PS} {i : Nat} {Q : PP} (hL : eL E ≤ 384) (hi : i + 6 ≤ eL E) (J : INV M p) (nx : ∀ m p2, INV m p2 → Wp E (mLaw nm) kL 1476 (lL i) [] N0 G0 m Q) : Wp E (mLaw nm) kL 1282 (lL i) [] N0 G0 M Q := by
  refine w_aload_n dL_law_1282 rfl ?_
  refine w_aldz dL_law_1283 rfl ?_
  refine w_iload_n dL_law_1284 rfl ?_
  refine w_iconst dL_law_1285 ?_
  refine w_iadd dL_law_1286 ?_
  refine l_sld (j := i + 1) dL_law_1287 (by omega) (by omega) hL ?_
  refine l_call dL_law_1288 ok_X9_image lv11_151 (c_X9_image J.1 J.2.2 (rx _)) rfl (congrArg Prod.fst g0_0) (by decide) (by decide) rfl (by decide) (Nat.le_of_ble_eq_true rfl) (fun z1 m1 r1 k1 => ?_)
  refine w_aload_n dL_law_1291 rfl ?_
  refine w_aldz dL_law_1292 rfl ?_
  refine w_iload_n dL_law_1293 rfl ?_
  refine w_iconst dL_law_1294 ?_
  refine w_iadd dL_law_1295 ?_
  refine l_sld (j := i + 1) dL_law_1296 (by omega) (by omega) hL ?_
  refine l_call dL_law_1297 ok_X10_image lv11_154 (c_X10_image (J.ref k1) J.2.2 (rx _)) rfl (congrArg Prod.fst g0_238) (by decide) (by decide) rfl (by decide) (Nat.le_of_ble_eq_true rfl) (fun z2 m2 r2 k2 => ?_)
  obtain ⟨e, J2⟩ := INV.step k1 k2 (POK_img J.2.2 _)
  exact w_icmp_eq (tgt := 1476) dL_law_1300 (by decide) r1 r2 (fun _ => nx m2 _ J2) (fun h => absurd e h)
theorem law_34 {nm : String} {E : EV} {M : MM} {p : PS} {i : Nat} {Q : PP} (hL : eL E ≤ 384) (hi : i + 6 ≤ eL E) (J : INV M p) (nx : ∀ m p2, INV m p2 → Wp E (mLaw nm) kL 1476 (lL i) [] N0 G0 m Q) : Wp E (mLaw nm) kL 1305 (lL i) [] N0 G0 M Q := by
  refine w_aload_n dL_law_1305 rfl ?_
  refine w_aldz dL_law_1306 rfl ?_
  refine w_iload_n dL_law_1307 rfl ?_
  refine w_iconst dL_law_1308 ?_
  refine w_iadd dL_law_1309 ?_
  refine l_sld (j := i + 1) dL_law_1310 (by omega) (by omega) hL ?_
  refine l_call dL_law_1311 ok_X9_restore lv11_155 (c_X9_restore J.1 J.2.2 (rx _)) rfl (congrArg Prod.fst g0_0) (by decide) (by decide) rfl (by decide) (Nat.le_of_ble_eq_true rfl) (fun z1 m1 r1 k1 => ?_)
  refine w_aload_n dL_law_1314 rfl ?_
  refine w_aldz dL_law_1315 rfl ?_
  refine w_iload_n dL_law_1316 rfl ?_
  refine w_iconst dL_law_1317 ?_
  refine w_iadd dL_law_1318 ?_
  refine l_sld (j := i + 1) dL_law_1319 (by omega) (by omega) hL ?_
  refine l_call dL_law_1320 ok_X10_restore lv11_158 (c_X10_restore (J.ref k1) J.2.2 (rx _)) rfl (congrArg Prod.fst g0_238) (by decide) (by decide) rfl (by decide) (Nat.le_of_ble_eq_true rfl) (fun z2 m2 r2 k2 => ?_)
  obtain ⟨e, J2⟩ := INV.step k1 k2 (POK_rst J.2.2 _)
  exact w_icmp_eq (tgt := 1476) dL_law_1323 (by decide) r1 r2 (fun _ => nx m2 _ J2) (fun h => absurd e h)
theorem law_35 {nm : String} {E : EV} {M : MM} {p : PS} {i : Nat} {Q : PP} (hL : eL E ≤ 384) (hi : i + 6 ≤ eL E) (J : INV M p) (nx : ∀ m p2, INV m p2 → Wp E (mLaw nm) kL 1476 (lL i) [] N0 G0 m Q) : Wp E (mLaw nm) kL 1328 (lL i) [] N0 G0 M Q := by
  refine w_aload_n dL_law_1328 rfl ?_
  refine w_aldz dL_law_1329 rfl ?_
  refine w_iload_n dL_law_1330 rfl ?_
  refine w_iconst dL_law_1331 ?_
  refine w_iadd dL_law_1332 ?_
  refine l_sld (j := i + 1) dL_law_1333 (by omega) (by omega) hL ?_
  refine l_call dL_law_1334 ok_X9_kind lv11_159 (c_X9_kind J.1 J.2.2 (rx _)) rfl (congrArg Prod.fst g0_0) (by decide) (by decide) rfl (by decide) (Nat.le_of_ble_eq_true rfl) (fun z1 m1 r1 k1 => ?_)
  refine w_aload_n dL_law_1337 rfl ?_
  refine w_aldz dL_law_1338 rfl ?_
  refine w_iload_n dL_law_1339 rfl ?_
  refine w_iconst dL_law_1340 ?_
  refine w_iadd dL_law_1341 ?_
  refine l_sld (j := i + 1) dL_law_1342 (by omega) (by omega) hL ?_
  refine l_call dL_law_1343 ok_X10_kind lv11_162 (c_X10_kind (J.ref k1) J.2.2 (rx _)) rfl (congrArg Prod.fst g0_238) (by decide) (by decide) rfl (by decide) (Nat.le_of_ble_eq_true rfl) (fun z2 m2 r2 k2 => ?_)
  obtain ⟨e, J2⟩ := INV.step k1 k2 (POK_kind J.2.2 _)
  exact w_icmp_eq (tgt := 1476) dL_law_1346 (by decide) r1 r2 (fun _ => nx m2 _ J2) (fun h => absurd e h)
theorem law_36 {nm : String} {E : EV} {M : MM} {p : PS} {i : Nat} {Q : PP} (hL : eL E ≤ 384) (hi : i + 6 ≤ eL E) (J : INV M p) (nx : ∀ m p2, INV m p2 → Wp E (mLaw nm) kL 1476 (lL i) [] N0 G0 m Q) : Wp E (mLaw nm) kL 1351 (lL i) [] N0 G0 M Q := by
  refine w_aload_n dL_law_1351 rfl ?_
  refine w_aldz dL_law_1352 rfl ?_
  refine w_iload_n dL_law_1353 rfl ?_
  refine w_iconst dL_law_1354 ?_
  refine w_iadd dL_law_1355 ?_
  refine l_sld (j := i + 1) dL_law_1356 (by omega) (by omega) hL ?_
  refine w_aldz dL_law_1357 rfl ?_
  refine w_iload_n dL_law_1358 rfl ?_
  refine w_iconst dL_law_1359 ?_
  refine w_iadd dL_law_1360 ?_
  refine l_sld (j := i + 2) dL_law_1361 (by omega) (by omega) hL ?_
  refine l_call dL_law_1362 ok_X9_as lv11_163 (c_X9_as J.1 J.2.2 (rx _) (rx _)) rfl (congrArg Prod.fst g0_0) (by decide) (by decide) rfl (by decide) (Nat.le_of_ble_eq_true rfl) (fun z1 m1 r1 k1 => ?_)
  refine w_aload_n dL_law_1365 rfl ?_
  refine w_aldz dL_law_1366 rfl ?_
  refine w_iload_n dL_law_1367 rfl ?_
  refine w_iconst dL_law_1368 ?_
  refine w_iadd dL_law_1369 ?_
  refine l_sld (j := i + 1) dL_law_1370 (by omega) (by omega) hL ?_
  refine w_aldz dL_law_1371 rfl ?_
  refine w_iload_n dL_law_1372 rfl ?_
  refine w_iconst dL_law_1373 ?_
  refine w_iadd dL_law_1374 ?_
  refine l_sld (j := i + 2) dL_law_1375 (by omega) (by omega) hL ?_
  refine l_call dL_law_1376 ok_X10_as lv11_166 (c_X10_as (J.ref k1) J.2.2 (rx _) (rx _)) rfl (congrArg Prod.fst g0_238) (by decide) (by decide) rfl (by decide) (Nat.le_of_ble_eq_true rfl) (fun z2 m2 r2 k2 => ?_)
  obtain ⟨e, J2⟩ := INV.step k1 k2 (POK_as J.2.2 _ _)
  exact w_icmp_eq (tgt := 1476) dL_law_1379 (by decide) r1 r2 (fun _ => nx m2 _ J2) (fun h => absurd e h)
theorem law_37 {nm : String} {E : EV} {M : MM} {p : PS} {i : Nat} {Q : PP} (hL : eL E ≤ 384) (hi : i + 6 ≤ eL E) (J : INV M p) (nx : ∀ m p2, INV m p2 → Wp E (mLaw nm) kL 1476 (lL i) [] N0 G0 m Q) : Wp E (mLaw nm) kL 1384 (lL i) [] N0 G0 M Q := by
  refine w_aload_n dL_law_1384 rfl ?_
  refine w_aldz dL_law_1385 rfl ?_
  refine w_iload_n dL_law_1386 rfl ?_
  refine w_iconst dL_law_1387 ?_
  refine w_iadd dL_law_1388 ?_
  refine l_sld (j := i + 1) dL_law_1389 (by omega) (by omega) hL ?_
  refine w_aldz dL_law_1390 rfl ?_
  refine w_iload_n dL_law_1391 rfl ?_
  refine w_iconst dL_law_1392 ?_
  refine w_iadd dL_law_1393 ?_
  refine l_sld (j := i + 2) dL_law_1394 (by omega) (by omega) hL ?_
  refine l_call dL_law_1395 ok_X9_ask lv11_167 (c_X9_ask J.1 J.2.2 (rx _) (rx _)) rfl (congrArg Prod.fst g0_0) (by decide) (by decide) rfl (by decide) (Nat.le_of_ble_eq_true rfl) (fun z1 m1 r1 k1 => ?_)
  refine w_aload_n dL_law_1398 rfl ?_
  refine w_aldz dL_law_1399 rfl ?_
  refine w_iload_n dL_law_1400 rfl ?_
  refine w_iconst dL_law_1401 ?_
  refine w_iadd dL_law_1402 ?_
  refine l_sld (j := i + 1) dL_law_1403 (by omega) (by omega) hL ?_
  refine w_aldz dL_law_1404 rfl ?_
  refine w_iload_n dL_law_1405 rfl ?_
  refine w_iconst dL_law_1406 ?_
  refine w_iadd dL_law_1407 ?_
  refine l_sld (j := i + 2) dL_law_1408 (by omega) (by omega) hL ?_
  refine l_call dL_law_1409 ok_X10_ask lv11_170 (c_X10_ask (J.ref k1) J.2.2 (rx _) (rx _)) rfl (congrArg Prod.fst g0_238) (by decide) (by decide) rfl (by decide) (Nat.le_of_ble_eq_true rfl) (fun z2 m2 r2 k2 => ?_)
  obtain ⟨e, J2⟩ := INV.step k1 k2 (POK_ask J.2.2 _ _)
  exact w_icmp_eq (tgt := 1476) dL_law_1412 (by decide) r1 r2 (fun _ => nx m2 _ J2) (fun h => absurd e h)
theorem law_38 {nm : String} {E : EV} {M : MM} {p : PS} {i : Nat} {Q : PP} (hL : eL E ≤ 384) (hi : i + 6 ≤ eL E) (J : INV M p) (nx : ∀ m p2, INV m p2 → Wp E (mLaw nm) kL 1476 (lL i) [] N0 G0 m Q) : Wp E (mLaw nm) kL 1417 (lL i) [] N0 G0 M Q := by
  refine w_aload_n dL_law_1417 rfl ?_
  refine w_aldz dL_law_1418 rfl ?_
  refine w_iload_n dL_law_1419 rfl ?_
  refine w_iconst dL_law_1420 ?_
  refine w_iadd dL_law_1421 ?_
  refine l_sld (j := i + 1) dL_law_1422 (by omega) (by omega) hL ?_
  refine l_call dL_law_1423 ok_X9_trace lv11_171 (c_X9_trace J.1 J.2.2 (rx _)) rfl (congrArg Prod.fst g0_0) (by decide) (by decide) rfl (by decide) (Nat.le_of_ble_eq_true rfl) (fun z1 m1 r1 k1 => ?_)
  refine w_aload_n dL_law_1426 rfl ?_
  refine w_aldz dL_law_1427 rfl ?_
  refine w_iload_n dL_law_1428 rfl ?_
  refine w_iconst dL_law_1429 ?_
  refine w_iadd dL_law_1430 ?_
  refine l_sld (j := i + 1) dL_law_1431 (by omega) (by omega) hL ?_
  refine l_call dL_law_1432 ok_X10_trace lv11_174 (c_X10_trace (J.ref k1) J.2.2 (rx _)) rfl (congrArg Prod.fst g0_238) (by decide) (by decide) rfl (by decide) (Nat.le_of_ble_eq_true rfl) (fun z2 m2 r2 k2 => ?_)
  obtain ⟨e, J2⟩ := INV.step k1 k2 (POK_trace J.2.2 _)
  exact w_icmp_eq (tgt := 1476) dL_law_1435 (by decide) r1 r2 (fun _ => nx m2 _ J2) (fun h => absurd e h)
theorem law_39 {nm : String} {E : EV} {M : MM} {p : PS} {i : Nat} {Q : PP} (hL : eL E ≤ 384) (hi : i + 6 ≤ eL E) (J : INV M p) (nx : ∀ m p2, INV m p2 → Wp E (mLaw nm) kL 1476 (lL i) [] N0 G0 m Q) : Wp E (mLaw nm) kL 1440 (lL i) [] N0 G0 M Q := by
  refine w_aload_n dL_law_1440 rfl ?_
  refine w_aldz dL_law_1441 rfl ?_
  refine w_iload_n dL_law_1442 rfl ?_
  refine w_iconst dL_law_1443 ?_
  refine w_iadd dL_law_1444 ?_
  refine l_sld (j := i + 1) dL_law_1445 (by omega) (by omega) hL ?_
  refine l_call dL_law_1446 ok_X9_count lv11_175 (c_X9_count J.1 J.2.2 (rx _)) rfl (congrArg Prod.fst g0_0) (by decide) (by decide) rfl (by decide) (Nat.le_of_ble_eq_true rfl) (fun z1 m1 r1 k1 => ?_)
  refine w_aload_n dL_law_1449 rfl ?_
  refine w_aldz dL_law_1450 rfl ?_
  refine w_iload_n dL_law_1451 rfl ?_
  refine w_iconst dL_law_1452 ?_
  refine w_iadd dL_law_1453 ?_
  refine l_sld (j := i + 1) dL_law_1454 (by omega) (by omega) hL ?_
  refine l_call dL_law_1455 ok_X10_count lv11_178 (c_X10_count (J.ref k1) J.2.2 (rx _)) rfl (congrArg Prod.fst g0_238) (by decide) (by decide) rfl (by decide) (Nat.le_of_ble_eq_true rfl) (fun z2 m2 r2 k2 => ?_)
  obtain ⟨e, J2⟩ := INV.step k1 k2 (POK_count J.2.2 _)
  exact w_icmp_eq (tgt := 1476) dL_law_1458 (by decide) r1 r2 (fun _ => nx m2 _ J2) (fun h => absurd e h)
theorem law_40 {nm : String} {E : EV} {M : MM} {p : PS} {i : Nat} {Q : PP} (hL : eL E ≤ 384) (hi : i + 6 ≤ eL E) (J : INV M p) (nx : ∀ m p2, INV m p2 → Wp E (mLaw nm) kL 1476 (lL i) [] N0 G0 m Q) : Wp E (mLaw nm) kL 1463 (lL i) [] N0 G0 M Q := by
  refine w_aload_n dL_law_1463 rfl ?_
  refine l_call dL_law_1464 ok_X9_status lv11_179 (c_X9_status J.1) rfl (congrArg Prod.fst g0_0) (by decide) (by decide) rfl (by decide) (Nat.le_of_ble_eq_true rfl) (fun z1 m1 r1 k1 => ?_)
  refine w_aload_n dL_law_1467 rfl ?_
  refine l_call dL_law_1468 ok_X10_status lv11_182 (c_X10_status (J.ref k1)) rfl (congrArg Prod.fst g0_238) (by decide) (by decide) rfl (by decide) (Nat.le_of_ble_eq_true rfl) (fun z2 m2 r2 k2 => ?_)
  obtain ⟨e, J2⟩ := INV.step k1 k2 J.2.2
  exact w_icmp_eq (tgt := 1476) dL_law_1471 (by decide) r1 r2 (fun _ => nx m2 _ J2) (fun h => absurd e h)
theorem law_sw {nm : String} {E : EV} {M : MM} {p : PS} {i : Nat} {z : Int} {Q : PP} (hL : eL E ≤ 384) (hi : i + 6 ≤ eL E) (z0 : 0 ≤ z) (z1 : z < 64) (J : INV M p) (nx : ∀ m p', INV m p' → Wp E (mLaw nm) kL 1476 (lL i) [] N0 G0 m Q) : Wp E (mLaw nm) kL 33 (lL i) [vi z] N0 G0 M Q := by
  by_cases h0 : z = 0
  · subst h0
    exact w_tabIn (tgt := 212) (off := 179) dL_law_33 (by decide) (by decide) (by decide) rfl (by decide) (law_0 hL hi J nx)
  by_cases h1 : z = 1
  · subst h1
    exact w_tabIn (tgt := 255) (off := 222) dL_law_33 (by decide) (by decide) (by decide) rfl (by decide) (law_1 hL hi J nx)
  by_cases h2 : z = 2
  · subst h2
    exact w_tabIn (tgt := 298) (off := 265) dL_law_33 (by decide) (by decide) (by decide) rfl (by decide) (law_2 hL hi J nx)
  by_cases h3 : z = 3
  · subst h3
    exact w_tabIn (tgt := 361) (off := 328) dL_law_33 (by decide) (by decide) (by decide) rfl (by decide) (law_3 hL hi J nx)
  by_cases h4 : z = 4
  · subst h4
    exact w_tabIn (tgt := 384) (off := 351) dL_law_33 (by decide) (by decide) (by decide) rfl (by decide) (law_4 hL hi J nx)
  by_cases h5 : z = 5
  · subst h5
    exact w_tabIn (tgt := 407) (off := 374) dL_law_33 (by decide) (by decide) (by decide) rfl (by decide) (law_5 hL hi J nx)
  by_cases h6 : z = 6
  · subst h6
    exact w_tabIn (tgt := 420) (off := 387) dL_law_33 (by decide) (by decide) (by decide) rfl (by decide) (law_6 hL hi J nx)
  by_cases h7 : z = 7
  · subst h7
    exact w_tabIn (tgt := 433) (off := 400) dL_law_33 (by decide) (by decide) (by decide) rfl (by decide) (law_7 hL hi J nx)
  by_cases h8 : z = 8
  · subst h8
    exact w_tabIn (tgt := 446) (off := 413) dL_law_33 (by decide) (by decide) (by decide) rfl (by decide) (law_8 hL hi J nx)
  by_cases h9 : z = 9
  · subst h9
    exact w_tabIn (tgt := 469) (off := 436) dL_law_33 (by decide) (by decide) (by decide) rfl (by decide) (law_9 hL hi J nx)
  by_cases h10 : z = 10
  · subst h10
    exact w_tabIn (tgt := 492) (off := 459) dL_law_33 (by decide) (by decide) (by decide) rfl (by decide) (law_10 hL hi J nx)
  by_cases h11 : z = 11
  · subst h11
    exact w_tabIn (tgt := 525) (off := 492) dL_law_33 (by decide) (by decide) (by decide) rfl (by decide) (law_11 hL hi J nx)
  by_cases h12 : z = 12
  · subst h12
    exact w_tabIn (tgt := 548) (off := 515) dL_law_33 (by decide) (by decide) (by decide) rfl (by decide) (law_12 hL hi J nx)
  by_cases h13 : z = 13
  · subst h13
    exact w_tabIn (tgt := 581) (off := 548) dL_law_33 (by decide) (by decide) (by decide) rfl (by decide) (law_13 hL hi J nx)
  by_cases h14 : z = 14
  · subst h14
    exact w_tabIn (tgt := 614) (off := 581) dL_law_33 (by decide) (by decide) (by decide) rfl (by decide) (law_14 hL hi J nx)
  by_cases h15 : z = 15
  · subst h15
    exact w_tabIn (tgt := 647) (off := 614) dL_law_33 (by decide) (by decide) (by decide) rfl (by decide) (law_15 hL hi J nx)
  by_cases h16 : z = 16
  · subst h16
    exact w_tabIn (tgt := 690) (off := 657) dL_law_33 (by decide) (by decide) (by decide) rfl (by decide) (law_16 hL hi J nx)
  by_cases h17 : z = 17
  · subst h17
    exact w_tabIn (tgt := 723) (off := 690) dL_law_33 (by decide) (by decide) (by decide) rfl (by decide) (law_17 hL hi J nx)
  by_cases h18 : z = 18
  · subst h18
    exact w_tabIn (tgt := 756) (off := 723) dL_law_33 (by decide) (by decide) (by decide) rfl (by decide) (law_18 hL hi J nx)
  by_cases h19 : z = 19
  · subst h19
    exact w_tabIn (tgt := 779) (off := 746) dL_law_33 (by decide) (by decide) (by decide) rfl (by decide) (law_19 hL hi J nx)
  by_cases h20 : z = 20
  · subst h20
    exact w_tabIn (tgt := 802) (off := 769) dL_law_33 (by decide) (by decide) (by decide) rfl (by decide) (law_20 hL hi J nx)
  by_cases h21 : z = 21
  · subst h21
    exact w_tabIn (tgt := 825) (off := 792) dL_law_33 (by decide) (by decide) (by decide) rfl (by decide) (law_21 hL hi J nx)
  by_cases h22 : z = 22
  · subst h22
    exact w_tabIn (tgt := 858) (off := 825) dL_law_33 (by decide) (by decide) (by decide) rfl (by decide) (law_22 hL hi J nx)
  by_cases h23 : z = 23
  · subst h23
    exact w_tabIn (tgt := 881) (off := 848) dL_law_33 (by decide) (by decide) (by decide) rfl (by decide) (law_23 hL hi J nx)
  by_cases h24 : z = 24
  · subst h24
    exact w_tabIn (tgt := 924) (off := 891) dL_law_33 (by decide) (by decide) (by decide) rfl (by decide) (law_24 hL hi J nx)
  by_cases h25 : z = 25
  · subst h25
    exact w_tabIn (tgt := 957) (off := 924) dL_law_33 (by decide) (by decide) (by decide) rfl (by decide) (law_25 hL hi J nx)
  by_cases h26 : z = 26
  · subst h26
    exact w_tabIn (tgt := 1020) (off := 987) dL_law_33 (by decide) (by decide) (by decide) rfl (by decide) (law_26 hL hi J nx)
  by_cases h27 : z = 27
  · subst h27
    exact w_tabIn (tgt := 1083) (off := 1050) dL_law_33 (by decide) (by decide) (by decide) rfl (by decide) (law_27 hL hi J nx)
  by_cases h28 : z = 28
  · subst h28
    exact w_tabIn (tgt := 1116) (off := 1083) dL_law_33 (by decide) (by decide) (by decide) rfl (by decide) (law_28 hL hi J nx)
  by_cases h29 : z = 29
  · subst h29
    exact w_tabIn (tgt := 1139) (off := 1106) dL_law_33 (by decide) (by decide) (by decide) rfl (by decide) (law_29 hL hi J nx)
  by_cases h30 : z = 30
  · subst h30
    exact w_tabIn (tgt := 1172) (off := 1139) dL_law_33 (by decide) (by decide) (by decide) rfl (by decide) (law_30 hL hi J nx)
  by_cases h31 : z = 31
  · subst h31
    exact w_tabIn (tgt := 1195) (off := 1162) dL_law_33 (by decide) (by decide) (by decide) rfl (by decide) (law_31 hL hi J nx)
  by_cases h32 : z = 32
  · subst h32
    exact w_tabIn (tgt := 1239) (off := 1206) dL_law_33 (by decide) (by decide) (by decide) rfl (by decide) (law_32 hL hi J nx)
  by_cases h33 : z = 33
  · subst h33
    exact w_tabIn (tgt := 1282) (off := 1249) dL_law_33 (by decide) (by decide) (by decide) rfl (by decide) (law_33 hL hi J nx)
  by_cases h34 : z = 34
  · subst h34
    exact w_tabIn (tgt := 1305) (off := 1272) dL_law_33 (by decide) (by decide) (by decide) rfl (by decide) (law_34 hL hi J nx)
  by_cases h35 : z = 35
  · subst h35
    exact w_tabIn (tgt := 1328) (off := 1295) dL_law_33 (by decide) (by decide) (by decide) rfl (by decide) (law_35 hL hi J nx)
  by_cases h36 : z = 36
  · subst h36
    exact w_tabIn (tgt := 1351) (off := 1318) dL_law_33 (by decide) (by decide) (by decide) rfl (by decide) (law_36 hL hi J nx)
  by_cases h37 : z = 37
  · subst h37
    exact w_tabIn (tgt := 1384) (off := 1351) dL_law_33 (by decide) (by decide) (by decide) rfl (by decide) (law_37 hL hi J nx)
  by_cases h38 : z = 38
  · subst h38
    exact w_tabIn (tgt := 1417) (off := 1384) dL_law_33 (by decide) (by decide) (by decide) rfl (by decide) (law_38 hL hi J nx)
  by_cases h39 : z = 39
  · subst h39
    exact w_tabIn (tgt := 1440) (off := 1407) dL_law_33 (by decide) (by decide) (by decide) rfl (by decide) (law_39 hL hi J nx)
  by_cases h40 : z = 40
  · subst h40
    exact w_tabIn (tgt := 1463) (off := 1430) dL_law_33 (by decide) (by decide) (by decide) rfl (by decide) (law_40 hL hi J nx)
  exact w_tabOut (tgt := 1476) dL_law_33 (by omega) (Or.inr (by omega)) (by decide) (nx M p J)
theorem law_loop {nm : String} {E : EV} (hL : eL E ≤ 384) : ∀ (j i : Nat) (M : MM) (p : PS), eL E < i + j → i ≤ 400 → INV M p → Wp E (mLaw nm) kL 18 (lL i) [] N0 G0 M PT := by
  intro j
  induction j with
  | zero =>
    intro i M p hj hi J
    refine w_iload_n dL_law_18 rfl ?_
    refine w_aldz dL_law_19 rfl ?_
    refine w_slen dL_law_20 ?_
    refine w_bipush dL_law_21 (by decide +kernel) ?_
    refine w_isub dL_law_23 ?_
    refine w_icmp_gt (tgt := 1482) dL_law_24 (by decide) (by omega) (by omega) (fun h => ?_) (fun h => absurd (by omega) h)
    refine w_iconst dL_law_1482 ?_
    exact w_zret (b := true) dL_law_1483 rfl rfl (by decide)
  | succ j ih =>
    intro i M p hj hi J
    refine w_iload_n dL_law_18 rfl ?_
    refine w_aldz dL_law_19 rfl ?_
    refine w_slen dL_law_20 ?_
    refine w_bipush dL_law_21 (by decide +kernel) ?_
    refine w_isub dL_law_23 ?_
    refine w_icmp_gt (tgt := 1482) dL_law_24 (by decide) (by omega) (by omega) (fun h => ?_) (fun h => ?_)
    · refine w_iconst dL_law_1482 ?_
      exact w_zret (b := true) dL_law_1483 rfl rfl (by decide)
    · refine w_aldz dL_law_27 rfl ?_
      refine w_iload_n dL_law_28 rfl ?_
      refine l_sld (j := i) dL_law_29 rfl (by omega) hL ?_
      refine w_bipush dL_law_30 (by decide +kernel) ?_
      refine w_ibin (r := (eX E i).toInt % 64) dL_law_32 (Or.inl ⟨rfl, b_m63 _⟩) ?_
      refine law_sw hL (by omega) (by omega) (by omega) J (fun m p' J2 => ?_)
      refine w_iinc dL_law_1476 rfl (Nat.le_of_ble_eq_true rfl) ?_
      refine w_goto (tgt := 18) dL_law_1479 (by decide) ?_
      have h9 := ih (i + 6) m p' (by omega) (by omega) J2
      exact h9
set_option maxRecDepth 100000 in
theorem law_begin {nm : String} {E : EV} (hL : eL E ≤ 384) : Wp E (mLaw nm) (1400, 600000, 7302250, 0, 0) 0 [some (vz 3), none, none, none] [] 0 (GO []) Mz PT := by
  refine k_new (ci := 9) (fs := [-3, -3, -3, -3, -3, -3, -3, -3, -3, -3, -1, -1]) (n1 := 1) (c1 := 1) (s1 := 12) dL_law_0 (by decide) cn11_7 inst9 ini9 nf9 (by decide) rfl rfl rfl (by decide) (fun _ => rfl) ?_
  refine w_dup dL_law_3 rfl ?_
  refine k_init (n1 := 238) (c1 := 238) (s1 := 2078) dL_law_4 ok_X9_init (Or.inl li11_9) c_X9_init rfl rfl (by decide) rfl rfl (by decide) (by decide) ?_
  refine w_astore_n dL_law_7 (Nat.le_of_ble_eq_true rfl) ?_
  refine k_new (ci := 10) (fs := [-3, -3, -3, -3, -1, -3, -3, -3, -1, -1, -1, -1, -1, -1, -3, -1, -3, -3, -3, -1]) (n1 := 239) (c1 := 239) (s1 := 2098) dL_law_8 (by decide) cn11_10 inst10 ini10 nf10 (by decide) rfl rfl rfl (by decide) (hz1 (by decide)) ?_
  refine w_dup dL_law_11 rfl ?_
  refine k_init (n1 := 250) (c1 := 250) (s1 := 3897) dL_law_12 ok_X10_init (Or.inl li11_12) c_X10_init rfl rfl (by decide) rfl rfl (by decide) (by decide) ?_
  refine w_astore_n dL_law_15 (Nat.le_of_ble_eq_true rfl) ?_
  refine w_iconst dL_law_16 ?_
  refine w_istore_n dL_law_17 (Nat.le_of_ble_eq_true rfl) ?_
  exact law_loop hL (eL E + 1) 0 M9 p0 (by omega) (by omega) INV0
