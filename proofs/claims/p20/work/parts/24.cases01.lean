set_option maxHeartbeats 4000000 in
set_option maxRecDepth 100000 in
theorem w_law_C4 {p : Program} {l : Launch} {e : Env} {s : State} {m : MethodId} {below : List Frame} {meth : Method} {c : Code} {D : va_G} {T : Nat → ClassId} {Ax Am : Nat → Prop} {b L bx bm : Nat} {xs : Nat → Int32} {Q : State → Prop} (C0 : fl_At p s m meth c b L xs D T Ax Am) (i : Int32) (σ τ : fr_S) (z : fr_S × fr_S) (h : m_law_C4 xs L bx bm i σ τ = some z) (H : Heap) (locs : List Loc) (hHx : fr_H D T Ax σ H) (hHm : fr_H D T Am τ H) (hS : va_S (fun q => s.heap.size ≤ q) s.heap H locs) (ls : Array Slot) (hl : lv_has ls 4 [(0, .ref b), (1, .ref bx), (2, .ref bm), (3, .int i)])
    (kx : ∀ (H : Heap) (locs : List Loc) (ls : Array Slot), fr_H D T Ax z.1 H → fr_H D T Am z.2 H → va_S (fun q => s.heap.size ≤ q) s.heap H locs → lv_has ls 4 [(0, .ref b), (1, .ref bx), (2, .ref bm), (3, .int i)] → W p l e room_1 s m #[Value.ref b] below meth c H locs 161 9742 Q (F0 m 769 ls [])) : W p l e room_1 s m #[Value.ref b] below meth c H locs 161 9742 Q (F0 m 330 ls []) := by
  obtain ⟨hx, hb, hml, hown, hts, hX, hbl, hbA, hK, hXs, hXA, hMA, hdx, hdm⟩ := C0
  unfold m_law_C4 at h
  refine lv_aload_n hx hb d_law_330 rfl (lv_at hl 1 rfl) ?_
  refine lv_aload_n hx hb d_law_331 rfl (lv_at hl 0 rfl) ?_
  refine lv_iload_n hx hb d_law_332 rfl (lv_at hl 3 rfl) ?_
  refine lv_iconst (v := 1) hx hb d_law_333 (by decide) ?_
  refine lv_iadd hx hb d_law_334 ?_
  obtain ⟨v1, e1, h⟩ := fr_bind h
  refine fl_sld hx hb hX hbl hbA hS e1 d_law_335 ?_
  refine lv_aload_n hx hb d_law_336 rfl (lv_at hl 0 rfl) ?_
  refine lv_iload_n hx hb d_law_337 rfl (lv_at hl 3 rfl) ?_
  refine lv_iconst (v := 2) hx hb d_law_338 (by decide) ?_
  refine lv_iadd hx hb d_law_339 ?_
  obtain ⟨v2, e2, h⟩ := fr_bind h
  refine fl_sld hx hb hX hbl hbA hS e2 d_law_340 ?_
  refine lv_aload_n hx hb d_law_341 rfl (lv_at hl 0 rfl) ?_
  refine lv_iload_n hx hb d_law_342 rfl (lv_at hl 3 rfl) ?_
  refine lv_iconst (v := 3) hx hb d_law_343 (by decide) ?_
  refine lv_iadd hx hb d_law_344 ?_
  obtain ⟨v3, e3, h⟩ := fr_bind h
  refine fl_sld hx hb hX hbl hbA hS e3 d_law_345 ?_
  obtain ⟨u4, e4, h⟩ := fr_bind h
  obtain ⟨w5, e5, h⟩ := fr_bind h
  refine fl_calli (fr_V (As := [.int v1, .int v2, .int v3]) (rest := []) ⟨hx, hb, hml, hown, hts⟩ (c_FR_cut l D T Ax σ bx v1 v2 v3 w5.1 w5.2 e5) k_309 mv_FR_cut rfl rfl ⟨Nat.le_of_ble_eq_true rfl, Nat.le_of_ble_eq_true rfl⟩ (fr_preV hK hXs hHx e4 rfl _) rfl hl.1 rfl (Nat.le_of_ble_eq_true rfl) d_law_346 ⟨Nat.le_of_ble_eq_true rfl, Nat.le_of_ble_eq_true rfl⟩) hS hXA hHm hdx (fun H locs hHx hHm hS => ?_)
  refine lv_pop hx hb d_law_349 rfl ?_
  refine lv_aload_n hx hb d_law_350 rfl (lv_at hl 2 rfl) ?_
  refine lv_aload_n hx hb d_law_351 rfl (lv_at hl 0 rfl) ?_
  refine lv_iload_n hx hb d_law_352 rfl (lv_at hl 3 rfl) ?_
  refine lv_iconst (v := 1) hx hb d_law_353 (by decide) ?_
  refine lv_iadd hx hb d_law_354 ?_
  obtain ⟨v6, e6, h⟩ := fr_bind h
  refine fl_sld hx hb hX hbl hbA hS e6 d_law_355 ?_
  refine lv_aload_n hx hb d_law_356 rfl (lv_at hl 0 rfl) ?_
  refine lv_iload_n hx hb d_law_357 rfl (lv_at hl 3 rfl) ?_
  refine lv_iconst (v := 2) hx hb d_law_358 (by decide) ?_
  refine lv_iadd hx hb d_law_359 ?_
  obtain ⟨v7, e7, h⟩ := fr_bind h
  refine fl_sld hx hb hX hbl hbA hS e7 d_law_360 ?_
  refine lv_aload_n hx hb d_law_361 rfl (lv_at hl 0 rfl) ?_
  refine lv_iload_n hx hb d_law_362 rfl (lv_at hl 3 rfl) ?_
  refine lv_iconst (v := 3) hx hb d_law_363 (by decide) ?_
  refine lv_iadd hx hb d_law_364 ?_
  obtain ⟨v8, e8, h⟩ := fr_bind h
  refine fl_sld hx hb hX hbl hbA hS e8 d_law_365 ?_
  obtain ⟨u9, e9, h⟩ := fr_bind h
  obtain ⟨w10, e10, h⟩ := fr_bind h
  refine fl_calli (fr_V (As := [.int v6, .int v7, .int v8]) (rest := []) ⟨hx, hb, hml, hown, hts⟩ (c_Md_cut l D T Am τ bm v6 v7 v8 w10.1 w10.2 e10) k_694 mv_Md_cut rfl rfl ⟨Nat.le_of_ble_eq_true rfl, Nat.le_of_ble_eq_true rfl⟩ (fr_preV hK hXs hHm e9 rfl _) rfl hl.1 rfl (Nat.le_of_ble_eq_true rfl) d_law_366 ⟨Nat.le_of_ble_eq_true rfl, Nat.le_of_ble_eq_true rfl⟩) hS hMA hHx hdm (fun H locs hHm hHx hS => ?_)
  refine lv_pop hx hb d_law_369 rfl ?_
  refine lv_goto (tgt := 769) hx hb d_law_370 (by decide) ?_
  cases h
  exact kx _ _ _ hHx hHm hS hl
set_option maxHeartbeats 4000000 in
set_option maxRecDepth 100000 in
theorem w_law_C5 {p : Program} {l : Launch} {e : Env} {s : State} {m : MethodId} {below : List Frame} {meth : Method} {c : Code} {D : va_G} {T : Nat → ClassId} {Ax Am : Nat → Prop} {b L bx bm : Nat} {xs : Nat → Int32} {Q : State → Prop} (C0 : fl_At p s m meth c b L xs D T Ax Am) (i : Int32) (σ τ : fr_S) (z : fr_S × fr_S) (h : m_law_C5 xs L bx bm i σ τ = some z) (H : Heap) (locs : List Loc) (hHx : fr_H D T Ax σ H) (hHm : fr_H D T Am τ H) (hS : va_S (fun q => s.heap.size ≤ q) s.heap H locs) (ls : Array Slot) (hl : lv_has ls 4 [(0, .ref b), (1, .ref bx), (2, .ref bm), (3, .int i)])
    (kx : ∀ (H : Heap) (locs : List Loc) (ls : Array Slot), fr_H D T Ax z.1 H → fr_H D T Am z.2 H → va_S (fun q => s.heap.size ≤ q) s.heap H locs → lv_has ls 4 [(0, .ref b), (1, .ref bx), (2, .ref bm), (3, .int i)] → W p l e room_1 s m #[Value.ref b] below meth c H locs 161 9742 Q (F0 m 769 ls [])) : W p l e room_1 s m #[Value.ref b] below meth c H locs 161 9742 Q (F0 m 373 ls []) := by
  obtain ⟨hx, hb, hml, hown, hts, hX, hbl, hbA, hK, hXs, hXA, hMA, hdx, hdm⟩ := C0
  unfold m_law_C5 at h
  refine lv_aload_n hx hb d_law_373 rfl (lv_at hl 1 rfl) ?_
  refine lv_aload_n hx hb d_law_374 rfl (lv_at hl 0 rfl) ?_
  refine lv_iload_n hx hb d_law_375 rfl (lv_at hl 3 rfl) ?_
  refine lv_iconst (v := 1) hx hb d_law_376 (by decide) ?_
  refine lv_iadd hx hb d_law_377 ?_
  obtain ⟨v1, e1, h⟩ := fr_bind h
  refine fl_sld hx hb hX hbl hbA hS e1 d_law_378 ?_
  obtain ⟨u2, e2, h⟩ := fr_bind h
  obtain ⟨r3, e3, h⟩ := fr_bind h
  refine fl_calli (fr_V (As := [.int v1]) (rest := []) ⟨hx, hb, hml, hown, hts⟩ (c_FR_digest l D T Ax σ bx v1 r3 e3) k_313 mv_FR_digest rfl rfl ⟨Nat.le_of_ble_eq_true rfl, Nat.le_of_ble_eq_true rfl⟩ (fr_preV hK hXs hHx e2 rfl _) rfl hl.1 rfl (Nat.le_of_ble_eq_true rfl) d_law_379 ⟨Nat.le_of_ble_eq_true rfl, Nat.le_of_ble_eq_true rfl⟩) hS hXA hHm hdx (fun H locs hHx hHm hS => ?_)
  refine lv_pop hx hb d_law_382 rfl ?_
  refine lv_aload_n hx hb d_law_383 rfl (lv_at hl 2 rfl) ?_
  refine lv_aload_n hx hb d_law_384 rfl (lv_at hl 0 rfl) ?_
  refine lv_iload_n hx hb d_law_385 rfl (lv_at hl 3 rfl) ?_
  refine lv_iconst (v := 1) hx hb d_law_386 (by decide) ?_
  refine lv_iadd hx hb d_law_387 ?_
  obtain ⟨v4, e4, h⟩ := fr_bind h
  refine fl_sld hx hb hX hbl hbA hS e4 d_law_388 ?_
  obtain ⟨u5, e5, h⟩ := fr_bind h
  obtain ⟨w6, e6, h⟩ := fr_bind h
  refine fl_calli (fr_V (As := [.int v4]) (rest := []) ⟨hx, hb, hml, hown, hts⟩ (c_Md_digest l D T Am τ bm v4 w6.1 w6.2 e6) k_698 mv_Md_digest rfl rfl ⟨Nat.le_of_ble_eq_true rfl, Nat.le_of_ble_eq_true rfl⟩ (fr_preV hK hXs hHm e5 rfl _) rfl hl.1 rfl (Nat.le_of_ble_eq_true rfl) d_law_389 ⟨Nat.le_of_ble_eq_true rfl, Nat.le_of_ble_eq_true rfl⟩) hS hMA hHx hdm (fun H locs hHm hHx hS => ?_)
  refine lv_pop hx hb d_law_392 rfl ?_
  refine lv_goto (tgt := 769) hx hb d_law_393 (by decide) ?_
  cases h
  exact kx _ _ _ hHx hHm hS hl
set_option maxHeartbeats 4000000 in
set_option maxRecDepth 100000 in
theorem w_law_C6 {p : Program} {l : Launch} {e : Env} {s : State} {m : MethodId} {below : List Frame} {meth : Method} {c : Code} {D : va_G} {T : Nat → ClassId} {Ax Am : Nat → Prop} {b L bx bm : Nat} {xs : Nat → Int32} {Q : State → Prop} (C0 : fl_At p s m meth c b L xs D T Ax Am) (i : Int32) (σ τ : fr_S) (z : fr_S × fr_S) (h : m_law_C6 xs L bx bm i σ τ = some z) (H : Heap) (locs : List Loc) (hHx : fr_H D T Ax σ H) (hHm : fr_H D T Am τ H) (hS : va_S (fun q => s.heap.size ≤ q) s.heap H locs) (ls : Array Slot) (hl : lv_has ls 4 [(0, .ref b), (1, .ref bx), (2, .ref bm), (3, .int i)])
    (kx : ∀ (H : Heap) (locs : List Loc) (ls : Array Slot), fr_H D T Ax z.1 H → fr_H D T Am z.2 H → va_S (fun q => s.heap.size ≤ q) s.heap H locs → lv_has ls 4 [(0, .ref b), (1, .ref bx), (2, .ref bm), (3, .int i)] → W p l e room_1 s m #[Value.ref b] below meth c H locs 161 9742 Q (F0 m 769 ls [])) : W p l e room_1 s m #[Value.ref b] below meth c H locs 161 9742 Q (F0 m 396 ls []) := by
  obtain ⟨hx, hb, hml, hown, hts, hX, hbl, hbA, hK, hXs, hXA, hMA, hdx, hdm⟩ := C0
  unfold m_law_C6 at h
  refine lv_aload_n hx hb d_law_396 rfl (lv_at hl 1 rfl) ?_
  refine lv_aload_n hx hb d_law_397 rfl (lv_at hl 0 rfl) ?_
  refine lv_iload_n hx hb d_law_398 rfl (lv_at hl 3 rfl) ?_
  refine lv_iconst (v := 1) hx hb d_law_399 (by decide) ?_
  refine lv_iadd hx hb d_law_400 ?_
  obtain ⟨v1, e1, h⟩ := fr_bind h
  refine fl_sld hx hb hX hbl hbA hS e1 d_law_401 ?_
  obtain ⟨u2, e2, h⟩ := fr_bind h
  obtain ⟨w3, e3, h⟩ := fr_bind h
  refine fl_calli (fr_V (As := [.int v1]) (rest := []) ⟨hx, hb, hml, hown, hts⟩ (c_FR_want l D T Ax σ bx v1 w3.1 w3.2 e3) k_322 mv_FR_want rfl rfl ⟨Nat.le_of_ble_eq_true rfl, Nat.le_of_ble_eq_true rfl⟩ (fr_preV hK hXs hHx e2 rfl _) rfl hl.1 rfl (Nat.le_of_ble_eq_true rfl) d_law_402 ⟨Nat.le_of_ble_eq_true rfl, Nat.le_of_ble_eq_true rfl⟩) hS hXA hHm hdx (fun H locs hHx hHm hS => ?_)
  refine lv_pop hx hb d_law_405 rfl ?_
  refine lv_aload_n hx hb d_law_406 rfl (lv_at hl 2 rfl) ?_
  refine lv_aload_n hx hb d_law_407 rfl (lv_at hl 0 rfl) ?_
  refine lv_iload_n hx hb d_law_408 rfl (lv_at hl 3 rfl) ?_
  refine lv_iconst (v := 1) hx hb d_law_409 (by decide) ?_
  refine lv_iadd hx hb d_law_410 ?_
  obtain ⟨v4, e4, h⟩ := fr_bind h
  refine fl_sld hx hb hX hbl hbA hS e4 d_law_411 ?_
  obtain ⟨u5, e5, h⟩ := fr_bind h
  obtain ⟨w6, e6, h⟩ := fr_bind h
  refine fl_calli (fr_V (As := [.int v4]) (rest := []) ⟨hx, hb, hml, hown, hts⟩ (c_Md_want l D T Am τ bm v4 w6.1 w6.2 e6) k_706 mv_Md_want rfl rfl ⟨Nat.le_of_ble_eq_true rfl, Nat.le_of_ble_eq_true rfl⟩ (fr_preV hK hXs hHm e5 rfl _) rfl hl.1 rfl (Nat.le_of_ble_eq_true rfl) d_law_412 ⟨Nat.le_of_ble_eq_true rfl, Nat.le_of_ble_eq_true rfl⟩) hS hMA hHx hdm (fun H locs hHm hHx hS => ?_)
  refine lv_pop hx hb d_law_415 rfl ?_
  refine lv_goto (tgt := 769) hx hb d_law_416 (by decide) ?_
  cases h
  exact kx _ _ _ hHx hHm hS hl
set_option maxHeartbeats 4000000 in
set_option maxRecDepth 100000 in
theorem w_law_C7 {p : Program} {l : Launch} {e : Env} {s : State} {m : MethodId} {below : List Frame} {meth : Method} {c : Code} {D : va_G} {T : Nat → ClassId} {Ax Am : Nat → Prop} {b L bx bm : Nat} {xs : Nat → Int32} {Q : State → Prop} (C0 : fl_At p s m meth c b L xs D T Ax Am) (i : Int32) (σ τ : fr_S) (z : fr_S × fr_S) (h : m_law_C7 xs L bx bm i σ τ = some z) (H : Heap) (locs : List Loc) (hHx : fr_H D T Ax σ H) (hHm : fr_H D T Am τ H) (hS : va_S (fun q => s.heap.size ≤ q) s.heap H locs) (ls : Array Slot) (hl : lv_has ls 4 [(0, .ref b), (1, .ref bx), (2, .ref bm), (3, .int i)])
    (kx : ∀ (H : Heap) (locs : List Loc) (ls : Array Slot), fr_H D T Ax z.1 H → fr_H D T Am z.2 H → va_S (fun q => s.heap.size ≤ q) s.heap H locs → lv_has ls 4 [(0, .ref b), (1, .ref bx), (2, .ref bm), (3, .int i)] → W p l e room_1 s m #[Value.ref b] below meth c H locs 161 9742 Q (F0 m 769 ls [])) : W p l e room_1 s m #[Value.ref b] below meth c H locs 161 9742 Q (F0 m 419 ls []) := by
  obtain ⟨hx, hb, hml, hown, hts, hX, hbl, hbA, hK, hXs, hXA, hMA, hdx, hdm⟩ := C0
  unfold m_law_C7 at h
  refine lv_aload_n hx hb d_law_419 rfl (lv_at hl 1 rfl) ?_
  refine lv_aload_n hx hb d_law_420 rfl (lv_at hl 0 rfl) ?_
  refine lv_iload_n hx hb d_law_421 rfl (lv_at hl 3 rfl) ?_
  refine lv_iconst (v := 1) hx hb d_law_422 (by decide) ?_
  refine lv_iadd hx hb d_law_423 ?_
  obtain ⟨v1, e1, h⟩ := fr_bind h
  refine fl_sld hx hb hX hbl hbA hS e1 d_law_424 ?_
  refine lv_aload_n hx hb d_law_425 rfl (lv_at hl 0 rfl) ?_
  refine lv_iload_n hx hb d_law_426 rfl (lv_at hl 3 rfl) ?_
  refine lv_iconst (v := 2) hx hb d_law_427 (by decide) ?_
  refine lv_iadd hx hb d_law_428 ?_
  obtain ⟨v2, e2, h⟩ := fr_bind h
  refine fl_sld hx hb hX hbl hbA hS e2 d_law_429 ?_
  obtain ⟨u3, e3, h⟩ := fr_bind h
  obtain ⟨w4, e4, h⟩ := fr_bind h
  refine fl_calli (fr_V (As := [.int v1, .int v2]) (rest := []) ⟨hx, hb, hml, hown, hts⟩ (c_FR_from l D T Ax σ bx v1 v2 w4.1 w4.2 e4) k_326 mv_FR_from rfl rfl ⟨Nat.le_of_ble_eq_true rfl, Nat.le_of_ble_eq_true rfl⟩ (fr_preV hK hXs hHx e3 rfl _) rfl hl.1 rfl (Nat.le_of_ble_eq_true rfl) d_law_430 ⟨Nat.le_of_ble_eq_true rfl, Nat.le_of_ble_eq_true rfl⟩) hS hXA hHm hdx (fun H locs hHx hHm hS => ?_)
  refine lv_pop hx hb d_law_433 rfl ?_
  refine lv_aload_n hx hb d_law_434 rfl (lv_at hl 2 rfl) ?_
  refine lv_aload_n hx hb d_law_435 rfl (lv_at hl 0 rfl) ?_
  refine lv_iload_n hx hb d_law_436 rfl (lv_at hl 3 rfl) ?_
  refine lv_iconst (v := 1) hx hb d_law_437 (by decide) ?_
  refine lv_iadd hx hb d_law_438 ?_
  obtain ⟨v5, e5, h⟩ := fr_bind h
  refine fl_sld hx hb hX hbl hbA hS e5 d_law_439 ?_
  refine lv_aload_n hx hb d_law_440 rfl (lv_at hl 0 rfl) ?_
  refine lv_iload_n hx hb d_law_441 rfl (lv_at hl 3 rfl) ?_
  refine lv_iconst (v := 2) hx hb d_law_442 (by decide) ?_
  refine lv_iadd hx hb d_law_443 ?_
  obtain ⟨v6, e6, h⟩ := fr_bind h
  refine fl_sld hx hb hX hbl hbA hS e6 d_law_444 ?_
  obtain ⟨u7, e7, h⟩ := fr_bind h
  obtain ⟨w8, e8, h⟩ := fr_bind h
  refine fl_calli (fr_V (As := [.int v5, .int v6]) (rest := []) ⟨hx, hb, hml, hown, hts⟩ (c_Md_from l D T Am τ bm v5 v6 w8.1 w8.2 e8) k_710 mv_Md_from rfl rfl ⟨Nat.le_of_ble_eq_true rfl, Nat.le_of_ble_eq_true rfl⟩ (fr_preV hK hXs hHm e7 rfl _) rfl hl.1 rfl (Nat.le_of_ble_eq_true rfl) d_law_445 ⟨Nat.le_of_ble_eq_true rfl, Nat.le_of_ble_eq_true rfl⟩) hS hMA hHx hdm (fun H locs hHm hHx hS => ?_)
  refine lv_pop hx hb d_law_448 rfl ?_
  refine lv_goto (tgt := 769) hx hb d_law_449 (by decide) ?_
  cases h
  exact kx _ _ _ hHx hHm hS hl
set_option maxHeartbeats 4000000 in
set_option maxRecDepth 100000 in
theorem w_law_C8 {p : Program} {l : Launch} {e : Env} {s : State} {m : MethodId} {below : List Frame} {meth : Method} {c : Code} {D : va_G} {T : Nat → ClassId} {Ax Am : Nat → Prop} {b L bx bm : Nat} {xs : Nat → Int32} {Q : State → Prop} (C0 : fl_At p s m meth c b L xs D T Ax Am) (i : Int32) (σ τ : fr_S) (z : fr_S × fr_S) (h : m_law_C8 xs L bx bm i σ τ = some z) (H : Heap) (locs : List Loc) (hHx : fr_H D T Ax σ H) (hHm : fr_H D T Am τ H) (hS : va_S (fun q => s.heap.size ≤ q) s.heap H locs) (ls : Array Slot) (hl : lv_has ls 4 [(0, .ref b), (1, .ref bx), (2, .ref bm), (3, .int i)])
    (kx : ∀ (H : Heap) (locs : List Loc) (ls : Array Slot), fr_H D T Ax z.1 H → fr_H D T Am z.2 H → va_S (fun q => s.heap.size ≤ q) s.heap H locs → lv_has ls 4 [(0, .ref b), (1, .ref bx), (2, .ref bm), (3, .int i)] → W p l e room_1 s m #[Value.ref b] below meth c H locs 161 9742 Q (F0 m 769 ls [])) : W p l e room_1 s m #[Value.ref b] below meth c H locs 161 9742 Q (F0 m 452 ls []) := by
  obtain ⟨hx, hb, hml, hown, hts, hX, hbl, hbA, hK, hXs, hXA, hMA, hdx, hdm⟩ := C0
  unfold m_law_C8 at h
  refine lv_aload_n hx hb d_law_452 rfl (lv_at hl 1 rfl) ?_
  refine lv_aload_n hx hb d_law_453 rfl (lv_at hl 0 rfl) ?_
  refine lv_iload_n hx hb d_law_454 rfl (lv_at hl 3 rfl) ?_
  refine lv_iconst (v := 1) hx hb d_law_455 (by decide) ?_
  refine lv_iadd hx hb d_law_456 ?_
  obtain ⟨v1, e1, h⟩ := fr_bind h
  refine fl_sld hx hb hX hbl hbA hS e1 d_law_457 ?_
  refine lv_if_eq (tgt := 465) hx hb d_law_458 (by decide) (fun c2 => ?_) (fun c2 => ?_)
  · replace h := fr_ift c2 h
    refine lv_iconst (v := 0) hx hb d_law_465 (by decide) ?_
    obtain ⟨u3, e3, h⟩ := fr_bind h
    obtain ⟨σ_4, e4, h⟩ := fr_bind h
    refine fl_callv (fr_V (As := [.int 0]) (rest := []) ⟨hx, hb, hml, hown, hts⟩ (c_FR_offLine l D T Ax σ bx 0 σ_4 e4) k_338 mv_FR_offLine rfl rfl ⟨Nat.le_of_ble_eq_true rfl, Nat.le_of_ble_eq_true rfl⟩ (fr_preV hK hXs hHx e3 rfl _) rfl hl.1 rfl (Nat.le_of_ble_eq_true rfl) d_law_466 ⟨Nat.le_of_ble_eq_true rfl, Nat.le_of_ble_eq_true rfl⟩) hS hXA hHm hdx (fun H locs hHx hHm hS => ?_)
    refine lv_aload_n hx hb d_law_469 rfl (lv_at hl 2 rfl) ?_
    refine lv_aload_n hx hb d_law_470 rfl (lv_at hl 0 rfl) ?_
    refine lv_iload_n hx hb d_law_471 rfl (lv_at hl 3 rfl) ?_
    refine lv_iconst (v := 1) hx hb d_law_472 (by decide) ?_
    refine lv_iadd hx hb d_law_473 ?_
    obtain ⟨v5, e5, h⟩ := fr_bind h
    refine fl_sld hx hb hX hbl hbA hS e5 d_law_474 ?_
    refine lv_if_eq (tgt := 482) hx hb d_law_475 (by decide) (fun c6 => ?_) (fun c6 => ?_)
    · replace h := fr_ift c6 h
      refine lv_iconst (v := 0) hx hb d_law_482 (by decide) ?_
      obtain ⟨u7, e7, h⟩ := fr_bind h
      obtain ⟨σ_8, e8, h⟩ := fr_bind h
      refine fl_callv (fr_V (As := [.int 0]) (rest := []) ⟨hx, hb, hml, hown, hts⟩ (c_Md_offLine l D T Am τ bm 0 σ_8 e8) k_718 mv_Md_offLine rfl rfl ⟨Nat.le_of_ble_eq_true rfl, Nat.le_of_ble_eq_true rfl⟩ (fr_preV hK hXs hHm e7 rfl _) rfl hl.1 rfl (Nat.le_of_ble_eq_true rfl) d_law_483 ⟨Nat.le_of_ble_eq_true rfl, Nat.le_of_ble_eq_true rfl⟩) hS hMA hHx hdm (fun H locs hHm hHx hS => ?_)
      refine lv_goto (tgt := 769) hx hb d_law_486 (by decide) ?_
      cases h
      exact kx _ _ _ hHx hHm hS hl
    · replace h := fr_iff c6 h
      refine lv_iconst (v := 1) hx hb d_law_478 (by decide) ?_
      refine lv_goto (tgt := 483) hx hb d_law_479 (by decide) ?_
      obtain ⟨u9, e9, h⟩ := fr_bind h
      obtain ⟨σ_10, e10, h⟩ := fr_bind h
      refine fl_callv (fr_V (As := [.int 1]) (rest := []) ⟨hx, hb, hml, hown, hts⟩ (c_Md_offLine l D T Am τ bm 1 σ_10 e10) k_718 mv_Md_offLine rfl rfl ⟨Nat.le_of_ble_eq_true rfl, Nat.le_of_ble_eq_true rfl⟩ (fr_preV hK hXs hHm e9 rfl _) rfl hl.1 rfl (Nat.le_of_ble_eq_true rfl) d_law_483 ⟨Nat.le_of_ble_eq_true rfl, Nat.le_of_ble_eq_true rfl⟩) hS hMA hHx hdm (fun H locs hHm hHx hS => ?_)
      refine lv_goto (tgt := 769) hx hb d_law_486 (by decide) ?_
      cases h
      exact kx _ _ _ hHx hHm hS hl
  · replace h := fr_iff c2 h
    refine lv_iconst (v := 1) hx hb d_law_461 (by decide) ?_
    refine lv_goto (tgt := 466) hx hb d_law_462 (by decide) ?_
    obtain ⟨u11, e11, h⟩ := fr_bind h
    obtain ⟨σ_12, e12, h⟩ := fr_bind h
    refine fl_callv (fr_V (As := [.int 1]) (rest := []) ⟨hx, hb, hml, hown, hts⟩ (c_FR_offLine l D T Ax σ bx 1 σ_12 e12) k_338 mv_FR_offLine rfl rfl ⟨Nat.le_of_ble_eq_true rfl, Nat.le_of_ble_eq_true rfl⟩ (fr_preV hK hXs hHx e11 rfl _) rfl hl.1 rfl (Nat.le_of_ble_eq_true rfl) d_law_466 ⟨Nat.le_of_ble_eq_true rfl, Nat.le_of_ble_eq_true rfl⟩) hS hXA hHm hdx (fun H locs hHx hHm hS => ?_)
    refine lv_aload_n hx hb d_law_469 rfl (lv_at hl 2 rfl) ?_
    refine lv_aload_n hx hb d_law_470 rfl (lv_at hl 0 rfl) ?_
    refine lv_iload_n hx hb d_law_471 rfl (lv_at hl 3 rfl) ?_
    refine lv_iconst (v := 1) hx hb d_law_472 (by decide) ?_
    refine lv_iadd hx hb d_law_473 ?_
    obtain ⟨v13, e13, h⟩ := fr_bind h
    refine fl_sld hx hb hX hbl hbA hS e13 d_law_474 ?_
    refine lv_if_eq (tgt := 482) hx hb d_law_475 (by decide) (fun c14 => ?_) (fun c14 => ?_)
    · replace h := fr_ift c14 h
      refine lv_iconst (v := 0) hx hb d_law_482 (by decide) ?_
      obtain ⟨u15, e15, h⟩ := fr_bind h
      obtain ⟨σ_16, e16, h⟩ := fr_bind h
      refine fl_callv (fr_V (As := [.int 0]) (rest := []) ⟨hx, hb, hml, hown, hts⟩ (c_Md_offLine l D T Am τ bm 0 σ_16 e16) k_718 mv_Md_offLine rfl rfl ⟨Nat.le_of_ble_eq_true rfl, Nat.le_of_ble_eq_true rfl⟩ (fr_preV hK hXs hHm e15 rfl _) rfl hl.1 rfl (Nat.le_of_ble_eq_true rfl) d_law_483 ⟨Nat.le_of_ble_eq_true rfl, Nat.le_of_ble_eq_true rfl⟩) hS hMA hHx hdm (fun H locs hHm hHx hS => ?_)
      refine lv_goto (tgt := 769) hx hb d_law_486 (by decide) ?_
      cases h
      exact kx _ _ _ hHx hHm hS hl
    · replace h := fr_iff c14 h
      refine lv_iconst (v := 1) hx hb d_law_478 (by decide) ?_
      refine lv_goto (tgt := 483) hx hb d_law_479 (by decide) ?_
      obtain ⟨u17, e17, h⟩ := fr_bind h
      obtain ⟨σ_18, e18, h⟩ := fr_bind h
      refine fl_callv (fr_V (As := [.int 1]) (rest := []) ⟨hx, hb, hml, hown, hts⟩ (c_Md_offLine l D T Am τ bm 1 σ_18 e18) k_718 mv_Md_offLine rfl rfl ⟨Nat.le_of_ble_eq_true rfl, Nat.le_of_ble_eq_true rfl⟩ (fr_preV hK hXs hHm e17 rfl _) rfl hl.1 rfl (Nat.le_of_ble_eq_true rfl) d_law_483 ⟨Nat.le_of_ble_eq_true rfl, Nat.le_of_ble_eq_true rfl⟩) hS hMA hHx hdm (fun H locs hHm hHx hS => ?_)
      refine lv_goto (tgt := 769) hx hb d_law_486 (by decide) ?_
      cases h
      exact kx _ _ _ hHx hHm hS hl
set_option maxHeartbeats 4000000 in
set_option maxRecDepth 100000 in
theorem w_law_C9 {p : Program} {l : Launch} {e : Env} {s : State} {m : MethodId} {below : List Frame} {meth : Method} {c : Code} {D : va_G} {T : Nat → ClassId} {Ax Am : Nat → Prop} {b L bx bm : Nat} {xs : Nat → Int32} {Q : State → Prop} (C0 : fl_At p s m meth c b L xs D T Ax Am) (i : Int32) (σ τ : fr_S) (z : fr_S × fr_S) (h : m_law_C9 xs L bx bm i σ τ = some z) (H : Heap) (locs : List Loc) (hHx : fr_H D T Ax σ H) (hHm : fr_H D T Am τ H) (hS : va_S (fun q => s.heap.size ≤ q) s.heap H locs) (ls : Array Slot) (hl : lv_has ls 4 [(0, .ref b), (1, .ref bx), (2, .ref bm), (3, .int i)])
    (kx : ∀ (H : Heap) (locs : List Loc) (ls : Array Slot), fr_H D T Ax z.1 H → fr_H D T Am z.2 H → va_S (fun q => s.heap.size ≤ q) s.heap H locs → lv_has ls 4 [(0, .ref b), (1, .ref bx), (2, .ref bm), (3, .int i)] → W p l e room_1 s m #[Value.ref b] below meth c H locs 161 9742 Q (F0 m 769 ls [])) : W p l e room_1 s m #[Value.ref b] below meth c H locs 161 9742 Q (F0 m 489 ls []) := by
  obtain ⟨hx, hb, hml, hown, hts, hX, hbl, hbA, hK, hXs, hXA, hMA, hdx, hdm⟩ := C0
  unfold m_law_C9 at h
  refine lv_aload_n hx hb d_law_489 rfl (lv_at hl 1 rfl) ?_
  refine lv_aload_n hx hb d_law_490 rfl (lv_at hl 0 rfl) ?_
  refine lv_iload_n hx hb d_law_491 rfl (lv_at hl 3 rfl) ?_
  refine lv_iconst (v := 1) hx hb d_law_492 (by decide) ?_
  refine lv_iadd hx hb d_law_493 ?_
  obtain ⟨v1, e1, h⟩ := fr_bind h
  refine fl_sld hx hb hX hbl hbA hS e1 d_law_494 ?_
  obtain ⟨u2, e2, h⟩ := fr_bind h
  obtain ⟨w3, e3, h⟩ := fr_bind h
  refine fl_calli (fr_V (As := [.int v1]) (rest := []) ⟨hx, hb, hml, hown, hts⟩ (c_FR_begin l D T Ax σ bx v1 w3.1 w3.2 e3) k_342 mv_FR_begin rfl rfl ⟨Nat.le_of_ble_eq_true rfl, Nat.le_of_ble_eq_true rfl⟩ (fr_preV hK hXs hHx e2 rfl _) rfl hl.1 rfl (Nat.le_of_ble_eq_true rfl) d_law_495 ⟨Nat.le_of_ble_eq_true rfl, Nat.le_of_ble_eq_true rfl⟩) hS hXA hHm hdx (fun H locs hHx hHm hS => ?_)
  refine lv_pop hx hb d_law_498 rfl ?_
  refine lv_aload_n hx hb d_law_499 rfl (lv_at hl 2 rfl) ?_
  refine lv_aload_n hx hb d_law_500 rfl (lv_at hl 0 rfl) ?_
  refine lv_iload_n hx hb d_law_501 rfl (lv_at hl 3 rfl) ?_
  refine lv_iconst (v := 1) hx hb d_law_502 (by decide) ?_
  refine lv_iadd hx hb d_law_503 ?_
  obtain ⟨v4, e4, h⟩ := fr_bind h
  refine fl_sld hx hb hX hbl hbA hS e4 d_law_504 ?_
  obtain ⟨u5, e5, h⟩ := fr_bind h
  obtain ⟨w6, e6, h⟩ := fr_bind h
  refine fl_calli (fr_V (As := [.int v4]) (rest := []) ⟨hx, hb, hml, hown, hts⟩ (c_Md_begin l D T Am τ bm v4 w6.1 w6.2 e6) k_722 mv_Md_begin rfl rfl ⟨Nat.le_of_ble_eq_true rfl, Nat.le_of_ble_eq_true rfl⟩ (fr_preV hK hXs hHm e5 rfl _) rfl hl.1 rfl (Nat.le_of_ble_eq_true rfl) d_law_505 ⟨Nat.le_of_ble_eq_true rfl, Nat.le_of_ble_eq_true rfl⟩) hS hMA hHx hdm (fun H locs hHm hHx hS => ?_)
  refine lv_pop hx hb d_law_508 rfl ?_
  refine lv_goto (tgt := 769) hx hb d_law_509 (by decide) ?_
  cases h
  exact kx _ _ _ hHx hHm hS hl
