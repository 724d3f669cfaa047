set_option maxHeartbeats 4000000 in
set_option maxRecDepth 100000 in
theorem w_law_C10 {p : Program} {l : Launch} {e : Env} {s : State} {m : MethodId} {below : List Frame} {meth : Method} {c : Code} {D : va_G} {T : Nat → ClassId} {Ax Am : Nat → Prop} {b L bx bm : Nat} {xs : Nat → Int32} {Q : State → Prop} (C0 : fl_At p s m meth c b L xs D T Ax Am) (i : Int32) (σ τ : fr_S) (z : fr_S × fr_S) (h : m_law_C10 xs L bx bm i σ τ = some z) (H : Heap) (locs : List Loc) (hHx : fr_H D T Ax σ H) (hHm : fr_H D T Am τ H) (hS : va_S (fun q => s.heap.size ≤ q) s.heap H locs) (ls : Array Slot) (hl : lv_has ls 4 [(0, .ref b), (1, .ref bx), (2, .ref bm), (3, .int i)])
    (kx : ∀ (H : Heap) (locs : List Loc) (ls : Array Slot), fr_H D T Ax z.1 H → fr_H D T Am z.2 H → va_S (fun q => s.heap.size ≤ q) s.heap H locs → lv_has ls 4 [(0, .ref b), (1, .ref bx), (2, .ref bm), (3, .int i)] → W p l e room_1 s m #[Value.ref b] below meth c H locs 161 9742 Q (F0 m 769 ls [])) : W p l e room_1 s m #[Value.ref b] below meth c H locs 161 9742 Q (F0 m 512 ls []) := by
  obtain ⟨hx, hb, hml, hown, hts, hX, hbl, hbA, hK, hXs, hXA, hMA, hdx, hdm⟩ := C0
  unfold m_law_C10 at h
  refine lv_aload_n hx hb d_law_512 rfl (lv_at hl 1 rfl) ?_
  refine lv_aload_n hx hb d_law_513 rfl (lv_at hl 0 rfl) ?_
  refine lv_iload_n hx hb d_law_514 rfl (lv_at hl 3 rfl) ?_
  refine lv_iconst (v := 1) hx hb d_law_515 (by decide) ?_
  refine lv_iadd hx hb d_law_516 ?_
  obtain ⟨v1, e1, h⟩ := fr_bind h
  refine fl_sld hx hb hX hbl hbA hS e1 d_law_517 ?_
  obtain ⟨u2, e2, h⟩ := fr_bind h
  obtain ⟨w3, e3, h⟩ := fr_bind h
  refine fl_calli (fr_V (As := [.int v1]) (rest := []) ⟨hx, hb, hml, hown, hts⟩ (c_FR_tick l D T Ax σ bx v1 w3.1 w3.2 e3) k_373 mv_FR_tick rfl rfl ⟨Nat.le_of_ble_eq_true rfl, Nat.le_of_ble_eq_true rfl⟩ (fr_preV hK hXs hHx e2 rfl _) rfl hl.1 rfl (Nat.le_of_ble_eq_true rfl) d_law_518 ⟨Nat.le_of_ble_eq_true rfl, Nat.le_of_ble_eq_true rfl⟩) hS hXA hHm hdx (fun H locs hHx hHm hS => ?_)
  refine lv_pop hx hb d_law_521 rfl ?_
  refine lv_aload_n hx hb d_law_522 rfl (lv_at hl 2 rfl) ?_
  refine lv_aload_n hx hb d_law_523 rfl (lv_at hl 0 rfl) ?_
  refine lv_iload_n hx hb d_law_524 rfl (lv_at hl 3 rfl) ?_
  refine lv_iconst (v := 1) hx hb d_law_525 (by decide) ?_
  refine lv_iadd hx hb d_law_526 ?_
  obtain ⟨v4, e4, h⟩ := fr_bind h
  refine fl_sld hx hb hX hbl hbA hS e4 d_law_527 ?_
  obtain ⟨u5, e5, h⟩ := fr_bind h
  obtain ⟨w6, e6, h⟩ := fr_bind h
  refine fl_calli (fr_V (As := [.int v4]) (rest := []) ⟨hx, hb, hml, hown, hts⟩ (c_Md_tick l D T Am τ bm v4 w6.1 w6.2 e6) k_738 mv_Md_tick rfl rfl ⟨Nat.le_of_ble_eq_true rfl, Nat.le_of_ble_eq_true rfl⟩ (fr_preV hK hXs hHm e5 rfl _) rfl hl.1 rfl (Nat.le_of_ble_eq_true rfl) d_law_528 ⟨Nat.le_of_ble_eq_true rfl, Nat.le_of_ble_eq_true rfl⟩) hS hMA hHx hdm (fun H locs hHm hHx hS => ?_)
  refine lv_pop hx hb d_law_531 rfl ?_
  refine lv_goto (tgt := 769) hx hb d_law_532 (by decide) ?_
  cases h
  exact kx _ _ _ hHx hHm hS hl
set_option maxHeartbeats 4000000 in
set_option maxRecDepth 100000 in
theorem w_law_C11 {p : Program} {l : Launch} {e : Env} {s : State} {m : MethodId} {below : List Frame} {meth : Method} {c : Code} {D : va_G} {T : Nat → ClassId} {Ax Am : Nat → Prop} {b L bx bm : Nat} {xs : Nat → Int32} {Q : State → Prop} (C0 : fl_At p s m meth c b L xs D T Ax Am) (i : Int32) (σ τ : fr_S) (z : fr_S × fr_S) (h : m_law_C11 xs L bx bm i σ τ = some z) (H : Heap) (locs : List Loc) (hHx : fr_H D T Ax σ H) (hHm : fr_H D T Am τ H) (hS : va_S (fun q => s.heap.size ≤ q) s.heap H locs) (ls : Array Slot) (hl : lv_has ls 4 [(0, .ref b), (1, .ref bx), (2, .ref bm), (3, .int i)])
    (kx : ∀ (H : Heap) (locs : List Loc) (ls : Array Slot), fr_H D T Ax z.1 H → fr_H D T Am z.2 H → va_S (fun q => s.heap.size ≤ q) s.heap H locs → lv_has ls 4 [(0, .ref b), (1, .ref bx), (2, .ref bm), (3, .int i)] → W p l e room_1 s m #[Value.ref b] below meth c H locs 161 9742 Q (F0 m 769 ls [])) : W p l e room_1 s m #[Value.ref b] below meth c H locs 161 9742 Q (F0 m 535 ls []) := by
  obtain ⟨hx, hb, hml, hown, hts, hX, hbl, hbA, hK, hXs, hXA, hMA, hdx, hdm⟩ := C0
  unfold m_law_C11 at h
  refine lv_aload_n hx hb d_law_535 rfl (lv_at hl 1 rfl) ?_
  refine lv_aload_n hx hb d_law_536 rfl (lv_at hl 0 rfl) ?_
  refine lv_iload_n hx hb d_law_537 rfl (lv_at hl 3 rfl) ?_
  refine lv_iconst (v := 1) hx hb d_law_538 (by decide) ?_
  refine lv_iadd hx hb d_law_539 ?_
  obtain ⟨v1, e1, h⟩ := fr_bind h
  refine fl_sld hx hb hX hbl hbA hS e1 d_law_540 ?_
  refine lv_aload_n hx hb d_law_541 rfl (lv_at hl 0 rfl) ?_
  refine lv_iload_n hx hb d_law_542 rfl (lv_at hl 3 rfl) ?_
  refine lv_iconst (v := 2) hx hb d_law_543 (by decide) ?_
  refine lv_iadd hx hb d_law_544 ?_
  obtain ⟨v2, e2, h⟩ := fr_bind h
  refine fl_sld hx hb hX hbl hbA hS e2 d_law_545 ?_
  obtain ⟨u3, e3, h⟩ := fr_bind h
  obtain ⟨r4, e4, h⟩ := fr_bind h
  refine fl_calli (fr_V (As := [.int v1, .int v2]) (rest := []) ⟨hx, hb, hml, hown, hts⟩ (c_FR_about l D T Ax σ bx v1 v2 r4 e4) k_445 mv_FR_about rfl rfl ⟨Nat.le_of_ble_eq_true rfl, Nat.le_of_ble_eq_true rfl⟩ (fr_preV hK hXs hHx e3 rfl _) rfl hl.1 rfl (Nat.le_of_ble_eq_true rfl) d_law_546 ⟨Nat.le_of_ble_eq_true rfl, Nat.le_of_ble_eq_true rfl⟩) hS hXA hHm hdx (fun H locs hHx hHm hS => ?_)
  refine lv_pop hx hb d_law_549 rfl ?_
  refine lv_aload_n hx hb d_law_550 rfl (lv_at hl 2 rfl) ?_
  refine lv_aload_n hx hb d_law_551 rfl (lv_at hl 0 rfl) ?_
  refine lv_iload_n hx hb d_law_552 rfl (lv_at hl 3 rfl) ?_
  refine lv_iconst (v := 1) hx hb d_law_553 (by decide) ?_
  refine lv_iadd hx hb d_law_554 ?_
  obtain ⟨v5, e5, h⟩ := fr_bind h
  refine fl_sld hx hb hX hbl hbA hS e5 d_law_555 ?_
  refine lv_aload_n hx hb d_law_556 rfl (lv_at hl 0 rfl) ?_
  refine lv_iload_n hx hb d_law_557 rfl (lv_at hl 3 rfl) ?_
  refine lv_iconst (v := 2) hx hb d_law_558 (by decide) ?_
  refine lv_iadd hx hb d_law_559 ?_
  obtain ⟨v6, e6, h⟩ := fr_bind h
  refine fl_sld hx hb hX hbl hbA hS e6 d_law_560 ?_
  obtain ⟨u7, e7, h⟩ := fr_bind h
  obtain ⟨w8, e8, h⟩ := fr_bind h
  refine fl_calli (fr_V (As := [.int v5, .int v6]) (rest := []) ⟨hx, hb, hml, hown, hts⟩ (c_Md_about l D T Am τ bm v5 v6 w8.1 w8.2 e8) k_762 mv_Md_about rfl rfl ⟨Nat.le_of_ble_eq_true rfl, Nat.le_of_ble_eq_true rfl⟩ (fr_preV hK hXs hHm e7 rfl _) rfl hl.1 rfl (Nat.le_of_ble_eq_true rfl) d_law_561 ⟨Nat.le_of_ble_eq_true rfl, Nat.le_of_ble_eq_true rfl⟩) hS hMA hHx hdm (fun H locs hHm hHx hS => ?_)
  refine lv_pop hx hb d_law_564 rfl ?_
  refine lv_goto (tgt := 769) hx hb d_law_565 (by decide) ?_
  cases h
  exact kx _ _ _ hHx hHm hS hl
set_option maxHeartbeats 4000000 in
set_option maxRecDepth 100000 in
theorem w_law_C12 {p : Program} {l : Launch} {e : Env} {s : State} {m : MethodId} {below : List Frame} {meth : Method} {c : Code} {D : va_G} {T : Nat → ClassId} {Ax Am : Nat → Prop} {b L bx bm : Nat} {xs : Nat → Int32} {Q : State → Prop} (C0 : fl_At p s m meth c b L xs D T Ax Am) (i : Int32) (σ τ : fr_S) (z : fr_S × fr_S) (h : m_law_C12 xs L bx bm i σ τ = some z) (H : Heap) (locs : List Loc) (hHx : fr_H D T Ax σ H) (hHm : fr_H D T Am τ H) (hS : va_S (fun q => s.heap.size ≤ q) s.heap H locs) (ls : Array Slot) (hl : lv_has ls 4 [(0, .ref b), (1, .ref bx), (2, .ref bm), (3, .int i)])
    (kx : ∀ (H : Heap) (locs : List Loc) (ls : Array Slot), fr_H D T Ax z.1 H → fr_H D T Am z.2 H → va_S (fun q => s.heap.size ≤ q) s.heap H locs → lv_has ls 4 [(0, .ref b), (1, .ref bx), (2, .ref bm), (3, .int i)] → W p l e room_1 s m #[Value.ref b] below meth c H locs 161 9742 Q (F0 m 769 ls [])) : W p l e room_1 s m #[Value.ref b] below meth c H locs 161 9742 Q (F0 m 568 ls []) := by
  obtain ⟨hx, hb, hml, hown, hts, hX, hbl, hbA, hK, hXs, hXA, hMA, hdx, hdm⟩ := C0
  unfold m_law_C12 at h
  refine lv_aload_n hx hb d_law_568 rfl (lv_at hl 1 rfl) ?_
  refine lv_aload_n hx hb d_law_569 rfl (lv_at hl 0 rfl) ?_
  refine lv_iload_n hx hb d_law_570 rfl (lv_at hl 3 rfl) ?_
  refine lv_iconst (v := 1) hx hb d_law_571 (by decide) ?_
  refine lv_iadd hx hb d_law_572 ?_
  obtain ⟨v1, e1, h⟩ := fr_bind h
  refine fl_sld hx hb hX hbl hbA hS e1 d_law_573 ?_
  refine lv_aload_n hx hb d_law_574 rfl (lv_at hl 0 rfl) ?_
  refine lv_iload_n hx hb d_law_575 rfl (lv_at hl 3 rfl) ?_
  refine lv_iconst (v := 2) hx hb d_law_576 (by decide) ?_
  refine lv_iadd hx hb d_law_577 ?_
  obtain ⟨v2, e2, h⟩ := fr_bind h
  refine fl_sld hx hb hX hbl hbA hS e2 d_law_578 ?_
  obtain ⟨u3, e3, h⟩ := fr_bind h
  obtain ⟨r4, e4, h⟩ := fr_bind h
  refine fl_calli (fr_V (As := [.int v1, .int v2]) (rest := []) ⟨hx, hb, hml, hown, hts⟩ (c_FR_byteOf l D T Ax σ bx v1 v2 r4 e4) k_449 mv_FR_byteOf rfl rfl ⟨Nat.le_of_ble_eq_true rfl, Nat.le_of_ble_eq_true rfl⟩ (fr_preV hK hXs hHx e3 rfl _) rfl hl.1 rfl (Nat.le_of_ble_eq_true rfl) d_law_579 ⟨Nat.le_of_ble_eq_true rfl, Nat.le_of_ble_eq_true rfl⟩) hS hXA hHm hdx (fun H locs hHx hHm hS => ?_)
  refine lv_pop hx hb d_law_582 rfl ?_
  refine lv_aload_n hx hb d_law_583 rfl (lv_at hl 2 rfl) ?_
  refine lv_aload_n hx hb d_law_584 rfl (lv_at hl 0 rfl) ?_
  refine lv_iload_n hx hb d_law_585 rfl (lv_at hl 3 rfl) ?_
  refine lv_iconst (v := 1) hx hb d_law_586 (by decide) ?_
  refine lv_iadd hx hb d_law_587 ?_
  obtain ⟨v5, e5, h⟩ := fr_bind h
  refine fl_sld hx hb hX hbl hbA hS e5 d_law_588 ?_
  refine lv_aload_n hx hb d_law_589 rfl (lv_at hl 0 rfl) ?_
  refine lv_iload_n hx hb d_law_590 rfl (lv_at hl 3 rfl) ?_
  refine lv_iconst (v := 2) hx hb d_law_591 (by decide) ?_
  refine lv_iadd hx hb d_law_592 ?_
  obtain ⟨v6, e6, h⟩ := fr_bind h
  refine fl_sld hx hb hX hbl hbA hS e6 d_law_593 ?_
  obtain ⟨u7, e7, h⟩ := fr_bind h
  obtain ⟨w8, e8, h⟩ := fr_bind h
  refine fl_calli (fr_V (As := [.int v5, .int v6]) (rest := []) ⟨hx, hb, hml, hown, hts⟩ (c_Md_byteOf l D T Am τ bm v5 v6 w8.1 w8.2 e8) k_766 mv_Md_byteOf rfl rfl ⟨Nat.le_of_ble_eq_true rfl, Nat.le_of_ble_eq_true rfl⟩ (fr_preV hK hXs hHm e7 rfl _) rfl hl.1 rfl (Nat.le_of_ble_eq_true rfl) d_law_594 ⟨Nat.le_of_ble_eq_true rfl, Nat.le_of_ble_eq_true rfl⟩) hS hMA hHx hdm (fun H locs hHm hHx hS => ?_)
  refine lv_pop hx hb d_law_597 rfl ?_
  refine lv_goto (tgt := 769) hx hb d_law_598 (by decide) ?_
  cases h
  exact kx _ _ _ hHx hHm hS hl
set_option maxHeartbeats 4000000 in
set_option maxRecDepth 100000 in
theorem w_law_C13 {p : Program} {l : Launch} {e : Env} {s : State} {m : MethodId} {below : List Frame} {meth : Method} {c : Code} {D : va_G} {T : Nat → ClassId} {Ax Am : Nat → Prop} {b L bx bm : Nat} {xs : Nat → Int32} {Q : State → Prop} (C0 : fl_At p s m meth c b L xs D T Ax Am) (i : Int32) (σ τ : fr_S) (z : fr_S × fr_S) (h : m_law_C13 xs L bx bm i σ τ = some z) (H : Heap) (locs : List Loc) (hHx : fr_H D T Ax σ H) (hHm : fr_H D T Am τ H) (hS : va_S (fun q => s.heap.size ≤ q) s.heap H locs) (ls : Array Slot) (hl : lv_has ls 4 [(0, .ref b), (1, .ref bx), (2, .ref bm), (3, .int i)])
    (kx : ∀ (H : Heap) (locs : List Loc) (ls : Array Slot), fr_H D T Ax z.1 H → fr_H D T Am z.2 H → va_S (fun q => s.heap.size ≤ q) s.heap H locs → lv_has ls 4 [(0, .ref b), (1, .ref bx), (2, .ref bm), (3, .int i)] → W p l e room_1 s m #[Value.ref b] below meth c H locs 161 9742 Q (F0 m 769 ls [])) : W p l e room_1 s m #[Value.ref b] below meth c H locs 161 9742 Q (F0 m 601 ls []) := by
  obtain ⟨hx, hb, hml, hown, hts, hX, hbl, hbA, hK, hXs, hXA, hMA, hdx, hdm⟩ := C0
  unfold m_law_C13 at h
  refine lv_aload_n hx hb d_law_601 rfl (lv_at hl 1 rfl) ?_
  refine lv_aload_n hx hb d_law_602 rfl (lv_at hl 0 rfl) ?_
  refine lv_iload_n hx hb d_law_603 rfl (lv_at hl 3 rfl) ?_
  refine lv_iconst (v := 1) hx hb d_law_604 (by decide) ?_
  refine lv_iadd hx hb d_law_605 ?_
  obtain ⟨v1, e1, h⟩ := fr_bind h
  refine fl_sld hx hb hX hbl hbA hS e1 d_law_606 ?_
  refine lv_aload_n hx hb d_law_607 rfl (lv_at hl 0 rfl) ?_
  refine lv_iload_n hx hb d_law_608 rfl (lv_at hl 3 rfl) ?_
  refine lv_iconst (v := 2) hx hb d_law_609 (by decide) ?_
  refine lv_iadd hx hb d_law_610 ?_
  obtain ⟨v2, e2, h⟩ := fr_bind h
  refine fl_sld hx hb hX hbl hbA hS e2 d_law_611 ?_
  obtain ⟨u3, e3, h⟩ := fr_bind h
  obtain ⟨r4, e4, h⟩ := fr_bind h
  refine fl_calli (fr_V (As := [.int v1, .int v2]) (rest := []) ⟨hx, hb, hml, hown, hts⟩ (c_FR_barred l D T Ax σ bx v1 v2 r4 e4) k_454 mv_FR_barred rfl rfl ⟨Nat.le_of_ble_eq_true rfl, Nat.le_of_ble_eq_true rfl⟩ (fr_preV hK hXs hHx e3 rfl _) rfl hl.1 rfl (Nat.le_of_ble_eq_true rfl) d_law_612 ⟨Nat.le_of_ble_eq_true rfl, Nat.le_of_ble_eq_true rfl⟩) hS hXA hHm hdx (fun H locs hHx hHm hS => ?_)
  refine lv_pop hx hb d_law_615 rfl ?_
  refine lv_aload_n hx hb d_law_616 rfl (lv_at hl 2 rfl) ?_
  refine lv_aload_n hx hb d_law_617 rfl (lv_at hl 0 rfl) ?_
  refine lv_iload_n hx hb d_law_618 rfl (lv_at hl 3 rfl) ?_
  refine lv_iconst (v := 1) hx hb d_law_619 (by decide) ?_
  refine lv_iadd hx hb d_law_620 ?_
  obtain ⟨v5, e5, h⟩ := fr_bind h
  refine fl_sld hx hb hX hbl hbA hS e5 d_law_621 ?_
  refine lv_aload_n hx hb d_law_622 rfl (lv_at hl 0 rfl) ?_
  refine lv_iload_n hx hb d_law_623 rfl (lv_at hl 3 rfl) ?_
  refine lv_iconst (v := 2) hx hb d_law_624 (by decide) ?_
  refine lv_iadd hx hb d_law_625 ?_
  obtain ⟨v6, e6, h⟩ := fr_bind h
  refine fl_sld hx hb hX hbl hbA hS e6 d_law_626 ?_
  obtain ⟨u7, e7, h⟩ := fr_bind h
  obtain ⟨w8, e8, h⟩ := fr_bind h
  refine fl_calli (fr_V (As := [.int v5, .int v6]) (rest := []) ⟨hx, hb, hml, hown, hts⟩ (c_Md_barred l D T Am τ bm v5 v6 w8.1 w8.2 e8) k_770 mv_Md_barred rfl rfl ⟨Nat.le_of_ble_eq_true rfl, Nat.le_of_ble_eq_true rfl⟩ (fr_preV hK hXs hHm e7 rfl _) rfl hl.1 rfl (Nat.le_of_ble_eq_true rfl) d_law_627 ⟨Nat.le_of_ble_eq_true rfl, Nat.le_of_ble_eq_true rfl⟩) hS hMA hHx hdm (fun H locs hHm hHx hS => ?_)
  refine lv_pop hx hb d_law_630 rfl ?_
  refine lv_goto (tgt := 769) hx hb d_law_631 (by decide) ?_
  cases h
  exact kx _ _ _ hHx hHm hS hl
set_option maxHeartbeats 4000000 in
set_option maxRecDepth 100000 in
theorem w_law_C14 {p : Program} {l : Launch} {e : Env} {s : State} {m : MethodId} {below : List Frame} {meth : Method} {c : Code} {D : va_G} {T : Nat → ClassId} {Ax Am : Nat → Prop} {b L bx bm : Nat} {xs : Nat → Int32} {Q : State → Prop} (C0 : fl_At p s m meth c b L xs D T Ax Am) (i : Int32) (σ τ : fr_S) (z : fr_S × fr_S) (h : m_law_C14 xs L bx bm i σ τ = some z) (H : Heap) (locs : List Loc) (hHx : fr_H D T Ax σ H) (hHm : fr_H D T Am τ H) (hS : va_S (fun q => s.heap.size ≤ q) s.heap H locs) (ls : Array Slot) (hl : lv_has ls 4 [(0, .ref b), (1, .ref bx), (2, .ref bm), (3, .int i)])
    (kx : ∀ (H : Heap) (locs : List Loc) (ls : Array Slot), fr_H D T Ax z.1 H → fr_H D T Am z.2 H → va_S (fun q => s.heap.size ≤ q) s.heap H locs → lv_has ls 4 [(0, .ref b), (1, .ref bx), (2, .ref bm), (3, .int i)] → W p l e room_1 s m #[Value.ref b] below meth c H locs 161 9742 Q (F0 m 769 ls [])) : W p l e room_1 s m #[Value.ref b] below meth c H locs 161 9742 Q (F0 m 634 ls []) := by
  obtain ⟨hx, hb, hml, hown, hts, hX, hbl, hbA, hK, hXs, hXA, hMA, hdx, hdm⟩ := C0
  unfold m_law_C14 at h
  refine lv_aload_n hx hb d_law_634 rfl (lv_at hl 1 rfl) ?_
  refine lv_aload_n hx hb d_law_635 rfl (lv_at hl 0 rfl) ?_
  refine lv_iload_n hx hb d_law_636 rfl (lv_at hl 3 rfl) ?_
  refine lv_iconst (v := 1) hx hb d_law_637 (by decide) ?_
  refine lv_iadd hx hb d_law_638 ?_
  obtain ⟨v1, e1, h⟩ := fr_bind h
  refine fl_sld hx hb hX hbl hbA hS e1 d_law_639 ?_
  obtain ⟨u2, e2, h⟩ := fr_bind h
  obtain ⟨r3, e3, h⟩ := fr_bind h
  refine fl_calli (fr_V (As := [.int v1]) (rest := []) ⟨hx, hb, hml, hown, hts⟩ (c_FR_came l D T Ax σ bx v1 r3 e3) k_462 mv_FR_came rfl rfl ⟨Nat.le_of_ble_eq_true rfl, Nat.le_of_ble_eq_true rfl⟩ (fr_preV hK hXs hHx e2 rfl _) rfl hl.1 rfl (Nat.le_of_ble_eq_true rfl) d_law_640 ⟨Nat.le_of_ble_eq_true rfl, Nat.le_of_ble_eq_true rfl⟩) hS hXA hHm hdx (fun H locs hHx hHm hS => ?_)
  refine lv_pop hx hb d_law_643 rfl ?_
  refine lv_aload_n hx hb d_law_644 rfl (lv_at hl 2 rfl) ?_
  refine lv_aload_n hx hb d_law_645 rfl (lv_at hl 0 rfl) ?_
  refine lv_iload_n hx hb d_law_646 rfl (lv_at hl 3 rfl) ?_
  refine lv_iconst (v := 1) hx hb d_law_647 (by decide) ?_
  refine lv_iadd hx hb d_law_648 ?_
  obtain ⟨v4, e4, h⟩ := fr_bind h
  refine fl_sld hx hb hX hbl hbA hS e4 d_law_649 ?_
  obtain ⟨u5, e5, h⟩ := fr_bind h
  obtain ⟨w6, e6, h⟩ := fr_bind h
  refine fl_calli (fr_V (As := [.int v4]) (rest := []) ⟨hx, hb, hml, hown, hts⟩ (c_Md_came l D T Am τ bm v4 w6.1 w6.2 e6) k_774 mv_Md_came rfl rfl ⟨Nat.le_of_ble_eq_true rfl, Nat.le_of_ble_eq_true rfl⟩ (fr_preV hK hXs hHm e5 rfl _) rfl hl.1 rfl (Nat.le_of_ble_eq_true rfl) d_law_650 ⟨Nat.le_of_ble_eq_true rfl, Nat.le_of_ble_eq_true rfl⟩) hS hMA hHx hdm (fun H locs hHm hHx hS => ?_)
  refine lv_pop hx hb d_law_653 rfl ?_
  refine lv_goto (tgt := 769) hx hb d_law_654 (by decide) ?_
  cases h
  exact kx _ _ _ hHx hHm hS hl
set_option maxHeartbeats 4000000 in
set_option maxRecDepth 100000 in
theorem w_law_C15 {p : Program} {l : Launch} {e : Env} {s : State} {m : MethodId} {below : List Frame} {meth : Method} {c : Code} {D : va_G} {T : Nat → ClassId} {Ax Am : Nat → Prop} {b L bx bm : Nat} {xs : Nat → Int32} {Q : State → Prop} (C0 : fl_At p s m meth c b L xs D T Ax Am) (i : Int32) (σ τ : fr_S) (z : fr_S × fr_S) (h : m_law_C15 xs L bx bm i σ τ = some z) (H : Heap) (locs : List Loc) (hHx : fr_H D T Ax σ H) (hHm : fr_H D T Am τ H) (hS : va_S (fun q => s.heap.size ≤ q) s.heap H locs) (ls : Array Slot) (hl : lv_has ls 4 [(0, .ref b), (1, .ref bx), (2, .ref bm), (3, .int i)])
    (kx : ∀ (H : Heap) (locs : List Loc) (ls : Array Slot), fr_H D T Ax z.1 H → fr_H D T Am z.2 H → va_S (fun q => s.heap.size ≤ q) s.heap H locs → lv_has ls 4 [(0, .ref b), (1, .ref bx), (2, .ref bm), (3, .int i)] → W p l e room_1 s m #[Value.ref b] below meth c H locs 161 9742 Q (F0 m 769 ls [])) : W p l e room_1 s m #[Value.ref b] below meth c H locs 161 9742 Q (F0 m 657 ls []) := by
  obtain ⟨hx, hb, hml, hown, hts, hX, hbl, hbA, hK, hXs, hXA, hMA, hdx, hdm⟩ := C0
  unfold m_law_C15 at h
  refine lv_aload_n hx hb d_law_657 rfl (lv_at hl 1 rfl) ?_
  refine lv_aload_n hx hb d_law_658 rfl (lv_at hl 0 rfl) ?_
  refine lv_iload_n hx hb d_law_659 rfl (lv_at hl 3 rfl) ?_
  refine lv_iconst (v := 1) hx hb d_law_660 (by decide) ?_
  refine lv_iadd hx hb d_law_661 ?_
  obtain ⟨v1, e1, h⟩ := fr_bind h
  refine fl_sld hx hb hX hbl hbA hS e1 d_law_662 ?_
  obtain ⟨u2, e2, h⟩ := fr_bind h
  obtain ⟨r3, e3, h⟩ := fr_bind h
  refine fl_calli (fr_V (As := [.int v1]) (rest := []) ⟨hx, hb, hml, hown, hts⟩ (c_FR_lacks l D T Ax σ bx v1 r3 e3) k_466 mv_FR_lacks rfl rfl ⟨Nat.le_of_ble_eq_true rfl, Nat.le_of_ble_eq_true rfl⟩ (fr_preV hK hXs hHx e2 rfl _) rfl hl.1 rfl (Nat.le_of_ble_eq_true rfl) d_law_663 ⟨Nat.le_of_ble_eq_true rfl, Nat.le_of_ble_eq_true rfl⟩) hS hXA hHm hdx (fun H locs hHx hHm hS => ?_)
  refine lv_pop hx hb d_law_666 rfl ?_
  refine lv_aload_n hx hb d_law_667 rfl (lv_at hl 2 rfl) ?_
  refine lv_aload_n hx hb d_law_668 rfl (lv_at hl 0 rfl) ?_
  refine lv_iload_n hx hb d_law_669 rfl (lv_at hl 3 rfl) ?_
  refine lv_iconst (v := 1) hx hb d_law_670 (by decide) ?_
  refine lv_iadd hx hb d_law_671 ?_
  obtain ⟨v4, e4, h⟩ := fr_bind h
  refine fl_sld hx hb hX hbl hbA hS e4 d_law_672 ?_
  obtain ⟨u5, e5, h⟩ := fr_bind h
  obtain ⟨w6, e6, h⟩ := fr_bind h
  refine fl_calli (fr_V (As := [.int v4]) (rest := []) ⟨hx, hb, hml, hown, hts⟩ (c_Md_lacks l D T Am τ bm v4 w6.1 w6.2 e6) k_778 mv_Md_lacks rfl rfl ⟨Nat.le_of_ble_eq_true rfl, Nat.le_of_ble_eq_true rfl⟩ (fr_preV hK hXs hHm e5 rfl _) rfl hl.1 rfl (Nat.le_of_ble_eq_true rfl) d_law_673 ⟨Nat.le_of_ble_eq_true rfl, Nat.le_of_ble_eq_true rfl⟩) hS hMA hHx hdm (fun H locs hHm hHx hS => ?_)
  refine lv_pop hx hb d_law_676 rfl ?_
  refine lv_goto (tgt := 769) hx hb d_law_677 (by decide) ?_
  cases h
  exact kx _ _ _ hHx hHm hS hl
set_option maxHeartbeats 4000000 in
set_option maxRecDepth 100000 in
theorem w_law_C16 {p : Program} {l : Launch} {e : Env} {s : State} {m : MethodId} {below : List Frame} {meth : Method} {c : Code} {D : va_G} {T : Nat → ClassId} {Ax Am : Nat → Prop} {b L bx bm : Nat} {xs : Nat → Int32} {Q : State → Prop} (C0 : fl_At p s m meth c b L xs D T Ax Am) (i : Int32) (σ τ : fr_S) (z : fr_S × fr_S) (h : m_law_C16 xs L bx bm i σ τ = some z) (H : Heap) (locs : List Loc) (hHx : fr_H D T Ax σ H) (hHm : fr_H D T Am τ H) (hS : va_S (fun q => s.heap.size ≤ q) s.heap H locs) (ls : Array Slot) (hl : lv_has ls 4 [(0, .ref b), (1, .ref bx), (2, .ref bm), (3, .int i)])
    (kx : ∀ (H : Heap) (locs : List Loc) (ls : Array Slot), fr_H D T Ax z.1 H → fr_H D T Am z.2 H → va_S (fun q => s.heap.size ≤ q) s.heap H locs → lv_has ls 4 [(0, .ref b), (1, .ref bx), (2, .ref bm), (3, .int i)] → W p l e room_1 s m #[Value.ref b] below meth c H locs 161 9742 Q (F0 m 769 ls [])) : W p l e room_1 s m #[Value.ref b] below meth c H locs 161 9742 Q (F0 m 680 ls []) := by
  obtain ⟨hx, hb, hml, hown, hts, hX, hbl, hbA, hK, hXs, hXA, hMA, hdx, hdm⟩ := C0
  unfold m_law_C16 at h
  refine lv_aload_n hx hb d_law_680 rfl (lv_at hl 1 rfl) ?_
  refine lv_aload_n hx hb d_law_681 rfl (lv_at hl 0 rfl) ?_
  refine lv_iload_n hx hb d_law_682 rfl (lv_at hl 3 rfl) ?_
  refine lv_iconst (v := 1) hx hb d_law_683 (by decide) ?_
  refine lv_iadd hx hb d_law_684 ?_
  obtain ⟨v1, e1, h⟩ := fr_bind h
  refine fl_sld hx hb hX hbl hbA hS e1 d_law_685 ?_
  obtain ⟨u2, e2, h⟩ := fr_bind h
  obtain ⟨r3, e3, h⟩ := fr_bind h
  refine fl_calli (fr_V (As := [.int v1]) (rest := []) ⟨hx, hb, hml, hown, hts⟩ (c_FR_sent l D T Ax σ bx v1 r3 e3) k_470 mv_FR_sent rfl rfl ⟨Nat.le_of_ble_eq_true rfl, Nat.le_of_ble_eq_true rfl⟩ (fr_preV hK hXs hHx e2 rfl _) rfl hl.1 rfl (Nat.le_of_ble_eq_true rfl) d_law_686 ⟨Nat.le_of_ble_eq_true rfl, Nat.le_of_ble_eq_true rfl⟩) hS hXA hHm hdx (fun H locs hHx hHm hS => ?_)
  refine lv_pop hx hb d_law_689 rfl ?_
  refine lv_aload_n hx hb d_law_690 rfl (lv_at hl 2 rfl) ?_
  refine lv_aload_n hx hb d_law_691 rfl (lv_at hl 0 rfl) ?_
  refine lv_iload_n hx hb d_law_692 rfl (lv_at hl 3 rfl) ?_
  refine lv_iconst (v := 1) hx hb d_law_693 (by decide) ?_
  refine lv_iadd hx hb d_law_694 ?_
  obtain ⟨v4, e4, h⟩ := fr_bind h
  refine fl_sld hx hb hX hbl hbA hS e4 d_law_695 ?_
  obtain ⟨u5, e5, h⟩ := fr_bind h
  obtain ⟨w6, e6, h⟩ := fr_bind h
  refine fl_calli (fr_V (As := [.int v4]) (rest := []) ⟨hx, hb, hml, hown, hts⟩ (c_Md_sent l D T Am τ bm v4 w6.1 w6.2 e6) k_782 mv_Md_sent rfl rfl ⟨Nat.le_of_ble_eq_true rfl, Nat.le_of_ble_eq_true rfl⟩ (fr_preV hK hXs hHm e5 rfl _) rfl hl.1 rfl (Nat.le_of_ble_eq_true rfl) d_law_696 ⟨Nat.le_of_ble_eq_true rfl, Nat.le_of_ble_eq_true rfl⟩) hS hMA hHx hdm (fun H locs hHm hHx hS => ?_)
  refine lv_pop hx hb d_law_699 rfl ?_
  refine lv_goto (tgt := 769) hx hb d_law_700 (by decide) ?_
  cases h
  exact kx _ _ _ hHx hHm hS hl
