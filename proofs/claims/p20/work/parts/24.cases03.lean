set_option maxHeartbeats 4000000 in
set_option maxRecDepth 100000 in
theorem w_law_C17 {p : Program} {l : Launch} {e : Env} {s : State} {m : MethodId} {below : List Frame} {meth : Method} {c : Code} {D : va_G} {T : Nat → ClassId} {Ax Am : Nat → Prop} {b L bx bm : Nat} {xs : Nat → Int32} {Q : State → Prop} (C0 : fl_At p s m meth c b L xs D T Ax Am) (i : Int32) (σ τ : fr_S) (z : fr_S × fr_S) (h : m_law_C17 xs L bx bm i σ τ = some z) (H : Heap) (locs : List Loc) (hHx : fr_H D T Ax σ H) (hHm : fr_H D T Am τ H) (hS : va_S (fun q => s.heap.size ≤ q) s.heap H locs) (ls : Array Slot) (hl : lv_has ls 4 [(0, .ref b), (1, .ref bx), (2, .ref bm), (3, .int i)])
    (kx : ∀ (H : Heap) (locs : List Loc) (ls : Array Slot), fr_H D T Ax z.1 H → fr_H D T Am z.2 H → va_S (fun q => s.heap.size ≤ q) s.heap H locs → lv_has ls 4 [(0, .ref b), (1, .ref bx), (2, .ref bm), (3, .int i)] → W p l e room_1 s m #[Value.ref b] below meth c H locs 161 9742 Q (F0 m 769 ls [])) : W p l e room_1 s m #[Value.ref b] below meth c H locs 161 9742 Q (F0 m 703 ls []) := by
  obtain ⟨hx, hb, hml, hown, hts, hX, hbl, hbA, hK, hXs, hXA, hMA, hdx, hdm⟩ := C0
  unfold m_law_C17 at h
  refine lv_aload_n hx hb d_law_703 rfl (lv_at hl 1 rfl) ?_
  refine lv_aload_n hx hb d_law_704 rfl (lv_at hl 0 rfl) ?_
  refine lv_iload_n hx hb d_law_705 rfl (lv_at hl 3 rfl) ?_
  refine lv_iconst (v := 1) hx hb d_law_706 (by decide) ?_
  refine lv_iadd hx hb d_law_707 ?_
  obtain ⟨v1, e1, h⟩ := fr_bind h
  refine fl_sld hx hb hX hbl hbA hS e1 d_law_708 ?_
  refine lv_aload_n hx hb d_law_709 rfl (lv_at hl 0 rfl) ?_
  refine lv_iload_n hx hb d_law_710 rfl (lv_at hl 3 rfl) ?_
  refine lv_iconst (v := 2) hx hb d_law_711 (by decide) ?_
  refine lv_iadd hx hb d_law_712 ?_
  obtain ⟨v2, e2, h⟩ := fr_bind h
  refine fl_sld hx hb hX hbl hbA hS e2 d_law_713 ?_
  obtain ⟨u3, e3, h⟩ := fr_bind h
  obtain ⟨w4, e4, h⟩ := fr_bind h
  refine fl_calli (fr_V (As := [.int v1, .int v2]) (rest := []) ⟨hx, hb, hml, hown, hts⟩ (c_FR_unpack l D T Ax σ bx v1 v2 w4.1 w4.2 e4) k_474 mv_FR_unpack rfl rfl ⟨Nat.le_of_ble_eq_true rfl, Nat.le_of_ble_eq_true rfl⟩ (fr_preV hK hXs hHx e3 rfl _) rfl hl.1 rfl (Nat.le_of_ble_eq_true rfl) d_law_714 ⟨Nat.le_of_ble_eq_true rfl, Nat.le_of_ble_eq_true rfl⟩) hS hXA hHm hdx (fun H locs hHx hHm hS => ?_)
  refine lv_pop hx hb d_law_717 rfl ?_
  refine lv_aload_n hx hb d_law_718 rfl (lv_at hl 2 rfl) ?_
  refine lv_aload_n hx hb d_law_719 rfl (lv_at hl 0 rfl) ?_
  refine lv_iload_n hx hb d_law_720 rfl (lv_at hl 3 rfl) ?_
  refine lv_iconst (v := 1) hx hb d_law_721 (by decide) ?_
  refine lv_iadd hx hb d_law_722 ?_
  obtain ⟨v5, e5, h⟩ := fr_bind h
  refine fl_sld hx hb hX hbl hbA hS e5 d_law_723 ?_
  refine lv_aload_n hx hb d_law_724 rfl (lv_at hl 0 rfl) ?_
  refine lv_iload_n hx hb d_law_725 rfl (lv_at hl 3 rfl) ?_
  refine lv_iconst (v := 2) hx hb d_law_726 (by decide) ?_
  refine lv_iadd hx hb d_law_727 ?_
  obtain ⟨v6, e6, h⟩ := fr_bind h
  refine fl_sld hx hb hX hbl hbA hS e6 d_law_728 ?_
  obtain ⟨u7, e7, h⟩ := fr_bind h
  obtain ⟨w8, e8, h⟩ := fr_bind h
  refine fl_calli (fr_V (As := [.int v5, .int v6]) (rest := []) ⟨hx, hb, hml, hown, hts⟩ (c_Md_unpack l D T Am τ bm v5 v6 w8.1 w8.2 e8) k_786 mv_Md_unpack rfl rfl ⟨Nat.le_of_ble_eq_true rfl, Nat.le_of_ble_eq_true rfl⟩ (fr_preV hK hXs hHm e7 rfl _) rfl hl.1 rfl (Nat.le_of_ble_eq_true rfl) d_law_729 ⟨Nat.le_of_ble_eq_true rfl, Nat.le_of_ble_eq_true rfl⟩) hS hMA hHx hdm (fun H locs hHm hHx hS => ?_)
  refine lv_pop hx hb d_law_732 rfl ?_
  refine lv_goto (tgt := 769) hx hb d_law_733 (by decide) ?_
  cases h
  exact kx _ _ _ hHx hHm hS hl
set_option maxHeartbeats 4000000 in
set_option maxRecDepth 100000 in
theorem w_law_C18 {p : Program} {l : Launch} {e : Env} {s : State} {m : MethodId} {below : List Frame} {meth : Method} {c : Code} {D : va_G} {T : Nat → ClassId} {Ax Am : Nat → Prop} {b L bx bm : Nat} {xs : Nat → Int32} {Q : State → Prop} (C0 : fl_At p s m meth c b L xs D T Ax Am) (i : Int32) (σ τ : fr_S) (z : fr_S × fr_S) (h : m_law_C18 xs L bx bm i σ τ = some z) (H : Heap) (locs : List Loc) (hHx : fr_H D T Ax σ H) (hHm : fr_H D T Am τ H) (hS : va_S (fun q => s.heap.size ≤ q) s.heap H locs) (ls : Array Slot) (hl : lv_has ls 4 [(0, .ref b), (1, .ref bx), (2, .ref bm), (3, .int i)])
    (kx : ∀ (H : Heap) (locs : List Loc) (ls : Array Slot), fr_H D T Ax z.1 H → fr_H D T Am z.2 H → va_S (fun q => s.heap.size ≤ q) s.heap H locs → lv_has ls 4 [(0, .ref b), (1, .ref bx), (2, .ref bm), (3, .int i)] → W p l e room_1 s m #[Value.ref b] below meth c H locs 161 9742 Q (F0 m 769 ls [])) : W p l e room_1 s m #[Value.ref b] below meth c H locs 161 9742 Q (F0 m 736 ls []) := by
  obtain ⟨hx, hb, hml, hown, hts, hX, hbl, hbA, hK, hXs, hXA, hMA, hdx, hdm⟩ := C0
  unfold m_law_C18 at h
  refine lv_aload_n hx hb d_law_736 rfl (lv_at hl 1 rfl) ?_
  refine lv_aload_n hx hb d_law_737 rfl (lv_at hl 0 rfl) ?_
  refine lv_iload_n hx hb d_law_738 rfl (lv_at hl 3 rfl) ?_
  refine lv_iconst (v := 1) hx hb d_law_739 (by decide) ?_
  refine lv_iadd hx hb d_law_740 ?_
  obtain ⟨v1, e1, h⟩ := fr_bind h
  refine fl_sld hx hb hX hbl hbA hS e1 d_law_741 ?_
  refine lv_aload_n hx hb d_law_742 rfl (lv_at hl 0 rfl) ?_
  refine lv_iload_n hx hb d_law_743 rfl (lv_at hl 3 rfl) ?_
  refine lv_iconst (v := 2) hx hb d_law_744 (by decide) ?_
  refine lv_iadd hx hb d_law_745 ?_
  obtain ⟨v2, e2, h⟩ := fr_bind h
  refine fl_sld hx hb hX hbl hbA hS e2 d_law_746 ?_
  obtain ⟨u3, e3, h⟩ := fr_bind h
  obtain ⟨r4, e4, h⟩ := fr_bind h
  refine fl_calli (fr_V (As := [.int v1, .int v2]) (rest := []) ⟨hx, hb, hml, hown, hts⟩ (c_FR_file l D T Ax σ bx v1 v2 r4 e4) k_523 mv_FR_file rfl rfl ⟨Nat.le_of_ble_eq_true rfl, Nat.le_of_ble_eq_true rfl⟩ (fr_preV hK hXs hHx e3 rfl _) rfl hl.1 rfl (Nat.le_of_ble_eq_true rfl) d_law_747 ⟨Nat.le_of_ble_eq_true rfl, Nat.le_of_ble_eq_true rfl⟩) hS hXA hHm hdx (fun H locs hHx hHm hS => ?_)
  refine lv_aload_n hx hb d_law_750 rfl (lv_at hl 2 rfl) ?_
  refine lv_aload_n hx hb d_law_751 rfl (lv_at hl 0 rfl) ?_
  refine lv_iload_n hx hb d_law_752 rfl (lv_at hl 3 rfl) ?_
  refine lv_iconst (v := 1) hx hb d_law_753 (by decide) ?_
  refine lv_iadd hx hb d_law_754 ?_
  obtain ⟨v5, e5, h⟩ := fr_bind h
  refine fl_sld hx hb hX hbl hbA hS e5 d_law_755 ?_
  refine lv_aload_n hx hb d_law_756 rfl (lv_at hl 0 rfl) ?_
  refine lv_iload_n hx hb d_law_757 rfl (lv_at hl 3 rfl) ?_
  refine lv_iconst (v := 2) hx hb d_law_758 (by decide) ?_
  refine lv_iadd hx hb d_law_759 ?_
  obtain ⟨v6, e6, h⟩ := fr_bind h
  refine fl_sld hx hb hX hbl hbA hS e6 d_law_760 ?_
  obtain ⟨u7, e7, h⟩ := fr_bind h
  obtain ⟨w8, e8, h⟩ := fr_bind h
  refine fl_calli (fr_V (As := [.int v5, .int v6]) (rest := [.int r4]) ⟨hx, hb, hml, hown, hts⟩ (c_Md_file l D T Am τ bm v5 v6 w8.1 w8.2 e8) k_813 mv_Md_file rfl rfl ⟨Nat.le_of_ble_eq_true rfl, Nat.le_of_ble_eq_true rfl⟩ (fr_preV hK hXs hHm e7 rfl _) rfl hl.1 rfl (Nat.le_of_ble_eq_true rfl) d_law_761 ⟨Nat.le_of_ble_eq_true rfl, Nat.le_of_ble_eq_true rfl⟩) hS hMA hHx hdm (fun H locs hHm hHx hS => ?_)
  refine lv_icmp_eq (tgt := 769) hx hb d_law_764 (by decide) (fun c9 => ?_) (fun c9 => ?_)
  · replace h := fr_ift c9 h
    cases h
    exact kx _ _ _ hHx hHm hS hl
  · replace h := fr_iff c9 h
    cases h
