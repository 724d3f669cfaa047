def fl_Sem (B0 L : Nat) (xs : Nat → Int32) : Prop := ∃ (r : Int32) (σ1 : fr_S) (nx1 : Nat) (τ1 : fr_S) (nx2 : Nat) (u : Unit), m_cell xs L 0 = some r ∧ m_FR_init B0 r (pN fl_e B0 (.inl 1)) (B0 + 1) = some (σ1, nx1) ∧ m_Md_init nx1 r (pN fl_e nx1 (.inl 0)) (nx1 + 1) = some (τ1, nx2) ∧ m_law_L xs L B0 nx1 1000 1 σ1 τ1 = some u
set_option maxHeartbeats 4000000 in
set_option maxRecDepth 100000 in
theorem fl_tables {s : State} {args : Array Value} (hts0 : ∀ w ∈ lw_tbl, w.before args s = true) (hts : ∀ w ∈ fr_W, w.before args s = true) : ∃ (D : va_G) (T : Nat → ClassId), va_K D vwCl (fr_tys T) s ∧ fr_X s := by
  obtain ⟨c0, i0, hK0⟩ := u_known (C := "FetchRulesModel") (T := T_Md) (N := 44) (n := 44) hts in_Md (hts _ k_535)
  obtain ⟨c1, i1, hK1⟩ := u_known (C := "FetchRules") (T := T_FR) (N := 14) (n := 14) hts in_FR (hts _ k_43)
  obtain ⟨c2, i2, hK2⟩ := u_known (C := "FetchRules$Files") (T := T_Files) (N := 5) (n := 5) hts in_Files (hts _ k_115)
  obtain ⟨c3, i3, hK3⟩ := u_known (C := "FetchRules$Place") (T := T_Place) (N := 10) (n := 10) hts in_Place (hts _ k_147)
  obtain ⟨c4, i4, hK4⟩ := u_known (C := "FetchRules$Row") (T := T_Row) (N := 2) (n := 2) hts in_Row (hts _ k_62)
  obtain ⟨c5, i5, hK5⟩ := u_known (C := "FetchRules$Store") (T := T_Store) (N := 3) (n := 3) hts in_Store (hts _ k_55)
  obtain ⟨c6, i6, hK6⟩ := u_known (C := "FetchRules$Tellings") (T := T_Tellings) (N := 4) (n := 4) hts in_Tellings (hts _ k_93)
  obtain ⟨c7, i7, hK7⟩ := u_known (C := "FetchRules$Want") (T := T_Want) (N := 9) (n := 9) hts in_Want (hts _ k_195)
  obtain ⟨t0, kt0, cm0, f0, g0, h0⟩ := Cond.arrayClass_spec (hts _ k_80)
  obtain ⟨t1, kt1, cm1, f1, g1, h1⟩ := Cond.arrayClass_spec (hts _ k_79)
  have ho2 : (Cond.arrayOver (.object "FetchRules$Place")).before args s = true := hts0 _ (List.mem_of_getElem? (i := 51) (by decide +kernel))
  obtain ⟨cm2, t2, kt2, a2, b2, g2, h2, f2⟩ := Cond.arrayOver_spec ho2
  have ho3 : (Cond.arrayOver (.object "FetchRules$Want")).before args s = true := hts0 _ (List.mem_of_getElem? (i := 53) (by decide +kernel))
  obtain ⟨cm3, t3, kt3, a3, b3, g3, h3, f3⟩ := Cond.arrayOver_spec ho3
  have ho4 : (Cond.arrayOver (.object "FetchRules$Row")).before args s = true := hts0 _ (List.mem_of_getElem? (i := 61) (by decide +kernel))
  obtain ⟨cm4, t4, kt4, a4, b4, g4, h4, f4⟩ := Cond.arrayOver_spec ho4
  refine ⟨(fun k => if k = 0 then c0 else if k = 1 then c1 else if k = 2 then c2 else if k = 3 then c3 else if k = 4 then c4 else if k = 5 then c5 else if k = 6 then c6 else c7, fun k => if k = 0 then i0 else if k = 1 then i1 else if k = 2 then i2 else if k = 3 then i3 else if k = 4 then i4 else if k = 5 then i5 else if k = 6 then i6 else i7), fun k => if k = 0 then t0 else if k = 1 then t1 else if k = 2 then t2 else if k = 3 then t3 else t4, ⟨?_, ?_⟩, ?_, ?_⟩
  · intro k q hq
    match k, hq with
    | 0, hq => cases hq; exact hK0
    | 1, hq => cases hq; exact hK1
    | 2, hq => cases hq; exact hK2
    | 3, hq => cases hq; exact hK3
    | 4, hq => cases hq; exact hK4
    | 5, hq => cases hq; exact hK5
    | 6, hq => cases hq; exact hK6
    | 7, hq => cases hq; exact hK7
    | k + 8, hq => simp at hq
  · intro k q hq
    match k, hq with
    | 0, hq => cases hq; exact ⟨fun n z => ⟨fun k h => (by cases h), kt0, g0, cm0, h0⟩, f0⟩
    | 1, hq => cases hq; exact ⟨fun n z => ⟨fun k h => (by cases h), kt1, g1, cm1, h1⟩, f1⟩
    | 2, hq => cases hq; exact ⟨fun n z => ⟨fun k h => (by cases h), kt2, g2, cm2, h2⟩, kt2, cm2, g2, h2, a2, f2⟩
    | 3, hq => cases hq; exact ⟨fun n z => ⟨fun k h => (by cases h), kt3, g3, cm3, h3⟩, kt3, cm3, g3, h3, a3, f3⟩
    | 4, hq => cases hq; exact ⟨fun n z => ⟨fun k h => (by cases h), kt4, g4, cm4, h4⟩, kt4, cm4, g4, h4, a4, f4⟩
    | k + 5, hq => simp at hq
  · intro C hC
    simp only [fr_arrs, List.mem_cons, List.not_mem_nil, or_false] at hC
    rcases hC with rfl | rfl | rfl
    · exact ho2
    · exact ho3
    · exact ho4
  · intro q hq
    simp only [fr_nests, List.mem_cons, List.not_mem_nil, or_false] at hq
    rcases hq with rfl | rfl | rfl | rfl | rfl | rfl | rfl
    · exact va_Nw.of (A := args) rfl (hts0 _ (List.mem_of_getElem? (i := 63) (by decide +kernel)))
    · exact va_Nw.of (A := args) rfl (hts0 _ (List.mem_of_getElem? (i := 94) (by decide +kernel)))
    · exact va_Nw.of (A := args) rfl (hts0 _ (List.mem_of_getElem? (i := 116) (by decide +kernel)))
    · exact va_Nw.of (A := args) rfl (hts0 _ (List.mem_of_getElem? (i := 148) (by decide +kernel)))
    · exact va_Nw.of (A := args) rfl (hts0 _ (List.mem_of_getElem? (i := 153) (by decide +kernel)))
    · exact va_Nw.of (A := args) rfl (hts0 _ (List.mem_of_getElem? (i := 196) (by decide +kernel)))
    · exact va_Nw.of (A := args) rfl (hts0 _ (List.mem_of_getElem? (i := 201) (by decide +kernel)))
set_option maxHeartbeats 4000000 in
set_option maxRecDepth 100000 in
/-- THE LAW from its entry, where the pure end is known -/
theorem whole_open {p : Program} {e : Env} {s : State} {m : MethodId} {below : List Frame} {meth : Method} {c : Code} (l : Launch) {b L : Nat} {xs : Nat → Int32} (hsem : fl_Sem s.heap.size L xs) (C0 : lw_At p s m meth c b L xs) : W p l e room_1 s m #[Value.ref b] below meth c s.heap [] 0 0 (lw_Z below #[Value.ref b] s) (entryFrame m ([Value.ref b] : List Value).toArray 4) := by
  obtain ⟨hx, hb, hr, hml, hown, hts0, hX, hbl, hlocks, hgv⟩ := id C0
  have hts : ∀ w ∈ fr_W, w.before #[Value.ref b] s = true := fun w hw => hts0 w (List.mem_filter.mp hw).1
  obtain ⟨D, T, hK, hXs⟩ := fl_tables hts0 hts
  obtain ⟨r, σ1, nx1, τ1, nx2, u, s1, s2, s3, s4⟩ := hsem
  have hA : ∀ q : Nat, s.heap.size ≤ q → (fun q : Nat => s.heap.size ≤ q) q := fun _ h => h
  have hbA : ¬ (fun q : Nat => s.heap.size ≤ q) b := Nat.not_le.mpr hbl
  have hS : va_S (fun q : Nat => s.heap.size ≤ q) s.heap s.heap [] := va_S.rf
  have hl := lv_entry ([.ref b]) (n := 4) (Nat.le_of_ble_eq_true rfl)
  rw [lg_entry_eq]
  generalize (lg_sl ([.ref b]) ++ List.replicate (4 - (lg_sl ([.ref b])).length) Slot.unset).toArray = ls at hl ⊢
  have hl : lv_has ls 4 [(0, .ref b)] := hl
  refine fr_new (T := T) (A := fun q : Nat => s.heap.size ≤ q) (σ := fl_e) hx hb hts in_FR ty_FR tk_FR hown (hts _ k_42) (hts _ k_43) (hts _ k_31) hK fl_eH hS hA rfl rfl (df_FR _ _) (Nat.le_of_ble_eq_true rfl) (Nat.le_of_ble_eq_true rfl) d_law_0 (fun H hH hN hS => ?_)
  refine W.widen (k := 1) (n := 14) (Nat.le_of_ble_eq_true rfl) (Nat.le_of_ble_eq_true rfl) ?_
  refine lv_dup hx hb d_law_3 rfl ?_
  refine lv_aload_n hx hb d_law_4 rfl (lv_at hl 0 rfl) ?_
  refine lv_iconst (v := 0) hx hb d_law_5 (by decide) ?_
  have hXH : va_X b L xs s H := hX.kept (hS.2.1 b hbl hbA)
  refine fl_cell (va_runS (As := [.ref b, .int 0]) (rest := [.ref s.heap.size, .ref s.heap.size]) ⟨hx, hb, hml, hown, hts⟩ (c_cell l b L xs 0 r s1) ⟨callB_of 2 hts (fr_G k_533) rfl rfl rfl (hts _ k_30) (hts _ k_531) (by decide +kernel) ⟨Nat.le_of_ble_eq_true rfl, Nat.le_of_ble_eq_true rfl⟩, hts _ k_532⟩ ⟨fl_blind, fun U hU hW => ⟨rfl, by rw [hU]; exact va_X.moved hW.alike hXH, by rw [hU]; exact Nat.lt_of_lt_of_le hbl hS.1⟩⟩ rfl rfl hl.1 rfl (lv_room (Nat.le_of_ble_eq_true rfl)) d_law_6 ⟨Nat.le_of_ble_eq_true rfl, Nat.le_of_ble_eq_true rfl⟩) ?_
  refine fr_callN (fr_Ic (b := s.heap.size) (As := [.int r]) (rest := [.ref s.heap.size]) ⟨hx, hb, hml, hown, hts⟩ (c_FR_init l D T (fun q : Nat => s.heap.size ≤ q) (pN fl_e s.heap.size (.inl 1)) s.heap.size r (s.heap.size + 1) (fun q hq => Nat.le_trans (Nat.le_succ _) hq) σ1 nx1 s2) k_44 mi_FR_init rfl rfl ⟨Nat.le_of_ble_eq_true rfl, Nat.le_of_ble_eq_true rfl⟩ (fr_preN hK hXs hH hN _) rfl hl.1 rfl (Nat.le_of_ble_eq_true rfl) d_law_9 ⟨Nat.le_of_ble_eq_true rfl, Nat.le_of_ble_eq_true rfl⟩) hS (fun H locs hH hN hS => ?_)
  refine W.widen (k := 126) (n := 4392) (Nat.le_of_ble_eq_true rfl) (Nat.le_of_ble_eq_true rfl) ?_
  refine lv_astore_n (lv' := [(1, .ref s.heap.size), (0, .ref b)]) hx hb d_law_12 rfl hl (by decide) rfl (fun ls hl => ?_)
  have hz : s.heap.size ≤ nx1 := by have h9 := hS.1; omega
  have hHx : fr_H D T (fun q : Nat => s.heap.size ≤ q ∧ q < nx1) σ1 H := ⟨hH.1, fun a ha => ⟨hH.2 a ha, by have h9 := fr_dom hH ha; omega⟩⟩
  refine fl_new (T := T) (Am := fun q : Nat => nx1 ≤ q) (τ := fl_e) hx hb hts in_Md ty_Md tk_Md hown (hts _ k_534) (hts _ k_535) (hts _ k_39) hK fl_eH hHx hS (Nat.le_refl nx1) hN rfl (df_Md _ _) (Nat.le_of_ble_eq_true rfl) (Nat.le_of_ble_eq_true rfl) d_law_13 (fun H hHm hHx hN hS => ?_)
  refine W.widen (k := 127) (n := 4436) (Nat.le_of_ble_eq_true rfl) (Nat.le_of_ble_eq_true rfl) ?_
  refine lv_dup hx hb d_law_16 rfl ?_
  refine lv_aload_n hx hb d_law_17 rfl (lv_at hl 1 rfl) ?_
  refine lv_iconst (v := 0) hx hb d_law_18 (by decide) ?_
  have hXH : va_X b L xs s H := hX.kept (hS.2.1 b hbl hbA)
  refine fl_cell (va_runS (As := [.ref b, .int 0]) (rest := [.ref nx1, .ref nx1]) ⟨hx, hb, hml, hown, hts⟩ (c_cell l b L xs 0 r s1) ⟨callB_of 2 hts (fr_G k_533) rfl rfl rfl (hts _ k_30) (hts _ k_531) (by decide +kernel) ⟨Nat.le_of_ble_eq_true rfl, Nat.le_of_ble_eq_true rfl⟩, hts _ k_532⟩ ⟨fl_blind, fun U hU hW => ⟨rfl, by rw [hU]; exact va_X.moved hW.alike hXH, by rw [hU]; exact Nat.lt_of_lt_of_le hbl hS.1⟩⟩ rfl rfl hl.1 rfl (lv_room (Nat.le_of_ble_eq_true rfl)) d_law_19 ⟨Nat.le_of_ble_eq_true rfl, Nat.le_of_ble_eq_true rfl⟩) ?_
  refine fl_callN (fr_Ic (b := nx1) (As := [.int r]) (rest := [.ref nx1]) ⟨hx, hb, hml, hown, hts⟩ (c_Md_init l D T (fun q : Nat => nx1 ≤ q) (pN fl_e nx1 (.inl 0)) nx1 r (nx1 + 1) (fun q hq => Nat.le_trans (Nat.le_succ _) hq) τ1 nx2 s3) k_536 mi_Md_init rfl rfl ⟨Nat.le_of_ble_eq_true rfl, Nat.le_of_ble_eq_true rfl⟩ (fr_preN hK hXs hHm hN _) rfl hl.1 rfl (Nat.le_of_ble_eq_true rfl) d_law_22 ⟨Nat.le_of_ble_eq_true rfl, Nat.le_of_ble_eq_true rfl⟩) hS (fun q hq => Nat.le_trans hz hq) hHx (fun q hq => Nat.not_le.mpr hq.2) (fun H locs hHm hHx hN hS => ?_)
  refine W.widen (k := 161) (n := 9742) (Nat.le_of_ble_eq_true rfl) (Nat.le_of_ble_eq_true rfl) ?_
  refine lv_astore_n (lv' := [(2, .ref nx1), (1, .ref s.heap.size), (0, .ref b)]) hx hb d_law_25 rfl hl (by decide) rfl (fun ls hl => ?_)
  refine lv_iconst (v := 1) hx hb d_law_26 (by decide) ?_
  refine lv_istore_n (lv' := [(3, .int 1), (2, .ref nx1), (1, .ref s.heap.size), (0, .ref b)]) hx hb d_law_27 rfl hl (by decide) rfl (fun ls hl => ?_)
  exact w_law_L (Ax := fun q : Nat => s.heap.size ≤ q ∧ q < nx1) (Am := fun q : Nat => nx1 ≤ q) ⟨hx, hb, hml, hown, hts, hX, hbl, hbA, hK, hXs, fun q hq => hq.1, fun q hq => Nat.le_trans hz hq, fun q hq h => Nat.lt_irrefl _ (Nat.lt_of_lt_of_le h.2 hq), fun q hq => Nat.not_le.mpr hq.2⟩ hr hlocks 1000 1 σ1 τ1 u s4 _ _ hHx hHm hS ls (lv_sub hl [3, 2, 1, 0] rfl)
