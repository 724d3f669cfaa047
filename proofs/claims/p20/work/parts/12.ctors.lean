def m_Row_init (h0 : Nat) (σ : fr_S) (nx : Nat) : Option (fr_S × Nat) :=
  (nC σ nx (.inr (0, 100))).bind fun σ_1 =>
  (sP σ_1 4 256 h0 nx).bind fun σ_2 =>
  (sI σ_2 4 257 h0 0).bind fun σ_3 =>
  some (σ_3, nx + 1)
def m_Store_init_L28 : Nat → Nat → Int32 → fr_S → Nat → Nat → Nat → Option (fr_S × Nat)
  | 0, _, _, _, _, _, _ => none
  | n + 1, b0, y1, σ, nx, cl, sl =>
    if 10 ≤ y1 then
      (oR (cl) 22 (sl) 1040).bind fun _ =>
      some (σ, nx)
    else
      (oP σ 5 321 b0).bind fun q8 =>
      (oR (cl + 1) 22 (sl + 2) 1040).bind fun _ =>
      (nC σ nx (.inl 4)).bind fun σ_9 =>
      (oR (cl + 1 + 1) 22 (sl + 2 + 100) 1040).bind fun _ =>
      (m_Row_init nx σ_9 (nx + 1)).bind fun w10 =>
      (sQ w10.1 4 4 q8 y1 nx).bind fun σ_11 =>
      m_Store_init_L28 n b0 (y1 + 1) σ_11 w10.2 (cl + 2) (sl + 102)
def m_Store_init (h0 : Nat) (σ : fr_S) (nx : Nat) : Option (fr_S × Nat) :=
  (nC σ nx (.inr (0, 10))).bind fun σ_1 =>
  (sP σ_1 5 320 h0 nx).bind fun σ_2 =>
  (nC σ_2 (nx + 1) (.inr (4, 10))).bind fun σ_3 =>
  (sP σ_3 5 321 h0 (nx + 1)).bind fun σ_4 =>
  (sI σ_4 5 322 h0 0).bind fun σ_5 =>
  m_Store_init_L28 1000 h0 0 σ_5 (nx + 2) 2 20
def m_Tellings_init (h0 : Nat) (σ : fr_S) (nx : Nat) : Option (fr_S × Nat) :=
  (nC σ nx (.inr (0, 60))).bind fun σ_1 =>
  (sP σ_1 6 384 h0 nx).bind fun σ_2 =>
  (nC σ_2 (nx + 1) (.inr (0, 60))).bind fun σ_3 =>
  (sP σ_3 6 385 h0 (nx + 1)).bind fun σ_4 =>
  (nC σ_4 (nx + 2) (.inr (0, 60))).bind fun σ_5 =>
  (sP σ_5 6 386 h0 (nx + 2)).bind fun σ_6 =>
  (sI σ_6 6 387 h0 0).bind fun σ_7 =>
  some (σ_7, nx + 3)
def m_Files_init (h0 : Nat) (σ : fr_S) (nx : Nat) : Option (fr_S × Nat) :=
  (nC σ nx (.inr (0, 33))).bind fun σ_1 =>
  (sP σ_1 2 128 h0 nx).bind fun σ_2 =>
  (nC σ_2 (nx + 1) (.inr (0, 33))).bind fun σ_3 =>
  (sP σ_3 2 129 h0 (nx + 1)).bind fun σ_4 =>
  (nC σ_4 (nx + 2) (.inr (0, 33))).bind fun σ_5 =>
  (sP σ_5 2 130 h0 (nx + 2)).bind fun σ_6 =>
  (nC σ_6 (nx + 3) (.inr (0, 33))).bind fun σ_7 =>
  (sP σ_7 2 131 h0 (nx + 3)).bind fun σ_8 =>
  (sI σ_8 2 132 h0 0).bind fun σ_9 =>
  some (σ_9, nx + 4)
def m_Place_init (h0 : Nat) (σ : fr_S) (nx : Nat) : Option (fr_S × Nat) :=
  (nC σ nx (.inl 4)).bind fun σ_1 =>
  (m_Row_init nx σ_1 (nx + 1)).bind fun w2 =>
  (sP w2.1 3 192 h0 nx).bind fun σ_3 =>
  (sI σ_3 3 193 h0 0).bind fun σ_4 =>
  (sI σ_4 3 194 h0 1).bind fun σ_5 =>
  (sI σ_5 3 195 h0 (-1)).bind fun σ_6 =>
  (sI σ_6 3 196 h0 0).bind fun σ_7 =>
  (sI σ_7 3 197 h0 0).bind fun σ_8 =>
  (sZ σ_8 3 198 h0 0).bind fun σ_9 =>
  (sZ σ_9 3 199 h0 0).bind fun σ_10 =>
  (sZ σ_10 3 200 h0 0).bind fun σ_11 =>
  (sZ σ_11 3 201 h0 0).bind fun σ_12 =>
  some (σ_12, w2.2)
def m_Want_init (h0 : Nat) (σ : fr_S) (nx : Nat) : Option (fr_S × Nat) :=
  (nC σ nx (.inl 4)).bind fun σ_1 =>
  (m_Row_init nx σ_1 (nx + 1)).bind fun w2 =>
  (sP w2.1 7 448 h0 nx).bind fun σ_3 =>
  (nC σ_3 w2.2 (.inr (0, 6))).bind fun σ_4 =>
  (sP σ_4 7 449 h0 w2.2).bind fun σ_5 =>
  (sI σ_5 7 450 h0 0).bind fun σ_6 =>
  (sI σ_6 7 451 h0 0).bind fun σ_7 =>
  (sI σ_7 7 452 h0 0).bind fun σ_8 =>
  (sI σ_8 7 453 h0 0).bind fun σ_9 =>
  (sI σ_9 7 454 h0 0).bind fun σ_10 =>
  (sI σ_10 7 455 h0 0).bind fun σ_11 =>
  (sI σ_11 7 456 h0 0).bind fun σ_12 =>
  some (σ_12, w2.2 + 1)
def m_FR_init_L146 : Nat → Nat → Int32 → fr_S → Nat → Nat → Nat → Option (fr_S × Nat)
  | 0, _, _, _, _, _, _ => none
  | n + 1, b0, y2, σ, nx, cl, sl =>
    if 10 ≤ y2 then
      (oR (cl) 125 (sl) 4378).bind fun _ =>
      some (σ, nx)
    else
      (oP σ 1 69 b0).bind fun q33 =>
      (oR (cl + 1) 125 (sl + 9) 4378).bind fun _ =>
      (nC σ nx (.inl 7)).bind fun σ_34 =>
      (oR (cl + 1 + 3) 125 (sl + 9 + 108) 4378).bind fun _ =>
      (m_Want_init nx σ_34 (nx + 1)).bind fun w35 =>
      (sQ w35.1 3 7 q33 y2 nx).bind fun σ_36 =>
      m_FR_init_L146 n b0 (y2 + 1) σ_36 w35.2 (cl + 4) (sl + 117)
def m_FR_init_L119 : Nat → Nat → Int32 → fr_S → Nat → Nat → Nat → Option (fr_S × Nat)
  | 0, _, _, _, _, _, _ => none
  | n + 1, b0, y2, σ, nx, cl, sl =>
    if 16 ≤ y2 then
      m_FR_init_L146 1000 b0 0 σ nx cl sl
    else
      (oP σ 1 67 b0).bind fun q27 =>
      (oR (cl + 1) 125 (sl + 10) 4378).bind fun _ =>
      (nC σ nx (.inl 3)).bind fun σ_28 =>
      (oR (cl + 1 + 2) 125 (sl + 10 + 102) 4378).bind fun _ =>
      (m_Place_init nx σ_28 (nx + 1)).bind fun w29 =>
      (sQ w29.1 2 3 q27 y2 nx).bind fun σ_30 =>
      m_FR_init_L119 n b0 (y2 + 1) σ_30 w29.2 (cl + 3) (sl + 112)
def m_FR_init (h0 : Nat) (x1 : Int32) (σ : fr_S) (nx : Nat) : Option (fr_S × Nat) :=
  (nC σ nx (.inr (1, 8))).bind fun σ_1 =>
  (sP σ_1 1 65 h0 nx).bind fun σ_2 =>
  (nC σ_2 (nx + 1) (.inr (0, 8))).bind fun σ_3 =>
  (sP σ_3 1 66 h0 (nx + 1)).bind fun σ_4 =>
  (nC σ_4 (nx + 2) (.inr (2, 16))).bind fun σ_5 =>
  (sP σ_5 1 67 h0 (nx + 2)).bind fun σ_6 =>
  (sI σ_6 1 68 h0 0).bind fun σ_7 =>
  (nC σ_7 (nx + 3) (.inr (3, 10))).bind fun σ_8 =>
  (sP σ_8 1 69 h0 (nx + 3)).bind fun σ_9 =>
  (sI σ_9 1 70 h0 0).bind fun σ_10 =>
  (nC σ_10 (nx + 4) (.inl 5)).bind fun σ_11 =>
  (m_Store_init ((nx + 4)) σ_11 (nx + 5)).bind fun w12 =>
  (sP w12.1 1 71 h0 (nx + 4)).bind fun σ_13 =>
  (nC σ_13 w12.2 (.inl 6)).bind fun σ_14 =>
  (m_Tellings_init w12.2 σ_14 (w12.2 + 1)).bind fun w15 =>
  (sP w15.1 1 72 h0 w12.2).bind fun σ_16 =>
  (nC σ_16 w15.2 (.inr (0, 10))).bind fun σ_17 =>
  (sP σ_17 1 73 h0 w15.2).bind fun σ_18 =>
  (sI σ_18 1 74 h0 0).bind fun σ_19 =>
  (nC σ_19 (w15.2 + 1) (.inl 2)).bind fun σ_20 =>
  (m_Files_init ((w15.2 + 1)) σ_20 (w15.2 + 2)).bind fun w21 =>
  (sP w21.1 1 75 h0 (w15.2 + 1)).bind fun σ_22 =>
  (sZ σ_22 1 76 h0 0).bind fun σ_23 =>
  (sI σ_23 1 77 h0 0).bind fun σ_24 =>
  (sI σ_24 1 64 h0 (if 0 < (if x1 < 5 then x1 else 5) then (if x1 < 5 then x1 else 5) else 0)).bind fun σ_25 =>
  m_FR_init_L119 1000 h0 0 σ_25 w21.2 37 1416
set_option maxHeartbeats 4000000 in
set_option maxRecDepth 100000 in
theorem c_Row_init (l : Launch) (D : va_G) (T : Nat → ClassId) (A : Nat → Prop) (σ : fr_S) (h0 : Nat) (nx : Nat) (hA0 : ∀ q, nx ≤ q → A q) (σ1 : fr_S) (nx1 : Nat) (h : m_Row_init h0 σ nx = some (σ1, nx1)) : Met l y_Row_init (Cond.code y_Row_init b_Row_init 1 none :: fr_W) ({ frames := 1, cells := 1, slots := 100, locals := 24 } : Room) (va_Pc [.ref h0] (fr_BN D T A nx σ)) (fr_QN D T A σ1 nx1) 1 100 A := by
  refine Met.ofW (cc := b_Row_init) (maxL := 1) (ret := none) (by decide) rfl ?_
  intro p e s m args below meth c s₁ B hml hv
  obtain ⟨rfl, hN, hH, hK, hX⟩ := hv
  have hA : ∀ q, s.heap.size ≤ q → A q := fun q hq => hA0 q (by omega)
  have hin : meth.name = "<init>" := (name_of_methodNamed B.named B.method).1
  have C0 : fr_At p s m _ meth c "FetchRules$Row" b_Row_init 1 none := fr_at B hml
  obtain ⟨hx, hb, hr, hml, hown, hts, hlocks⟩ := id C0
  have hS : va_S A s.heap s.heap [] := va_S.rf
  have hl := lv_entry ([.ref h0]) (n := 1) (Nat.le_of_ble_eq_true rfl)
  rw [lg_entry_eq]
  generalize (lg_sl ([.ref h0]) ++ List.replicate (1 - (lg_sl ([.ref h0])).length) Slot.unset).toArray = ls at hl ⊢
  have hl : lv_has ls 1 [(0, .ref h0)] := hl
  unfold m_Row_init at h
  refine lv_aload_n hx hb d_Row_init_0 rfl (lv_at hl 0 rfl) ?_
  refine W.objInit hx hb hown (hts _ k_66) (hts _ k_48) (hts _ k_49) rfl (by rw [hml]; exact hl.1) rfl d_Row_init_1 (Nat.le_of_ble_eq_true rfl) (Nat.le_of_ble_eq_true rfl) ?_
  refine W.eq (g2 := F0 m 4 ls []) rfl ?_
  refine lv_aload_n hx hb d_Row_init_4 rfl (lv_at hl 0 rfl) ?_
  refine lv_bipush (v := 100) hx hb d_Row_init_5 (by decide) ?_
  obtain ⟨σ_1, e1, h⟩ := fr_bind h
  refine fr_newI0 e1 hx hb (hts _ k_80) hK hH hS hA hN (by decide) (by decide) (by decide) (Nat.le_of_ble_eq_true rfl) (Nat.le_of_ble_eq_true rfl) d_Row_init_7 (fun H hH hN hS => ?_)
  refine W.widen (k := 1) (n := 100) (Nat.le_of_ble_eq_true rfl) (Nat.le_of_ble_eq_true rfl) ?_
  have hN : H.size = nx + 1 := by omega
  obtain ⟨σ_2, e2, h⟩ := fr_bind h
  refine fr_putPFN (ty := (.array (.int))) hx hb hts in_Row ty_Row tk_Row nm_Row hown hK hH hN hS ⟨rfl, rfl⟩ e2 rfl 0 (by decide) (hts _ k_67) (fun _ h9 => h9) rfl hin rfl (by decide +kernel) (fs_4_0 _ _ _) (Nat.le_of_ble_eq_true rfl) d_Row_init_9 (fun H locs hH hN hS => ?_)
  refine lv_aload_n hx hb d_Row_init_12 rfl (lv_at hl 0 rfl) ?_
  refine lv_iconst (v := 0) hx hb d_Row_init_13 (by decide) ?_
  obtain ⟨σ_3, e3, h⟩ := fr_bind h
  refine fr_putIN hx hb hts in_Row ty_Row tk_Row nm_Row hown hK hH hN hS e3 rfl 1 (by decide) (hts _ k_68) (fun _ h9 => h9) rfl (by decide +kernel) (fs_4_1 _ _ _) (Nat.le_of_ble_eq_true rfl) d_Row_init_14 (fun H locs hH hN hS => ?_)
  exact fr_vretN hx hb hr hlocks h hH hN hK hX hS d_Row_init_17
set_option maxHeartbeats 4000000 in
set_option maxRecDepth 100000 in
theorem w_Store_init_L28 {p : Program} {l : Launch} {e : Env} {s : State} {m : MethodId} {args : Array Value} {below : List Frame} {meth : Method} {c : Code} {D : va_G} {T : Nat → ClassId} {A : Nat → Prop} (C0 : fr_At p s m args meth c "FetchRules$Store" b_Store_init 2 none) (hK : va_K D vwCl (fr_tys T) s) (hX : fr_X s) (hA : ∀ q, s.heap.size ≤ q → A q) :
    ∀ (n : Nat) (b0 : Nat) (y1 : Int32) (σ : fr_S) (nx cl sl : Nat) (σ1 : fr_S) (nx1 : Nat), m_Store_init_L28 n b0 y1 σ nx cl sl = some (σ1, nx1) → ∀ (H : Heap) (locs : List Loc), fr_H D T A σ H → H.size = nx → va_S A s.heap H locs → ∀ (ls : Array Slot), lv_has ls 2 [(0, .ref b0), (1, .int y1)] → W p l e (headSpec (Cond.code y_Store_init b_Store_init 2 none :: fr_W) ({ frames := 2, cells := 22, slots := 1040, locals := 44 } : Room)).room s m args below meth c H locs cl sl (MQ below (fr_QN D T A σ1 nx1) args s 22 1040 A) (F0 m 28 ls []) := by
  obtain ⟨hx, hb, hr, hml, hown, hts, hlocks⟩ := id C0
  intro n
  induction n with
  | zero => intro b0 y1 σ nx cl sl σ1 nx1 h; cases h
  | succ n ih =>
    intro b0 y1 σ nx cl sl σ1 nx1 h H locs hH hN hS ls hl
    unfold m_Store_init_L28 at h
    refine lv_iload_n hx hb d_Store_init_28 rfl (lv_at hl 1 rfl) ?_
    refine lv_bipush (v := 10) hx hb d_Store_init_29 (by decide) ?_
    refine lv_icmp_ge (tgt := 53) hx hb d_Store_init_31 (by decide) (fun c6 => ?_) (fun c6 => ?_)
    · replace h := fr_ift c6 h
      obtain ⟨u7, e7, h⟩ := fr_bind h
      refine W.widen (k := 22) (n := 1040) (oR_inv e7).1 (oR_inv e7).2 ?_
      exact fr_vretN hx hb hr hlocks h hH hN hK hX hS d_Store_init_53
    · replace h := fr_iff c6 h
      refine lv_aload_n hx hb d_Store_init_34 rfl (lv_at hl 0 rfl) ?_
      obtain ⟨q8, e8, h⟩ := fr_bind h
      refine fr_gP hx hb hts in_Store hown hK hH e8 rfl 1 (by decide) (hts _ k_82) (fun _ h9 => h9) rfl d_Store_init_35 ?_
      refine lv_iload_n hx hb d_Store_init_38 rfl (lv_at hl 1 rfl) ?_
      obtain ⟨u9, f9, h⟩ := fr_bind h
      obtain ⟨σ_9, e9, h⟩ := fr_bind h
      refine fr_newO e9 hx hb hts in_Row ty_Row tk_Row hown (hts _ k_60) (hts _ k_62) (hts _ k_33) hK hH hS hA hN rfl (df_Row _ _) (oR_inv f9).1 (oR_inv f9).2 d_Store_init_39 (fun H hH hN hS => ?_)
      refine W.widen (k := cl + 1) (n := sl + 2) (by omega) (by omega) ?_
      have hN : H.size = nx + 1 := by omega
      refine lv_dup hx hb d_Store_init_42 rfl ?_
      obtain ⟨u10, f10, h⟩ := fr_bind h
      obtain ⟨w10, e10, h⟩ := fr_bind h
      refine fr_callN (fr_IN (b := nx) (As := []) (rest := [.ref nx, .int y1, .ref q8]) ⟨hx, hb, hml, hown, hts⟩ (c_Row_init l D T A σ_9 nx (nx + 1) (fun q hq => hA q (by have h9 := hS.1; omega)) w10.1 w10.2 e10) (hX.2 ("FetchRules$Store", 25, y_Row_init, "FetchRules") (List.mem_of_getElem? (i := 0) rfl)) mi_Row_init rfl rfl ⟨Nat.le_of_ble_eq_true rfl, Nat.le_of_ble_eq_true rfl⟩ (fr_preN hK hX hH hN _) rfl hl.1 rfl (Nat.le_of_ble_eq_true rfl) d_Store_init_43 ⟨(oR_inv f10).1, (oR_inv f10).2⟩) hS (fun H locs hH hN hS => ?_)
      refine W.widen (k := cl + 2) (n := sl + 102) (by omega) (by omega) ?_
      obtain ⟨σ_11, e11, h⟩ := fr_bind h
      refine fr_qstN hx hb hK hH hN hS e11 (by decide) rfl rfl d_Store_init_46 (fun H locs hH hN hS => ?_)
      refine lv_iinc (v := (y1 + 1)) (lv' := [(1, .int (y1 + 1)), (0, .ref b0)]) hx hb d_Store_init_47 hl (k := 1) rfl rfl (by decide) rfl (fun ls hl => ?_)
      refine lv_goto (tgt := 28) hx hb d_Store_init_50 (by decide) ?_
      exact ih b0 (y1 + 1) σ_11 w10.2 (cl + 2) (sl + 102) σ1 nx1 h _ _ hH hN hS ls (lv_sub hl [1, 0] rfl)
set_option maxHeartbeats 4000000 in
set_option maxRecDepth 100000 in
theorem c_Store_init (l : Launch) (D : va_G) (T : Nat → ClassId) (A : Nat → Prop) (σ : fr_S) (h0 : Nat) (nx : Nat) (hA0 : ∀ q, nx ≤ q → A q) (σ1 : fr_S) (nx1 : Nat) (h : m_Store_init h0 σ nx = some (σ1, nx1)) : Met l y_Store_init (Cond.code y_Store_init b_Store_init 2 none :: fr_W) ({ frames := 2, cells := 22, slots := 1040, locals := 44 } : Room) (va_Pc [.ref h0] (fr_BN D T A nx σ)) (fr_QN D T A σ1 nx1) 22 1040 A := by
  refine Met.ofW (cc := b_Store_init) (maxL := 2) (ret := none) (by decide) rfl ?_
  intro p e s m args below meth c s₁ B hml hv
  obtain ⟨rfl, hN, hH, hK, hX⟩ := hv
  have hA : ∀ q, s.heap.size ≤ q → A q := fun q hq => hA0 q (by omega)
  have hin : meth.name = "<init>" := (name_of_methodNamed B.named B.method).1
  have C0 : fr_At p s m _ meth c "FetchRules$Store" b_Store_init 2 none := fr_at B hml
  obtain ⟨hx, hb, hr, hml, hown, hts, hlocks⟩ := id C0
  have hS : va_S A s.heap s.heap [] := va_S.rf
  have hl := lv_entry ([.ref h0]) (n := 2) (Nat.le_of_ble_eq_true rfl)
  rw [lg_entry_eq]
  generalize (lg_sl ([.ref h0]) ++ List.replicate (2 - (lg_sl ([.ref h0])).length) Slot.unset).toArray = ls at hl ⊢
  have hl : lv_has ls 2 [(0, .ref h0)] := hl
  unfold m_Store_init at h
  refine lv_aload_n hx hb d_Store_init_0 rfl (lv_at hl 0 rfl) ?_
  refine W.objInit hx hb hown (hts _ k_59) (hts _ k_48) (hts _ k_49) rfl (by rw [hml]; exact hl.1) rfl d_Store_init_1 (Nat.le_of_ble_eq_true rfl) (Nat.le_of_ble_eq_true rfl) ?_
  refine W.eq (g2 := F0 m 4 ls []) rfl ?_
  refine lv_aload_n hx hb d_Store_init_4 rfl (lv_at hl 0 rfl) ?_
  refine lv_bipush (v := 10) hx hb d_Store_init_5 (by decide) ?_
  obtain ⟨σ_1, e1, h⟩ := fr_bind h
  refine fr_newI0 e1 hx hb (hts _ k_80) hK hH hS hA hN (by decide) (by decide) (by decide) (Nat.le_of_ble_eq_true rfl) (Nat.le_of_ble_eq_true rfl) d_Store_init_7 (fun H hH hN hS => ?_)
  refine W.widen (k := 1) (n := 10) (Nat.le_of_ble_eq_true rfl) (Nat.le_of_ble_eq_true rfl) ?_
  have hN : H.size = nx + 1 := by omega
  obtain ⟨σ_2, e2, h⟩ := fr_bind h
  refine fr_putPFN (ty := (.array (.int))) hx hb hts in_Store ty_Store tk_Store nm_Store hown hK hH hN hS ⟨rfl, rfl⟩ e2 rfl 0 (by decide) (hts _ k_81) (fun _ h9 => h9) rfl hin rfl (by decide +kernel) (fs_5_0 _ _ _) (Nat.le_of_ble_eq_true rfl) d_Store_init_9 (fun H locs hH hN hS => ?_)
  refine lv_aload_n hx hb d_Store_init_12 rfl (lv_at hl 0 rfl) ?_
  refine lv_bipush (v := 10) hx hb d_Store_init_13 (by decide) ?_
  obtain ⟨σ_3, e3, h⟩ := fr_bind h
  refine fr_newQ0 e3 hx hb hown (hts _ k_60) (hX.1 _ (by decide)) (by decide) rfl hK hH hS hA hN (by decide) (by decide) (by decide) (Nat.le_of_ble_eq_true rfl) (Nat.le_of_ble_eq_true rfl) d_Store_init_15 (fun H hH hN hS => ?_)
  refine W.widen (k := 2) (n := 20) (Nat.le_of_ble_eq_true rfl) (Nat.le_of_ble_eq_true rfl) ?_
  have hN : H.size = nx + 2 := by omega
  obtain ⟨σ_4, e4, h⟩ := fr_bind h
  refine fr_putPFN (ty := (.array (.object "FetchRules$Row"))) hx hb hts in_Store ty_Store tk_Store nm_Store hown hK hH hN hS ⟨rfl, rfl⟩ e4 rfl 1 (by decide) (hts _ k_82) (fun _ h9 => h9) rfl hin rfl (by decide +kernel) (fs_5_1 _ _ _) (Nat.le_of_ble_eq_true rfl) d_Store_init_18 (fun H locs hH hN hS => ?_)
  refine lv_aload_n hx hb d_Store_init_21 rfl (lv_at hl 0 rfl) ?_
  refine lv_iconst (v := 0) hx hb d_Store_init_22 (by decide) ?_
  obtain ⟨σ_5, e5, h⟩ := fr_bind h
  refine fr_putIN hx hb hts in_Store ty_Store tk_Store nm_Store hown hK hH hN hS e5 rfl 2 (by decide) (hts _ k_84) (fun _ h9 => h9) rfl (by decide +kernel) (fs_5_2 _ _ _) (Nat.le_of_ble_eq_true rfl) d_Store_init_23 (fun H locs hH hN hS => ?_)
  refine lv_iconst (v := 0) hx hb d_Store_init_26 (by decide) ?_
  refine lv_istore_n (lv' := [(1, .int 0), (0, .ref h0)]) hx hb d_Store_init_27 rfl hl (by decide) rfl (fun ls hl => ?_)
  exact w_Store_init_L28 C0 hK hX hA 1000 h0 0 σ_5 (nx + 2) 2 20 σ1 nx1 h _ _ hH hN hS ls (lv_sub hl [1, 0] rfl)
set_option maxHeartbeats 4000000 in
set_option maxRecDepth 100000 in
theorem c_Tellings_init (l : Launch) (D : va_G) (T : Nat → ClassId) (A : Nat → Prop) (σ : fr_S) (h0 : Nat) (nx : Nat) (hA0 : ∀ q, nx ≤ q → A q) (σ1 : fr_S) (nx1 : Nat) (h : m_Tellings_init h0 σ nx = some (σ1, nx1)) : Met l y_Tellings_init (Cond.code y_Tellings_init b_Tellings_init 1 none :: fr_W) ({ frames := 1, cells := 3, slots := 180, locals := 24 } : Room) (va_Pc [.ref h0] (fr_BN D T A nx σ)) (fr_QN D T A σ1 nx1) 3 180 A := by
  refine Met.ofW (cc := b_Tellings_init) (maxL := 1) (ret := none) (by decide) rfl ?_
  intro p e s m args below meth c s₁ B hml hv
  obtain ⟨rfl, hN, hH, hK, hX⟩ := hv
  have hA : ∀ q, s.heap.size ≤ q → A q := fun q hq => hA0 q (by omega)
  have hin : meth.name = "<init>" := (name_of_methodNamed B.named B.method).1
  have C0 : fr_At p s m _ meth c "FetchRules$Tellings" b_Tellings_init 1 none := fr_at B hml
  obtain ⟨hx, hb, hr, hml, hown, hts, hlocks⟩ := id C0
  have hS : va_S A s.heap s.heap [] := va_S.rf
  have hl := lv_entry ([.ref h0]) (n := 1) (Nat.le_of_ble_eq_true rfl)
  rw [lg_entry_eq]
  generalize (lg_sl ([.ref h0]) ++ List.replicate (1 - (lg_sl ([.ref h0])).length) Slot.unset).toArray = ls at hl ⊢
  have hl : lv_has ls 1 [(0, .ref h0)] := hl
  unfold m_Tellings_init at h
  refine lv_aload_n hx hb d_Tellings_init_0 rfl (lv_at hl 0 rfl) ?_
  refine W.objInit hx hb hown (hts _ k_97) (hts _ k_48) (hts _ k_49) rfl (by rw [hml]; exact hl.1) rfl d_Tellings_init_1 (Nat.le_of_ble_eq_true rfl) (Nat.le_of_ble_eq_true rfl) ?_
  refine W.eq (g2 := F0 m 4 ls []) rfl ?_
  refine lv_aload_n hx hb d_Tellings_init_4 rfl (lv_at hl 0 rfl) ?_
  refine lv_bipush (v := 60) hx hb d_Tellings_init_5 (by decide) ?_
  obtain ⟨σ_1, e1, h⟩ := fr_bind h
  refine fr_newI0 e1 hx hb (hts _ k_80) hK hH hS hA hN (by decide) (by decide) (by decide) (Nat.le_of_ble_eq_true rfl) (Nat.le_of_ble_eq_true rfl) d_Tellings_init_7 (fun H hH hN hS => ?_)
  refine W.widen (k := 1) (n := 60) (Nat.le_of_ble_eq_true rfl) (Nat.le_of_ble_eq_true rfl) ?_
  have hN : H.size = nx + 1 := by omega
  obtain ⟨σ_2, e2, h⟩ := fr_bind h
  refine fr_putPFN (ty := (.array (.int))) hx hb hts in_Tellings ty_Tellings tk_Tellings nm_Tellings hown hK hH hN hS ⟨rfl, rfl⟩ e2 rfl 0 (by decide) (hts _ k_98) (fun _ h9 => h9) rfl hin rfl (by decide +kernel) (fs_6_0 _ _ _) (Nat.le_of_ble_eq_true rfl) d_Tellings_init_9 (fun H locs hH hN hS => ?_)
  refine lv_aload_n hx hb d_Tellings_init_12 rfl (lv_at hl 0 rfl) ?_
  refine lv_bipush (v := 60) hx hb d_Tellings_init_13 (by decide) ?_
  obtain ⟨σ_3, e3, h⟩ := fr_bind h
  refine fr_newI0 e3 hx hb (hts _ k_80) hK hH hS hA hN (by decide) (by decide) (by decide) (Nat.le_of_ble_eq_true rfl) (Nat.le_of_ble_eq_true rfl) d_Tellings_init_15 (fun H hH hN hS => ?_)
  refine W.widen (k := 2) (n := 120) (Nat.le_of_ble_eq_true rfl) (Nat.le_of_ble_eq_true rfl) ?_
  have hN : H.size = nx + 2 := by omega
  obtain ⟨σ_4, e4, h⟩ := fr_bind h
  refine fr_putPFN (ty := (.array (.int))) hx hb hts in_Tellings ty_Tellings tk_Tellings nm_Tellings hown hK hH hN hS ⟨rfl, rfl⟩ e4 rfl 1 (by decide) (hts _ k_100) (fun _ h9 => h9) rfl hin rfl (by decide +kernel) (fs_6_1 _ _ _) (Nat.le_of_ble_eq_true rfl) d_Tellings_init_17 (fun H locs hH hN hS => ?_)
  refine lv_aload_n hx hb d_Tellings_init_20 rfl (lv_at hl 0 rfl) ?_
  refine lv_bipush (v := 60) hx hb d_Tellings_init_21 (by decide) ?_
  obtain ⟨σ_5, e5, h⟩ := fr_bind h
  refine fr_newI0 e5 hx hb (hts _ k_80) hK hH hS hA hN (by decide) (by decide) (by decide) (Nat.le_of_ble_eq_true rfl) (Nat.le_of_ble_eq_true rfl) d_Tellings_init_23 (fun H hH hN hS => ?_)
  refine W.widen (k := 3) (n := 180) (Nat.le_of_ble_eq_true rfl) (Nat.le_of_ble_eq_true rfl) ?_
  have hN : H.size = nx + 3 := by omega
  obtain ⟨σ_6, e6, h⟩ := fr_bind h
  refine fr_putPFN (ty := (.array (.int))) hx hb hts in_Tellings ty_Tellings tk_Tellings nm_Tellings hown hK hH hN hS ⟨rfl, rfl⟩ e6 rfl 2 (by decide) (hts _ k_102) (fun _ h9 => h9) rfl hin rfl (by decide +kernel) (fs_6_2 _ _ _) (Nat.le_of_ble_eq_true rfl) d_Tellings_init_25 (fun H locs hH hN hS => ?_)
  refine lv_aload_n hx hb d_Tellings_init_28 rfl (lv_at hl 0 rfl) ?_
  refine lv_iconst (v := 0) hx hb d_Tellings_init_29 (by decide) ?_
  obtain ⟨σ_7, e7, h⟩ := fr_bind h
  refine fr_putIN hx hb hts in_Tellings ty_Tellings tk_Tellings nm_Tellings hown hK hH hN hS e7 rfl 3 (by decide) (hts _ k_104) (fun _ h9 => h9) rfl (by decide +kernel) (fs_6_3 _ _ _) (Nat.le_of_ble_eq_true rfl) d_Tellings_init_30 (fun H locs hH hN hS => ?_)
  exact fr_vretN hx hb hr hlocks h hH hN hK hX hS d_Tellings_init_33
set_option maxHeartbeats 4000000 in
set_option maxRecDepth 100000 in
theorem c_Files_init (l : Launch) (D : va_G) (T : Nat → ClassId) (A : Nat → Prop) (σ : fr_S) (h0 : Nat) (nx : Nat) (hA0 : ∀ q, nx ≤ q → A q) (σ1 : fr_S) (nx1 : Nat) (h : m_Files_init h0 σ nx = some (σ1, nx1)) : Met l y_Files_init (Cond.code y_Files_init b_Files_init 1 none :: fr_W) ({ frames := 1, cells := 4, slots := 132, locals := 24 } : Room) (va_Pc [.ref h0] (fr_BN D T A nx σ)) (fr_QN D T A σ1 nx1) 4 132 A := by
  refine Met.ofW (cc := b_Files_init) (maxL := 1) (ret := none) (by decide) rfl ?_
  intro p e s m args below meth c s₁ B hml hv
  obtain ⟨rfl, hN, hH, hK, hX⟩ := hv
  have hA : ∀ q, s.heap.size ≤ q → A q := fun q hq => hA0 q (by omega)
  have hin : meth.name = "<init>" := (name_of_methodNamed B.named B.method).1
  have C0 : fr_At p s m _ meth c "FetchRules$Files" b_Files_init 1 none := fr_at B hml
  obtain ⟨hx, hb, hr, hml, hown, hts, hlocks⟩ := id C0
  have hS : va_S A s.heap s.heap [] := va_S.rf
  have hl := lv_entry ([.ref h0]) (n := 1) (Nat.le_of_ble_eq_true rfl)
  rw [lg_entry_eq]
  generalize (lg_sl ([.ref h0]) ++ List.replicate (1 - (lg_sl ([.ref h0])).length) Slot.unset).toArray = ls at hl ⊢
  have hl : lv_has ls 1 [(0, .ref h0)] := hl
  unfold m_Files_init at h
  refine lv_aload_n hx hb d_Files_init_0 rfl (lv_at hl 0 rfl) ?_
  refine W.objInit hx hb hown (hts _ k_119) (hts _ k_48) (hts _ k_49) rfl (by rw [hml]; exact hl.1) rfl d_Files_init_1 (Nat.le_of_ble_eq_true rfl) (Nat.le_of_ble_eq_true rfl) ?_
  refine W.eq (g2 := F0 m 4 ls []) rfl ?_
  refine lv_aload_n hx hb d_Files_init_4 rfl (lv_at hl 0 rfl) ?_
  refine lv_bipush (v := 33) hx hb d_Files_init_5 (by decide) ?_
  obtain ⟨σ_1, e1, h⟩ := fr_bind h
  refine fr_newI0 e1 hx hb (hts _ k_80) hK hH hS hA hN (by decide) (by decide) (by decide) (Nat.le_of_ble_eq_true rfl) (Nat.le_of_ble_eq_true rfl) d_Files_init_7 (fun H hH hN hS => ?_)
  refine W.widen (k := 1) (n := 33) (Nat.le_of_ble_eq_true rfl) (Nat.le_of_ble_eq_true rfl) ?_
  have hN : H.size = nx + 1 := by omega
  obtain ⟨σ_2, e2, h⟩ := fr_bind h
  refine fr_putPFN (ty := (.array (.int))) hx hb hts in_Files ty_Files tk_Files nm_Files hown hK hH hN hS ⟨rfl, rfl⟩ e2 rfl 0 (by decide) (hts _ k_120) (fun _ h9 => h9) rfl hin rfl (by decide +kernel) (fs_2_0 _ _ _) (Nat.le_of_ble_eq_true rfl) d_Files_init_9 (fun H locs hH hN hS => ?_)
  refine lv_aload_n hx hb d_Files_init_12 rfl (lv_at hl 0 rfl) ?_
  refine lv_bipush (v := 33) hx hb d_Files_init_13 (by decide) ?_
  obtain ⟨σ_3, e3, h⟩ := fr_bind h
  refine fr_newI0 e3 hx hb (hts _ k_80) hK hH hS hA hN (by decide) (by decide) (by decide) (Nat.le_of_ble_eq_true rfl) (Nat.le_of_ble_eq_true rfl) d_Files_init_15 (fun H hH hN hS => ?_)
  refine W.widen (k := 2) (n := 66) (Nat.le_of_ble_eq_true rfl) (Nat.le_of_ble_eq_true rfl) ?_
  have hN : H.size = nx + 2 := by omega
  obtain ⟨σ_4, e4, h⟩ := fr_bind h
  refine fr_putPFN (ty := (.array (.int))) hx hb hts in_Files ty_Files tk_Files nm_Files hown hK hH hN hS ⟨rfl, rfl⟩ e4 rfl 1 (by decide) (hts _ k_122) (fun _ h9 => h9) rfl hin rfl (by decide +kernel) (fs_2_1 _ _ _) (Nat.le_of_ble_eq_true rfl) d_Files_init_17 (fun H locs hH hN hS => ?_)
  refine lv_aload_n hx hb d_Files_init_20 rfl (lv_at hl 0 rfl) ?_
  refine lv_bipush (v := 33) hx hb d_Files_init_21 (by decide) ?_
  obtain ⟨σ_5, e5, h⟩ := fr_bind h
  refine fr_newI0 e5 hx hb (hts _ k_80) hK hH hS hA hN (by decide) (by decide) (by decide) (Nat.le_of_ble_eq_true rfl) (Nat.le_of_ble_eq_true rfl) d_Files_init_23 (fun H hH hN hS => ?_)
  refine W.widen (k := 3) (n := 99) (Nat.le_of_ble_eq_true rfl) (Nat.le_of_ble_eq_true rfl) ?_
  have hN : H.size = nx + 3 := by omega
  obtain ⟨σ_6, e6, h⟩ := fr_bind h
  refine fr_putPFN (ty := (.array (.int))) hx hb hts in_Files ty_Files tk_Files nm_Files hown hK hH hN hS ⟨rfl, rfl⟩ e6 rfl 2 (by decide) (hts _ k_124) (fun _ h9 => h9) rfl hin rfl (by decide +kernel) (fs_2_2 _ _ _) (Nat.le_of_ble_eq_true rfl) d_Files_init_25 (fun H locs hH hN hS => ?_)
  refine lv_aload_n hx hb d_Files_init_28 rfl (lv_at hl 0 rfl) ?_
  refine lv_bipush (v := 33) hx hb d_Files_init_29 (by decide) ?_
  obtain ⟨σ_7, e7, h⟩ := fr_bind h
  refine fr_newI0 e7 hx hb (hts _ k_80) hK hH hS hA hN (by decide) (by decide) (by decide) (Nat.le_of_ble_eq_true rfl) (Nat.le_of_ble_eq_true rfl) d_Files_init_31 (fun H hH hN hS => ?_)
  refine W.widen (k := 4) (n := 132) (Nat.le_of_ble_eq_true rfl) (Nat.le_of_ble_eq_true rfl) ?_
  have hN : H.size = nx + 4 := by omega
  obtain ⟨σ_8, e8, h⟩ := fr_bind h
  refine fr_putPFN (ty := (.array (.int))) hx hb hts in_Files ty_Files tk_Files nm_Files hown hK hH hN hS ⟨rfl, rfl⟩ e8 rfl 3 (by decide) (hts _ k_126) (fun _ h9 => h9) rfl hin rfl (by decide +kernel) (fs_2_3 _ _ _) (Nat.le_of_ble_eq_true rfl) d_Files_init_33 (fun H locs hH hN hS => ?_)
  refine lv_aload_n hx hb d_Files_init_36 rfl (lv_at hl 0 rfl) ?_
  refine lv_iconst (v := 0) hx hb d_Files_init_37 (by decide) ?_
  obtain ⟨σ_9, e9, h⟩ := fr_bind h
  refine fr_putIN hx hb hts in_Files ty_Files tk_Files nm_Files hown hK hH hN hS e9 rfl 4 (by decide) (hts _ k_128) (fun _ h9 => h9) rfl (by decide +kernel) (fs_2_4 _ _ _) (Nat.le_of_ble_eq_true rfl) d_Files_init_38 (fun H locs hH hN hS => ?_)
  exact fr_vretN hx hb hr hlocks h hH hN hK hX hS d_Files_init_41
set_option maxHeartbeats 4000000 in
set_option maxRecDepth 100000 in
theorem c_Place_init (l : Launch) (D : va_G) (T : Nat → ClassId) (A : Nat → Prop) (σ : fr_S) (h0 : Nat) (nx : Nat) (hA0 : ∀ q, nx ≤ q → A q) (σ1 : fr_S) (nx1 : Nat) (h : m_Place_init h0 σ nx = some (σ1, nx1)) : Met l y_Place_init (Cond.code y_Place_init b_Place_init 1 none :: fr_W) ({ frames := 2, cells := 2, slots := 102, locals := 44 } : Room) (va_Pc [.ref h0] (fr_BN D T A nx σ)) (fr_QN D T A σ1 nx1) 2 102 A := by
  refine Met.ofW (cc := b_Place_init) (maxL := 1) (ret := none) (by decide) rfl ?_
  intro p e s m args below meth c s₁ B hml hv
  obtain ⟨rfl, hN, hH, hK, hX⟩ := hv
  have hA : ∀ q, s.heap.size ≤ q → A q := fun q hq => hA0 q (by omega)
  have hin : meth.name = "<init>" := (name_of_methodNamed B.named B.method).1
  have C0 : fr_At p s m _ meth c "FetchRules$Place" b_Place_init 1 none := fr_at B hml
  obtain ⟨hx, hb, hr, hml, hown, hts, hlocks⟩ := id C0
  have hS : va_S A s.heap s.heap [] := va_S.rf
  have hl := lv_entry ([.ref h0]) (n := 1) (Nat.le_of_ble_eq_true rfl)
  rw [lg_entry_eq]
  generalize (lg_sl ([.ref h0]) ++ List.replicate (1 - (lg_sl ([.ref h0])).length) Slot.unset).toArray = ls at hl ⊢
  have hl : lv_has ls 1 [(0, .ref h0)] := hl
  unfold m_Place_init at h
  refine lv_aload_n hx hb d_Place_init_0 rfl (lv_at hl 0 rfl) ?_
  refine W.objInit hx hb hown (hts _ k_151) (hts _ k_48) (hts _ k_49) rfl (by rw [hml]; exact hl.1) rfl d_Place_init_1 (Nat.le_of_ble_eq_true rfl) (Nat.le_of_ble_eq_true rfl) ?_
  refine W.eq (g2 := F0 m 4 ls []) rfl ?_
  refine lv_aload_n hx hb d_Place_init_4 rfl (lv_at hl 0 rfl) ?_
  obtain ⟨σ_1, e1, h⟩ := fr_bind h
  refine fr_newO e1 hx hb hts in_Row ty_Row tk_Row hown (hts _ k_152) (hts _ k_62) (hts _ k_33) hK hH hS hA hN rfl (df_Row _ _) (Nat.le_of_ble_eq_true rfl) (Nat.le_of_ble_eq_true rfl) d_Place_init_5 (fun H hH hN hS => ?_)
  refine W.widen (k := 1) (n := 2) (Nat.le_of_ble_eq_true rfl) (Nat.le_of_ble_eq_true rfl) ?_
  have hN : H.size = nx + 1 := by omega
  refine lv_dup hx hb d_Place_init_8 rfl ?_
  obtain ⟨w2, e2, h⟩ := fr_bind h
  refine fr_callN (fr_IN (b := nx) (As := []) (rest := [.ref nx, .ref h0]) ⟨hx, hb, hml, hown, hts⟩ (c_Row_init l D T A σ_1 nx (nx + 1) (fun q hq => hA q (by have h9 := hS.1; omega)) w2.1 w2.2 e2) (hX.2 ("FetchRules$Place", 11, y_Row_init, "FetchRules") (List.mem_of_getElem? (i := 4) rfl)) mi_Row_init rfl rfl ⟨Nat.le_of_ble_eq_true rfl, Nat.le_of_ble_eq_true rfl⟩ (fr_preN hK hX hH hN _) rfl hl.1 rfl (Nat.le_of_ble_eq_true rfl) d_Place_init_9 ⟨Nat.le_of_ble_eq_true rfl, Nat.le_of_ble_eq_true rfl⟩) hS (fun H locs hH hN hS => ?_)
  refine W.widen (k := 2) (n := 102) (Nat.le_of_ble_eq_true rfl) (Nat.le_of_ble_eq_true rfl) ?_
  obtain ⟨σ_3, e3, h⟩ := fr_bind h
  refine fr_putPFN (ty := (.object "FetchRules$Row")) hx hb hts in_Place ty_Place tk_Place nm_Place hown hK hH hN hS ⟨rfl, rfl⟩ e3 rfl 0 (by decide) (hts _ k_154) (fun _ h9 => h9) rfl hin rfl (by decide +kernel) (fs_3_0 _ _ _) (Nat.le_of_ble_eq_true rfl) d_Place_init_12 (fun H locs hH hN hS => ?_)
  refine lv_aload_n hx hb d_Place_init_15 rfl (lv_at hl 0 rfl) ?_
  refine lv_iconst (v := 0) hx hb d_Place_init_16 (by decide) ?_
  obtain ⟨σ_4, e4, h⟩ := fr_bind h
  refine fr_putIN hx hb hts in_Place ty_Place tk_Place nm_Place hown hK hH hN hS e4 rfl 1 (by decide) (hts _ k_156) (fun _ h9 => h9) rfl (by decide +kernel) (fs_3_1 _ _ _) (Nat.le_of_ble_eq_true rfl) d_Place_init_17 (fun H locs hH hN hS => ?_)
  refine lv_aload_n hx hb d_Place_init_20 rfl (lv_at hl 0 rfl) ?_
  refine lv_iconst (v := 1) hx hb d_Place_init_21 (by decide) ?_
  obtain ⟨σ_5, e5, h⟩ := fr_bind h
  refine fr_putIN hx hb hts in_Place ty_Place tk_Place nm_Place hown hK hH hN hS e5 rfl 2 (by decide) (hts _ k_158) (fun _ h9 => h9) rfl (by decide +kernel) (fs_3_2 _ _ _) (Nat.le_of_ble_eq_true rfl) d_Place_init_22 (fun H locs hH hN hS => ?_)
  refine lv_aload_n hx hb d_Place_init_25 rfl (lv_at hl 0 rfl) ?_
  refine lv_iconst (v := (-1)) hx hb d_Place_init_26 (by decide) ?_
  obtain ⟨σ_6, e6, h⟩ := fr_bind h
  refine fr_putIN hx hb hts in_Place ty_Place tk_Place nm_Place hown hK hH hN hS e6 rfl 3 (by decide) (hts _ k_160) (fun _ h9 => h9) rfl (by decide +kernel) (fs_3_3 _ _ _) (Nat.le_of_ble_eq_true rfl) d_Place_init_27 (fun H locs hH hN hS => ?_)
  refine lv_aload_n hx hb d_Place_init_30 rfl (lv_at hl 0 rfl) ?_
  refine lv_iconst (v := 0) hx hb d_Place_init_31 (by decide) ?_
  obtain ⟨σ_7, e7, h⟩ := fr_bind h
  refine fr_putIN hx hb hts in_Place ty_Place tk_Place nm_Place hown hK hH hN hS e7 rfl 4 (by decide) (hts _ k_162) (fun _ h9 => h9) rfl (by decide +kernel) (fs_3_4 _ _ _) (Nat.le_of_ble_eq_true rfl) d_Place_init_32 (fun H locs hH hN hS => ?_)
  refine lv_aload_n hx hb d_Place_init_35 rfl (lv_at hl 0 rfl) ?_
  refine lv_iconst (v := 0) hx hb d_Place_init_36 (by decide) ?_
  obtain ⟨σ_8, e8, h⟩ := fr_bind h
  refine fr_putIN hx hb hts in_Place ty_Place tk_Place nm_Place hown hK hH hN hS e8 rfl 5 (by decide) (hts _ k_164) (fun _ h9 => h9) rfl (by decide +kernel) (fs_3_5 _ _ _) (Nat.le_of_ble_eq_true rfl) d_Place_init_37 (fun H locs hH hN hS => ?_)
  refine lv_aload_n hx hb d_Place_init_40 rfl (lv_at hl 0 rfl) ?_
  refine lv_iconst (v := 0) hx hb d_Place_init_41 (by decide) ?_
  obtain ⟨σ_9, e9, h⟩ := fr_bind h
  refine fr_putZN hx hb hts in_Place ty_Place tk_Place nm_Place hown hK hH hN hS e9 rfl 6 (by decide) (hts _ k_166) (fun _ h9 => h9) rfl (by decide +kernel) (fs_3_6 _ _ _) (Nat.le_of_ble_eq_true rfl) d_Place_init_42 (fun H locs hH hN hS => ?_)
  refine lv_aload_n hx hb d_Place_init_45 rfl (lv_at hl 0 rfl) ?_
  refine lv_iconst (v := 0) hx hb d_Place_init_46 (by decide) ?_
  obtain ⟨σ_10, e10, h⟩ := fr_bind h
  refine fr_putZN hx hb hts in_Place ty_Place tk_Place nm_Place hown hK hH hN hS e10 rfl 7 (by decide) (hts _ k_168) (fun _ h9 => h9) rfl (by decide +kernel) (fs_3_7 _ _ _) (Nat.le_of_ble_eq_true rfl) d_Place_init_47 (fun H locs hH hN hS => ?_)
  refine lv_aload_n hx hb d_Place_init_50 rfl (lv_at hl 0 rfl) ?_
  refine lv_iconst (v := 0) hx hb d_Place_init_51 (by decide) ?_
  obtain ⟨σ_11, e11, h⟩ := fr_bind h
  refine fr_putZN hx hb hts in_Place ty_Place tk_Place nm_Place hown hK hH hN hS e11 rfl 8 (by decide) (hts _ k_170) (fun _ h9 => h9) rfl (by decide +kernel) (fs_3_8 _ _ _) (Nat.le_of_ble_eq_true rfl) d_Place_init_52 (fun H locs hH hN hS => ?_)
  refine lv_aload_n hx hb d_Place_init_55 rfl (lv_at hl 0 rfl) ?_
  refine lv_iconst (v := 0) hx hb d_Place_init_56 (by decide) ?_
  obtain ⟨σ_12, e12, h⟩ := fr_bind h
  refine fr_putZN hx hb hts in_Place ty_Place tk_Place nm_Place hown hK hH hN hS e12 rfl 9 (by decide) (hts _ k_172) (fun _ h9 => h9) rfl (by decide +kernel) (fs_3_9 _ _ _) (Nat.le_of_ble_eq_true rfl) d_Place_init_57 (fun H locs hH hN hS => ?_)
  exact fr_vretN hx hb hr hlocks h hH hN hK hX hS d_Place_init_60
set_option maxHeartbeats 4000000 in
set_option maxRecDepth 100000 in
theorem c_Want_init (l : Launch) (D : va_G) (T : Nat → ClassId) (A : Nat → Prop) (σ : fr_S) (h0 : Nat) (nx : Nat) (hA0 : ∀ q, nx ≤ q → A q) (σ1 : fr_S) (nx1 : Nat) (h : m_Want_init h0 σ nx = some (σ1, nx1)) : Met l y_Want_init (Cond.code y_Want_init b_Want_init 1 none :: fr_W) ({ frames := 2, cells := 3, slots := 108, locals := 44 } : Room) (va_Pc [.ref h0] (fr_BN D T A nx σ)) (fr_QN D T A σ1 nx1) 3 108 A := by
  refine Met.ofW (cc := b_Want_init) (maxL := 1) (ret := none) (by decide) rfl ?_
  intro p e s m args below meth c s₁ B hml hv
  obtain ⟨rfl, hN, hH, hK, hX⟩ := hv
  have hA : ∀ q, s.heap.size ≤ q → A q := fun q hq => hA0 q (by omega)
  have hin : meth.name = "<init>" := (name_of_methodNamed B.named B.method).1
  have C0 : fr_At p s m _ meth c "FetchRules$Want" b_Want_init 1 none := fr_at B hml
  obtain ⟨hx, hb, hr, hml, hown, hts, hlocks⟩ := id C0
  have hS : va_S A s.heap s.heap [] := va_S.rf
  have hl := lv_entry ([.ref h0]) (n := 1) (Nat.le_of_ble_eq_true rfl)
  rw [lg_entry_eq]
  generalize (lg_sl ([.ref h0]) ++ List.replicate (1 - (lg_sl ([.ref h0])).length) Slot.unset).toArray = ls at hl ⊢
  have hl : lv_has ls 1 [(0, .ref h0)] := hl
  unfold m_Want_init at h
  refine lv_aload_n hx hb d_Want_init_0 rfl (lv_at hl 0 rfl) ?_
  refine W.objInit hx hb hown (hts _ k_199) (hts _ k_48) (hts _ k_49) rfl (by rw [hml]; exact hl.1) rfl d_Want_init_1 (Nat.le_of_ble_eq_true rfl) (Nat.le_of_ble_eq_true rfl) ?_
  refine W.eq (g2 := F0 m 4 ls []) rfl ?_
  refine lv_aload_n hx hb d_Want_init_4 rfl (lv_at hl 0 rfl) ?_
  obtain ⟨σ_1, e1, h⟩ := fr_bind h
  refine fr_newO e1 hx hb hts in_Row ty_Row tk_Row hown (hts _ k_200) (hts _ k_62) (hts _ k_33) hK hH hS hA hN rfl (df_Row _ _) (Nat.le_of_ble_eq_true rfl) (Nat.le_of_ble_eq_true rfl) d_Want_init_5 (fun H hH hN hS => ?_)
  refine W.widen (k := 1) (n := 2) (Nat.le_of_ble_eq_true rfl) (Nat.le_of_ble_eq_true rfl) ?_
  have hN : H.size = nx + 1 := by omega
  refine lv_dup hx hb d_Want_init_8 rfl ?_
  obtain ⟨w2, e2, h⟩ := fr_bind h
  refine fr_callN (fr_IN (b := nx) (As := []) (rest := [.ref nx, .ref h0]) ⟨hx, hb, hml, hown, hts⟩ (c_Row_init l D T A σ_1 nx (nx + 1) (fun q hq => hA q (by have h9 := hS.1; omega)) w2.1 w2.2 e2) (hX.2 ("FetchRules$Want", 11, y_Row_init, "FetchRules") (List.mem_of_getElem? (i := 6) rfl)) mi_Row_init rfl rfl ⟨Nat.le_of_ble_eq_true rfl, Nat.le_of_ble_eq_true rfl⟩ (fr_preN hK hX hH hN _) rfl hl.1 rfl (Nat.le_of_ble_eq_true rfl) d_Want_init_9 ⟨Nat.le_of_ble_eq_true rfl, Nat.le_of_ble_eq_true rfl⟩) hS (fun H locs hH hN hS => ?_)
  refine W.widen (k := 2) (n := 102) (Nat.le_of_ble_eq_true rfl) (Nat.le_of_ble_eq_true rfl) ?_
  obtain ⟨σ_3, e3, h⟩ := fr_bind h
  refine fr_putPFN (ty := (.object "FetchRules$Row")) hx hb hts in_Want ty_Want tk_Want nm_Want hown hK hH hN hS ⟨rfl, rfl⟩ e3 rfl 0 (by decide) (hts _ k_202) (fun _ h9 => h9) rfl hin rfl (by decide +kernel) (fs_7_0 _ _ _) (Nat.le_of_ble_eq_true rfl) d_Want_init_12 (fun H locs hH hN hS => ?_)
  refine lv_aload_n hx hb d_Want_init_15 rfl (lv_at hl 0 rfl) ?_
  refine lv_bipush (v := 6) hx hb d_Want_init_16 (by decide) ?_
  obtain ⟨σ_4, e4, h⟩ := fr_bind h
  refine fr_newI0 e4 hx hb (hts _ k_80) hK hH hS hA hN (by decide) (by decide) (by decide) (Nat.le_of_ble_eq_true rfl) (Nat.le_of_ble_eq_true rfl) d_Want_init_18 (fun H hH hN hS => ?_)
  refine W.widen (k := 3) (n := 108) (Nat.le_of_ble_eq_true rfl) (Nat.le_of_ble_eq_true rfl) ?_
  have hN : H.size = w2.2 + 1 := by omega
  obtain ⟨σ_5, e5, h⟩ := fr_bind h
  refine fr_putPFN (ty := (.array (.int))) hx hb hts in_Want ty_Want tk_Want nm_Want hown hK hH hN hS ⟨rfl, rfl⟩ e5 rfl 1 (by decide) (hts _ k_204) (fun _ h9 => h9) rfl hin rfl (by decide +kernel) (fs_7_1 _ _ _) (Nat.le_of_ble_eq_true rfl) d_Want_init_20 (fun H locs hH hN hS => ?_)
  refine lv_aload_n hx hb d_Want_init_23 rfl (lv_at hl 0 rfl) ?_
  refine lv_iconst (v := 0) hx hb d_Want_init_24 (by decide) ?_
  obtain ⟨σ_6, e6, h⟩ := fr_bind h
  refine fr_putIN hx hb hts in_Want ty_Want tk_Want nm_Want hown hK hH hN hS e6 rfl 2 (by decide) (hts _ k_206) (fun _ h9 => h9) rfl (by decide +kernel) (fs_7_2 _ _ _) (Nat.le_of_ble_eq_true rfl) d_Want_init_25 (fun H locs hH hN hS => ?_)
  refine lv_aload_n hx hb d_Want_init_28 rfl (lv_at hl 0 rfl) ?_
  refine lv_iconst (v := 0) hx hb d_Want_init_29 (by decide) ?_
  obtain ⟨σ_7, e7, h⟩ := fr_bind h
  refine fr_putIN hx hb hts in_Want ty_Want tk_Want nm_Want hown hK hH hN hS e7 rfl 3 (by decide) (hts _ k_208) (fun _ h9 => h9) rfl (by decide +kernel) (fs_7_3 _ _ _) (Nat.le_of_ble_eq_true rfl) d_Want_init_30 (fun H locs hH hN hS => ?_)
  refine lv_aload_n hx hb d_Want_init_33 rfl (lv_at hl 0 rfl) ?_
  refine lv_iconst (v := 0) hx hb d_Want_init_34 (by decide) ?_
  obtain ⟨σ_8, e8, h⟩ := fr_bind h
  refine fr_putIN hx hb hts in_Want ty_Want tk_Want nm_Want hown hK hH hN hS e8 rfl 4 (by decide) (hts _ k_210) (fun _ h9 => h9) rfl (by decide +kernel) (fs_7_4 _ _ _) (Nat.le_of_ble_eq_true rfl) d_Want_init_35 (fun H locs hH hN hS => ?_)
  refine lv_aload_n hx hb d_Want_init_38 rfl (lv_at hl 0 rfl) ?_
  refine lv_iconst (v := 0) hx hb d_Want_init_39 (by decide) ?_
  obtain ⟨σ_9, e9, h⟩ := fr_bind h
  refine fr_putIN hx hb hts in_Want ty_Want tk_Want nm_Want hown hK hH hN hS e9 rfl 5 (by decide) (hts _ k_212) (fun _ h9 => h9) rfl (by decide +kernel) (fs_7_5 _ _ _) (Nat.le_of_ble_eq_true rfl) d_Want_init_40 (fun H locs hH hN hS => ?_)
  refine lv_aload_n hx hb d_Want_init_43 rfl (lv_at hl 0 rfl) ?_
  refine lv_iconst (v := 0) hx hb d_Want_init_44 (by decide) ?_
  obtain ⟨σ_10, e10, h⟩ := fr_bind h
  refine fr_putIN hx hb hts in_Want ty_Want tk_Want nm_Want hown hK hH hN hS e10 rfl 6 (by decide) (hts _ k_214) (fun _ h9 => h9) rfl (by decide +kernel) (fs_7_6 _ _ _) (Nat.le_of_ble_eq_true rfl) d_Want_init_45 (fun H locs hH hN hS => ?_)
  refine lv_aload_n hx hb d_Want_init_48 rfl (lv_at hl 0 rfl) ?_
  refine lv_iconst (v := 0) hx hb d_Want_init_49 (by decide) ?_
  obtain ⟨σ_11, e11, h⟩ := fr_bind h
  refine fr_putIN hx hb hts in_Want ty_Want tk_Want nm_Want hown hK hH hN hS e11 rfl 7 (by decide) (hts _ k_216) (fun _ h9 => h9) rfl (by decide +kernel) (fs_7_7 _ _ _) (Nat.le_of_ble_eq_true rfl) d_Want_init_50 (fun H locs hH hN hS => ?_)
  refine lv_aload_n hx hb d_Want_init_53 rfl (lv_at hl 0 rfl) ?_
  refine lv_iconst (v := 0) hx hb d_Want_init_54 (by decide) ?_
  obtain ⟨σ_12, e12, h⟩ := fr_bind h
  refine fr_putIN hx hb hts in_Want ty_Want tk_Want nm_Want hown hK hH hN hS e12 rfl 8 (by decide) (hts _ k_218) (fun _ h9 => h9) rfl (by decide +kernel) (fs_7_8 _ _ _) (Nat.le_of_ble_eq_true rfl) d_Want_init_55 (fun H locs hH hN hS => ?_)
  exact fr_vretN hx hb hr hlocks h hH hN hK hX hS d_Want_init_58
set_option maxHeartbeats 4000000 in
set_option maxRecDepth 100000 in
theorem w_FR_init_L146 {p : Program} {l : Launch} {e : Env} {s : State} {m : MethodId} {args : Array Value} {below : List Frame} {meth : Method} {c : Code} {D : va_G} {T : Nat → ClassId} {A : Nat → Prop} (C0 : fr_At p s m args meth c "FetchRules" b_FR_init 3 none) (hK : va_K D vwCl (fr_tys T) s) (hX : fr_X s) (hA : ∀ q, s.heap.size ≤ q → A q) :
    ∀ (n : Nat) (b0 : Nat) (y2 : Int32) (σ : fr_S) (nx cl sl : Nat) (σ1 : fr_S) (nx1 : Nat), m_FR_init_L146 n b0 y2 σ nx cl sl = some (σ1, nx1) → ∀ (H : Heap) (locs : List Loc), fr_H D T A σ H → H.size = nx → va_S A s.heap H locs → ∀ (ls : Array Slot), lv_has ls 3 [(0, .ref b0), (2, .int y2)] → W p l e (headSpec (Cond.code y_FR_init b_FR_init 3 none :: fr_W) ({ frames := 3, cells := 125, slots := 4378, locals := 65 } : Room)).room s m args below meth c H locs cl sl (MQ below (fr_QN D T A σ1 nx1) args s 125 4378 A) (F0 m 146 ls []) := by
  obtain ⟨hx, hb, hr, hml, hown, hts, hlocks⟩ := id C0
  intro n
  induction n with
  | zero => intro b0 y2 σ nx cl sl σ1 nx1 h; cases h
  | succ n ih =>
    intro b0 y2 σ nx cl sl σ1 nx1 h H locs hH hN hS ls hl
    unfold m_FR_init_L146 at h
    refine lv_iload_n hx hb d_FR_init_146 rfl (lv_at hl 1 rfl) ?_
    refine lv_bipush (v := 10) hx hb d_FR_init_147 (by decide) ?_
    refine lv_icmp_ge (tgt := 171) hx hb d_FR_init_149 (by decide) (fun c31 => ?_) (fun c31 => ?_)
    · replace h := fr_ift c31 h
      obtain ⟨u32, e32, h⟩ := fr_bind h
      refine W.widen (k := 125) (n := 4378) (oR_inv e32).1 (oR_inv e32).2 ?_
      exact fr_vretN hx hb hr hlocks h hH hN hK hX hS d_FR_init_171
    · replace h := fr_iff c31 h
      refine lv_aload_n hx hb d_FR_init_152 rfl (lv_at hl 0 rfl) ?_
      obtain ⟨q33, e33, h⟩ := fr_bind h
      refine fr_gP hx hb hts in_FR hown hK hH e33 rfl 5 (by decide) (hts _ k_244) (fun _ h9 => h9) rfl d_FR_init_153 ?_
      refine lv_iload_n hx hb d_FR_init_156 rfl (lv_at hl 1 rfl) ?_
      obtain ⟨u34, f34, h⟩ := fr_bind h
      obtain ⟨σ_34, e34, h⟩ := fr_bind h
      refine fr_newO e34 hx hb hts in_Want ty_Want tk_Want hown (hts _ k_52) (hts _ k_195) (hts _ k_38) hK hH hS hA hN rfl (df_Want _ _) (oR_inv f34).1 (oR_inv f34).2 d_FR_init_157 (fun H hH hN hS => ?_)
      refine W.widen (k := cl + 1) (n := sl + 9) (by omega) (by omega) ?_
      have hN : H.size = nx + 1 := by omega
      refine lv_dup hx hb d_FR_init_160 rfl ?_
      obtain ⟨u35, f35, h⟩ := fr_bind h
      obtain ⟨w35, e35, h⟩ := fr_bind h
      refine fr_callN (fr_IN (b := nx) (As := []) (rest := [.ref nx, .int y2, .ref q33]) ⟨hx, hb, hml, hown, hts⟩ (c_Want_init l D T A σ_34 nx (nx + 1) (fun q hq => hA q (by have h9 := hS.1; omega)) w35.1 w35.2 e35) (hX.2 ("FetchRules", 83, y_Want_init, "FetchRules") (List.mem_of_getElem? (i := 5) rfl)) mi_Want_init rfl rfl ⟨Nat.le_of_ble_eq_true rfl, Nat.le_of_ble_eq_true rfl⟩ (fr_preN hK hX hH hN _) rfl hl.1 rfl (Nat.le_of_ble_eq_true rfl) d_FR_init_161 ⟨(oR_inv f35).1, (oR_inv f35).2⟩) hS (fun H locs hH hN hS => ?_)
      refine W.widen (k := cl + 4) (n := sl + 117) (by omega) (by omega) ?_
      obtain ⟨σ_36, e36, h⟩ := fr_bind h
      refine fr_qstN hx hb hK hH hN hS e36 (by decide) rfl rfl d_FR_init_164 (fun H locs hH hN hS => ?_)
      refine lv_iinc (v := (y2 + 1)) (lv' := [(2, .int (y2 + 1)), (0, .ref b0)]) hx hb d_FR_init_165 hl (k := 1) rfl rfl (by decide) rfl (fun ls hl => ?_)
      refine lv_goto (tgt := 146) hx hb d_FR_init_168 (by decide) ?_
      exact ih b0 (y2 + 1) σ_36 w35.2 (cl + 4) (sl + 117) σ1 nx1 h _ _ hH hN hS ls (lv_sub hl [1, 0] rfl)
set_option maxHeartbeats 4000000 in
set_option maxRecDepth 100000 in
theorem w_FR_init_L119 {p : Program} {l : Launch} {e : Env} {s : State} {m : MethodId} {args : Array Value} {below : List Frame} {meth : Method} {c : Code} {D : va_G} {T : Nat → ClassId} {A : Nat → Prop} (C0 : fr_At p s m args meth c "FetchRules" b_FR_init 3 none) (hK : va_K D vwCl (fr_tys T) s) (hX : fr_X s) (hA : ∀ q, s.heap.size ≤ q → A q) :
    ∀ (n : Nat) (b0 : Nat) (y2 : Int32) (σ : fr_S) (nx cl sl : Nat) (σ1 : fr_S) (nx1 : Nat), m_FR_init_L119 n b0 y2 σ nx cl sl = some (σ1, nx1) → ∀ (H : Heap) (locs : List Loc), fr_H D T A σ H → H.size = nx → va_S A s.heap H locs → ∀ (ls : Array Slot), lv_has ls 3 [(0, .ref b0), (2, .int y2)] → W p l e (headSpec (Cond.code y_FR_init b_FR_init 3 none :: fr_W) ({ frames := 3, cells := 125, slots := 4378, locals := 65 } : Room)).room s m args below meth c H locs cl sl (MQ below (fr_QN D T A σ1 nx1) args s 125 4378 A) (F0 m 119 ls []) := by
  obtain ⟨hx, hb, hr, hml, hown, hts, hlocks⟩ := id C0
  intro n
  induction n with
  | zero => intro b0 y2 σ nx cl sl σ1 nx1 h; cases h
  | succ n ih =>
    intro b0 y2 σ nx cl sl σ1 nx1 h H locs hH hN hS ls hl
    unfold m_FR_init_L119 at h
    refine lv_iload_n hx hb d_FR_init_119 rfl (lv_at hl 1 rfl) ?_
    refine lv_bipush (v := 16) hx hb d_FR_init_120 (by decide) ?_
    refine lv_icmp_ge (tgt := 144) hx hb d_FR_init_122 (by decide) (fun c26 => ?_) (fun c26 => ?_)
    · replace h := fr_ift c26 h
      refine lv_iconst (v := 0) hx hb d_FR_init_144 (by decide) ?_
      refine lv_istore_n (lv' := [(2, .int 0), (0, .ref b0)]) hx hb d_FR_init_145 rfl hl (by decide) rfl (fun ls hl => ?_)
      exact w_FR_init_L146 C0 hK hX hA 1000 b0 0 σ nx cl sl σ1 nx1 h _ _ hH hN hS ls (lv_sub hl [1, 0] rfl)
    · replace h := fr_iff c26 h
      refine lv_aload_n hx hb d_FR_init_125 rfl (lv_at hl 0 rfl) ?_
      obtain ⟨q27, e27, h⟩ := fr_bind h
      refine fr_gP hx hb hts in_FR hown hK hH e27 rfl 3 (by decide) (hts _ k_242) (fun _ h9 => h9) rfl d_FR_init_126 ?_
      refine lv_iload_n hx hb d_FR_init_129 rfl (lv_at hl 1 rfl) ?_
      obtain ⟨u28, f28, h⟩ := fr_bind h
      obtain ⟨σ_28, e28, h⟩ := fr_bind h
      refine fr_newO e28 hx hb hts in_Place ty_Place tk_Place hown (hts _ k_50) (hts _ k_147) (hts _ k_37) hK hH hS hA hN rfl (df_Place _ _) (oR_inv f28).1 (oR_inv f28).2 d_FR_init_130 (fun H hH hN hS => ?_)
      refine W.widen (k := cl + 1) (n := sl + 10) (by omega) (by omega) ?_
      have hN : H.size = nx + 1 := by omega
      refine lv_dup hx hb d_FR_init_133 rfl ?_
      obtain ⟨u29, f29, h⟩ := fr_bind h
      obtain ⟨w29, e29, h⟩ := fr_bind h
      refine fr_callN (fr_IN (b := nx) (As := []) (rest := [.ref nx, .int y2, .ref q27]) ⟨hx, hb, hml, hown, hts⟩ (c_Place_init l D T A σ_28 nx (nx + 1) (fun q hq => hA q (by have h9 := hS.1; omega)) w29.1 w29.2 e29) (hX.2 ("FetchRules", 82, y_Place_init, "FetchRules") (List.mem_of_getElem? (i := 3) rfl)) mi_Place_init rfl rfl ⟨Nat.le_of_ble_eq_true rfl, Nat.le_of_ble_eq_true rfl⟩ (fr_preN hK hX hH hN _) rfl hl.1 rfl (Nat.le_of_ble_eq_true rfl) d_FR_init_134 ⟨(oR_inv f29).1, (oR_inv f29).2⟩) hS (fun H locs hH hN hS => ?_)
      refine W.widen (k := cl + 3) (n := sl + 112) (by omega) (by omega) ?_
      obtain ⟨σ_30, e30, h⟩ := fr_bind h
      refine fr_qstN hx hb hK hH hN hS e30 (by decide) rfl rfl d_FR_init_137 (fun H locs hH hN hS => ?_)
      refine lv_iinc (v := (y2 + 1)) (lv' := [(2, .int (y2 + 1)), (0, .ref b0)]) hx hb d_FR_init_138 hl (k := 1) rfl rfl (by decide) rfl (fun ls hl => ?_)
      refine lv_goto (tgt := 119) hx hb d_FR_init_141 (by decide) ?_
      exact ih b0 (y2 + 1) σ_30 w29.2 (cl + 3) (sl + 112) σ1 nx1 h _ _ hH hN hS ls (lv_sub hl [1, 0] rfl)
set_option maxHeartbeats 4000000 in
set_option maxRecDepth 100000 in
theorem c_FR_init (l : Launch) (D : va_G) (T : Nat → ClassId) (A : Nat → Prop) (σ : fr_S) (h0 : Nat) (x1 : Int32) (nx : Nat) (hA0 : ∀ q, nx ≤ q → A q) (σ1 : fr_S) (nx1 : Nat) (h : m_FR_init h0 x1 σ nx = some (σ1, nx1)) : Met l y_FR_init (Cond.code y_FR_init b_FR_init 3 none :: fr_W) ({ frames := 3, cells := 125, slots := 4378, locals := 65 } : Room) (va_Pc [.ref h0, .int x1] (fr_BN D T A nx σ)) (fr_QN D T A σ1 nx1) 125 4378 A := by
  refine Met.ofW (cc := b_FR_init) (maxL := 3) (ret := none) (by decide) rfl ?_
  intro p e s m args below meth c s₁ B hml hv
  obtain ⟨rfl, hN, hH, hK, hX⟩ := hv
  have hA : ∀ q, s.heap.size ≤ q → A q := fun q hq => hA0 q (by omega)
  have hin : meth.name = "<init>" := (name_of_methodNamed B.named B.method).1
  have C0 : fr_At p s m _ meth c "FetchRules" b_FR_init 3 none := fr_at B hml
  obtain ⟨hx, hb, hr, hml, hown, hts, hlocks⟩ := id C0
  have hS : va_S A s.heap s.heap [] := va_S.rf
  have hl := lv_entry ([.ref h0, .int x1]) (n := 3) (Nat.le_of_ble_eq_true rfl)
  rw [lg_entry_eq]
  generalize (lg_sl ([.ref h0, .int x1]) ++ List.replicate (3 - (lg_sl ([.ref h0, .int x1])).length) Slot.unset).toArray = ls at hl ⊢
  have hl : lv_has ls 3 [(0, .ref h0), (1, .int x1)] := hl
  unfold m_FR_init at h
  refine lv_aload_n hx hb d_FR_init_0 rfl (lv_at hl 0 rfl) ?_
  refine W.objInit hx hb hown (hts _ k_47) (hts _ k_48) (hts _ k_49) rfl (by rw [hml]; exact hl.1) rfl d_FR_init_1 (Nat.le_of_ble_eq_true rfl) (Nat.le_of_ble_eq_true rfl) ?_
  refine W.eq (g2 := F0 m 4 ls []) rfl ?_
  refine lv_aload_n hx hb d_FR_init_4 rfl (lv_at hl 0 rfl) ?_
  refine lv_bipush (v := 8) hx hb d_FR_init_5 (by decide) ?_
  obtain ⟨σ_1, e1, h⟩ := fr_bind h
  refine fr_newZ0 e1 hx hb (hts _ k_79) hK hH hS hA hN (by decide) (by decide) (by decide) (Nat.le_of_ble_eq_true rfl) (Nat.le_of_ble_eq_true rfl) d_FR_init_7 (fun H hH hN hS => ?_)
  refine W.widen (k := 1) (n := 8) (Nat.le_of_ble_eq_true rfl) (Nat.le_of_ble_eq_true rfl) ?_
  have hN : H.size = nx + 1 := by omega
  obtain ⟨σ_2, e2, h⟩ := fr_bind h
  refine fr_putPFN (ty := (.array (.boolean))) hx hb hts in_FR ty_FR tk_FR nm_FR hown hK hH hN hS ⟨rfl, rfl⟩ e2 rfl 1 (by decide) (hts _ k_240) (fun _ h9 => h9) rfl hin rfl (by decide +kernel) (fs_1_1 _ _ _) (Nat.le_of_ble_eq_true rfl) d_FR_init_9 (fun H locs hH hN hS => ?_)
  refine lv_aload_n hx hb d_FR_init_12 rfl (lv_at hl 0 rfl) ?_
  refine lv_bipush (v := 8) hx hb d_FR_init_13 (by decide) ?_
  obtain ⟨σ_3, e3, h⟩ := fr_bind h
  refine fr_newI0 e3 hx hb (hts _ k_80) hK hH hS hA hN (by decide) (by decide) (by decide) (Nat.le_of_ble_eq_true rfl) (Nat.le_of_ble_eq_true rfl) d_FR_init_15 (fun H hH hN hS => ?_)
  refine W.widen (k := 2) (n := 16) (Nat.le_of_ble_eq_true rfl) (Nat.le_of_ble_eq_true rfl) ?_
  have hN : H.size = nx + 2 := by omega
  obtain ⟨σ_4, e4, h⟩ := fr_bind h
  refine fr_putPFN (ty := (.array (.int))) hx hb hts in_FR ty_FR tk_FR nm_FR hown hK hH hN hS ⟨rfl, rfl⟩ e4 rfl 2 (by decide) (hts _ k_241) (fun _ h9 => h9) rfl hin rfl (by decide +kernel) (fs_1_2 _ _ _) (Nat.le_of_ble_eq_true rfl) d_FR_init_17 (fun H locs hH hN hS => ?_)
  refine lv_aload_n hx hb d_FR_init_20 rfl (lv_at hl 0 rfl) ?_
  refine lv_bipush (v := 16) hx hb d_FR_init_21 (by decide) ?_
  obtain ⟨σ_5, e5, h⟩ := fr_bind h
  refine fr_newQ0 e5 hx hb hown (hts _ k_50) (hX.1 _ (by decide)) (by decide) rfl hK hH hS hA hN (by decide) (by decide) (by decide) (Nat.le_of_ble_eq_true rfl) (Nat.le_of_ble_eq_true rfl) d_FR_init_23 (fun H hH hN hS => ?_)
  refine W.widen (k := 3) (n := 32) (Nat.le_of_ble_eq_true rfl) (Nat.le_of_ble_eq_true rfl) ?_
  have hN : H.size = nx + 3 := by omega
  obtain ⟨σ_6, e6, h⟩ := fr_bind h
  refine fr_putPFN (ty := (.array (.object "FetchRules$Place"))) hx hb hts in_FR ty_FR tk_FR nm_FR hown hK hH hN hS ⟨rfl, rfl⟩ e6 rfl 3 (by decide) (hts _ k_242) (fun _ h9 => h9) rfl hin rfl (by decide +kernel) (fs_1_3 _ _ _) (Nat.le_of_ble_eq_true rfl) d_FR_init_26 (fun H locs hH hN hS => ?_)
  refine lv_aload_n hx hb d_FR_init_29 rfl (lv_at hl 0 rfl) ?_
  refine lv_iconst (v := 0) hx hb d_FR_init_30 (by decide) ?_
  obtain ⟨σ_7, e7, h⟩ := fr_bind h
  refine fr_putIN hx hb hts in_FR ty_FR tk_FR nm_FR hown hK hH hN hS e7 rfl 4 (by decide) (hts _ k_243) (fun _ h9 => h9) rfl (by decide +kernel) (fs_1_4 _ _ _) (Nat.le_of_ble_eq_true rfl) d_FR_init_31 (fun H locs hH hN hS => ?_)
  refine lv_aload_n hx hb d_FR_init_34 rfl (lv_at hl 0 rfl) ?_
  refine lv_bipush (v := 10) hx hb d_FR_init_35 (by decide) ?_
  obtain ⟨σ_8, e8, h⟩ := fr_bind h
  refine fr_newQ0 e8 hx hb hown (hts _ k_52) (hX.1 _ (by decide)) (by decide) rfl hK hH hS hA hN (by decide) (by decide) (by decide) (Nat.le_of_ble_eq_true rfl) (Nat.le_of_ble_eq_true rfl) d_FR_init_37 (fun H hH hN hS => ?_)
  refine W.widen (k := 4) (n := 42) (Nat.le_of_ble_eq_true rfl) (Nat.le_of_ble_eq_true rfl) ?_
  have hN : H.size = nx + 4 := by omega
  obtain ⟨σ_9, e9, h⟩ := fr_bind h
  refine fr_putPFN (ty := (.array (.object "FetchRules$Want"))) hx hb hts in_FR ty_FR tk_FR nm_FR hown hK hH hN hS ⟨rfl, rfl⟩ e9 rfl 5 (by decide) (hts _ k_244) (fun _ h9 => h9) rfl hin rfl (by decide +kernel) (fs_1_5 _ _ _) (Nat.le_of_ble_eq_true rfl) d_FR_init_40 (fun H locs hH hN hS => ?_)
  refine lv_aload_n hx hb d_FR_init_43 rfl (lv_at hl 0 rfl) ?_
  refine lv_iconst (v := 0) hx hb d_FR_init_44 (by decide) ?_
  obtain ⟨σ_10, e10, h⟩ := fr_bind h
  refine fr_putIN hx hb hts in_FR ty_FR tk_FR nm_FR hown hK hH hN hS e10 rfl 6 (by decide) (hts _ k_245) (fun _ h9 => h9) rfl (by decide +kernel) (fs_1_6 _ _ _) (Nat.le_of_ble_eq_true rfl) d_FR_init_45 (fun H locs hH hN hS => ?_)
  refine lv_aload_n hx hb d_FR_init_48 rfl (lv_at hl 0 rfl) ?_
  obtain ⟨σ_11, e11, h⟩ := fr_bind h
  refine fr_newO e11 hx hb hts in_Store ty_Store tk_Store hown (hts _ k_54) (hts _ k_55) (hts _ k_32) hK hH hS hA hN rfl (df_Store _ _) (Nat.le_of_ble_eq_true rfl) (Nat.le_of_ble_eq_true rfl) d_FR_init_49 (fun H hH hN hS => ?_)
  refine W.widen (k := 5) (n := 45) (Nat.le_of_ble_eq_true rfl) (Nat.le_of_ble_eq_true rfl) ?_
  have hN : H.size = nx + 5 := by omega
  refine lv_dup hx hb d_FR_init_52 rfl ?_
  obtain ⟨w12, e12, h⟩ := fr_bind h
  refine fr_callN (fr_Ic (b := (nx + 4)) (As := []) (rest := [.ref (nx + 4), .ref h0]) ⟨hx, hb, hml, hown, hts⟩ (c_Store_init l D T A σ_11 ((nx + 4)) (nx + 5) (fun q hq => hA q (by have h9 := hS.1; omega)) w12.1 w12.2 e12) k_56 mi_Store_init rfl rfl ⟨Nat.le_of_ble_eq_true rfl, Nat.le_of_ble_eq_true rfl⟩ (fr_preN hK hX hH hN _) rfl hl.1 rfl (Nat.le_of_ble_eq_true rfl) d_FR_init_53 ⟨Nat.le_of_ble_eq_true rfl, Nat.le_of_ble_eq_true rfl⟩) hS (fun H locs hH hN hS => ?_)
  refine W.widen (k := 27) (n := 1085) (Nat.le_of_ble_eq_true rfl) (Nat.le_of_ble_eq_true rfl) ?_
  obtain ⟨σ_13, e13, h⟩ := fr_bind h
  refine fr_putPFN (ty := (.object "FetchRules$Store")) hx hb hts in_FR ty_FR tk_FR nm_FR hown hK hH hN hS ⟨rfl, rfl⟩ e13 rfl 7 (by decide) (hts _ k_246) (fun _ h9 => h9) rfl hin rfl (by decide +kernel) (fs_1_7 _ _ _) (Nat.le_of_ble_eq_true rfl) d_FR_init_56 (fun H locs hH hN hS => ?_)
  refine lv_aload_n hx hb d_FR_init_59 rfl (lv_at hl 0 rfl) ?_
  obtain ⟨σ_14, e14, h⟩ := fr_bind h
  refine fr_newO e14 hx hb hts in_Tellings ty_Tellings tk_Tellings hown (hts _ k_92) (hts _ k_93) (hts _ k_34) hK hH hS hA hN rfl (df_Tellings _ _) (Nat.le_of_ble_eq_true rfl) (Nat.le_of_ble_eq_true rfl) d_FR_init_60 (fun H hH hN hS => ?_)
  refine W.widen (k := 28) (n := 1089) (Nat.le_of_ble_eq_true rfl) (Nat.le_of_ble_eq_true rfl) ?_
  have hN : H.size = w12.2 + 1 := by omega
  refine lv_dup hx hb d_FR_init_63 rfl ?_
  obtain ⟨w15, e15, h⟩ := fr_bind h
  refine fr_callN (fr_IN (b := w12.2) (As := []) (rest := [.ref w12.2, .ref h0]) ⟨hx, hb, hml, hown, hts⟩ (c_Tellings_init l D T A σ_14 w12.2 (w12.2 + 1) (fun q hq => hA q (by have h9 := hS.1; omega)) w15.1 w15.2 e15) (hX.2 ("FetchRules", 45, y_Tellings_init, "FetchRules") (List.mem_of_getElem? (i := 1) rfl)) mi_Tellings_init rfl rfl ⟨Nat.le_of_ble_eq_true rfl, Nat.le_of_ble_eq_true rfl⟩ (fr_preN hK hX hH hN _) rfl hl.1 rfl (Nat.le_of_ble_eq_true rfl) d_FR_init_64 ⟨Nat.le_of_ble_eq_true rfl, Nat.le_of_ble_eq_true rfl⟩) hS (fun H locs hH hN hS => ?_)
  refine W.widen (k := 31) (n := 1269) (Nat.le_of_ble_eq_true rfl) (Nat.le_of_ble_eq_true rfl) ?_
  obtain ⟨σ_16, e16, h⟩ := fr_bind h
  refine fr_putPFN (ty := (.object "FetchRules$Tellings")) hx hb hts in_FR ty_FR tk_FR nm_FR hown hK hH hN hS ⟨rfl, rfl⟩ e16 rfl 8 (by decide) (hts _ k_247) (fun _ h9 => h9) rfl hin rfl (by decide +kernel) (fs_1_8 _ _ _) (Nat.le_of_ble_eq_true rfl) d_FR_init_67 (fun H locs hH hN hS => ?_)
  refine lv_aload_n hx hb d_FR_init_70 rfl (lv_at hl 0 rfl) ?_
  refine lv_bipush (v := 10) hx hb d_FR_init_71 (by decide) ?_
  obtain ⟨σ_17, e17, h⟩ := fr_bind h
  refine fr_newI0 e17 hx hb (hts _ k_80) hK hH hS hA hN (by decide) (by decide) (by decide) (Nat.le_of_ble_eq_true rfl) (Nat.le_of_ble_eq_true rfl) d_FR_init_73 (fun H hH hN hS => ?_)
  refine W.widen (k := 32) (n := 1279) (Nat.le_of_ble_eq_true rfl) (Nat.le_of_ble_eq_true rfl) ?_
  have hN : H.size = w15.2 + 1 := by omega
  obtain ⟨σ_18, e18, h⟩ := fr_bind h
  refine fr_putPFN (ty := (.array (.int))) hx hb hts in_FR ty_FR tk_FR nm_FR hown hK hH hN hS ⟨rfl, rfl⟩ e18 rfl 9 (by decide) (hts _ k_248) (fun _ h9 => h9) rfl hin rfl (by decide +kernel) (fs_1_9 _ _ _) (Nat.le_of_ble_eq_true rfl) d_FR_init_75 (fun H locs hH hN hS => ?_)
  refine lv_aload_n hx hb d_FR_init_78 rfl (lv_at hl 0 rfl) ?_
  refine lv_iconst (v := 0) hx hb d_FR_init_79 (by decide) ?_
  obtain ⟨σ_19, e19, h⟩ := fr_bind h
  refine fr_putIN hx hb hts in_FR ty_FR tk_FR nm_FR hown hK hH hN hS e19 rfl 10 (by decide) (hts _ k_249) (fun _ h9 => h9) rfl (by decide +kernel) (fs_1_10 _ _ _) (Nat.le_of_ble_eq_true rfl) d_FR_init_80 (fun H locs hH hN hS => ?_)
  refine lv_aload_n hx hb d_FR_init_83 rfl (lv_at hl 0 rfl) ?_
  obtain ⟨σ_20, e20, h⟩ := fr_bind h
  refine fr_newO e20 hx hb hts in_Files ty_Files tk_Files hown (hts _ k_114) (hts _ k_115) (hts _ k_35) hK hH hS hA hN rfl (df_Files _ _) (Nat.le_of_ble_eq_true rfl) (Nat.le_of_ble_eq_true rfl) d_FR_init_84 (fun H hH hN hS => ?_)
  refine W.widen (k := 33) (n := 1284) (Nat.le_of_ble_eq_true rfl) (Nat.le_of_ble_eq_true rfl) ?_
  have hN : H.size = w15.2 + 2 := by omega
  refine lv_dup hx hb d_FR_init_87 rfl ?_
  obtain ⟨w21, e21, h⟩ := fr_bind h
  refine fr_callN (fr_IN (b := (w15.2 + 1)) (As := []) (rest := [.ref (w15.2 + 1), .ref h0]) ⟨hx, hb, hml, hown, hts⟩ (c_Files_init l D T A σ_20 ((w15.2 + 1)) (w15.2 + 2) (fun q hq => hA q (by have h9 := hS.1; omega)) w21.1 w21.2 e21) (hX.2 ("FetchRules", 58, y_Files_init, "FetchRules") (List.mem_of_getElem? (i := 2) rfl)) mi_Files_init rfl rfl ⟨Nat.le_of_ble_eq_true rfl, Nat.le_of_ble_eq_true rfl⟩ (fr_preN hK hX hH hN _) rfl hl.1 rfl (Nat.le_of_ble_eq_true rfl) d_FR_init_88 ⟨Nat.le_of_ble_eq_true rfl, Nat.le_of_ble_eq_true rfl⟩) hS (fun H locs hH hN hS => ?_)
  refine W.widen (k := 37) (n := 1416) (Nat.le_of_ble_eq_true rfl) (Nat.le_of_ble_eq_true rfl) ?_
  obtain ⟨σ_22, e22, h⟩ := fr_bind h
  refine fr_putPFN (ty := (.object "FetchRules$Files")) hx hb hts in_FR ty_FR tk_FR nm_FR hown hK hH hN hS ⟨rfl, rfl⟩ e22 rfl 11 (by decide) (hts _ k_250) (fun _ h9 => h9) rfl hin rfl (by decide +kernel) (fs_1_11 _ _ _) (Nat.le_of_ble_eq_true rfl) d_FR_init_91 (fun H locs hH hN hS => ?_)
  refine lv_aload_n hx hb d_FR_init_94 rfl (lv_at hl 0 rfl) ?_
  refine lv_iconst (v := 0) hx hb d_FR_init_95 (by decide) ?_
  obtain ⟨σ_23, e23, h⟩ := fr_bind h
  refine fr_putZN hx hb hts in_FR ty_FR tk_FR nm_FR hown hK hH hN hS e23 rfl 12 (by decide) (hts _ k_251) (fun _ h9 => h9) rfl (by decide +kernel) (fs_1_12 _ _ _) (Nat.le_of_ble_eq_true rfl) d_FR_init_96 (fun H locs hH hN hS => ?_)
  refine lv_aload_n hx hb d_FR_init_99 rfl (lv_at hl 0 rfl) ?_
  refine lv_iconst (v := 0) hx hb d_FR_init_100 (by decide) ?_
  obtain ⟨σ_24, e24, h⟩ := fr_bind h
  refine fr_putIN hx hb hts in_FR ty_FR tk_FR nm_FR hown hK hH hN hS e24 rfl 13 (by decide) (hts _ k_252) (fun _ h9 => h9) rfl (by decide +kernel) (fs_1_13 _ _ _) (Nat.le_of_ble_eq_true rfl) d_FR_init_101 (fun H locs hH hN hS => ?_)
  refine lv_aload_n hx hb d_FR_init_104 rfl (lv_at hl 0 rfl) ?_
  refine lv_iconst (v := 0) hx hb d_FR_init_105 (by decide) ?_
  refine lv_iconst (v := 5) hx hb d_FR_init_106 (by decide) ?_
  refine lv_iload_n hx hb d_FR_init_107 rfl (lv_at hl 1 rfl) ?_
  refine va_mmin hx hb (hml.trans hl.1.symm) hown (hts _ k_141) (hts _ k_142) (hts _ k_36) (hts _ k_143) (Nat.le_of_ble_eq_true rfl) (Nat.le_of_ble_eq_true rfl) (Nat.le_of_ble_eq_true rfl) (Nat.le_of_ble_eq_true rfl) d_FR_init_108 ?_
  refine va_mmax hx hb (hml.trans hl.1.symm) hown (hts _ k_144) (hts _ k_145) (hts _ k_36) (hts _ k_146) (Nat.le_of_ble_eq_true rfl) (Nat.le_of_ble_eq_true rfl) (Nat.le_of_ble_eq_true rfl) (Nat.le_of_ble_eq_true rfl) d_FR_init_111 ?_
  obtain ⟨σ_25, e25, h⟩ := fr_bind h
  refine fr_putIFN hx hb hts in_FR ty_FR tk_FR nm_FR hown hK hH hN hS e25 rfl 0 (by decide) (hts _ k_239) (fun _ h9 => h9) rfl hin rfl (by decide +kernel) (fs_1_0 _ _ _) (Nat.le_of_ble_eq_true rfl) d_FR_init_114 (fun H locs hH hN hS => ?_)
  refine lv_iconst (v := 0) hx hb d_FR_init_117 (by decide) ?_
  refine lv_istore_n (lv' := [(2, .int 0), (0, .ref h0), (1, .int x1)]) hx hb d_FR_init_118 rfl hl (by decide) rfl (fun ls hl => ?_)
  exact w_FR_init_L119 C0 hK hX hA 1000 h0 0 σ_25 w21.2 37 1416 σ1 nx1 h _ _ hH hN hS ls (lv_sub hl [1, 0] rfl)
