set_option maxHeartbeats 4000000 in
set_option maxRecDepth 100000 in
theorem c_FR_isWant (l : Launch) (D : va_G) (T : Nat → ClassId) (A : Nat → Prop) (σ : fr_S) (h0 : Nat) (x1 : Int32) (r : Int32) (h : m_FR_isWant h0 x1 σ = some r) : Met l y_FR_isWant (Cond.code y_FR_isWant b_FR_isWant 2 (some .boolean) :: fr_W) ({ frames := 0, cells := 0, slots := 0, locals := 0 } : Room) (va_Pc [.ref h0, .int x1] (fr_B D T A σ)) (fr_Qi D T A r σ) 0 0 A := by
  refine Met.ofW (cc := b_FR_isWant) (maxL := 2) (ret := (some .boolean)) (by decide) rfl ?_
  intro p e s m args below meth c s₁ B hml hv
  obtain ⟨rfl, hH, hK, hX⟩ := hv
  have C0 : fr_At p s m _ meth c "FetchRules" b_FR_isWant 2 (some .boolean) := fr_at B hml
  obtain ⟨hx, hb, hr, hml, hown, hts, hlocks⟩ := id C0
  have hS : va_S A s.heap s.heap [] := va_S.rf
  have hl := lv_entry ([.ref h0, .int x1]) (n := 2) (Nat.le_of_ble_eq_true rfl)
  rw [lg_entry_eq]
  generalize (lg_sl ([.ref h0, .int x1]) ++ List.replicate (2 - (lg_sl ([.ref h0, .int x1])).length) Slot.unset).toArray = ls at hl ⊢
  have hl : lv_has ls 2 [(0, .ref h0), (1, .int x1)] := hl
  unfold m_FR_isWant at h
  refine lv_iload_n hx hb d_FR_isWant_0 rfl (lv_at hl 1 rfl) ?_
  refine lv_if_lt (tgt := 16) hx hb d_FR_isWant_1 (by decide) (fun c1 => ?_) (fun c1 => ?_)
  · replace h := fr_ift c1 h
    refine lv_iconst (v := 0) hx hb d_FR_isWant_16 (by decide) ?_
    exact fr_zretO hx hb hr hlocks (Or.inl rfl) h hH hK hX hS d_FR_isWant_17
  · replace h := fr_iff c1 h
    refine lv_iload_n hx hb d_FR_isWant_4 rfl (lv_at hl 1 rfl) ?_
    refine lv_aload_n hx hb d_FR_isWant_5 rfl (lv_at hl 0 rfl) ?_
    obtain ⟨v2, e2, h⟩ := fr_bind h
    refine fr_gI hx hb hts in_FR hown hK hH e2 rfl 6 (by decide) (hts _ k_245) (fun _ h9 => h9) rfl d_FR_isWant_6 ?_
    refine lv_icmp_ge (tgt := 16) hx hb d_FR_isWant_9 (by decide) (fun c3 => ?_) (fun c3 => ?_)
    · replace h := fr_ift c3 h
      refine lv_iconst (v := 0) hx hb d_FR_isWant_16 (by decide) ?_
      exact fr_zretO hx hb hr hlocks (Or.inl rfl) h hH hK hX hS d_FR_isWant_17
    · replace h := fr_iff c3 h
      refine lv_iconst (v := 1) hx hb d_FR_isWant_12 (by decide) ?_
      refine lv_goto (tgt := 17) hx hb d_FR_isWant_13 (by decide) ?_
      exact fr_zretO hx hb hr hlocks (Or.inr rfl) h hH hK hX hS d_FR_isWant_17
set_option maxHeartbeats 4000000 in
set_option maxRecDepth 100000 in
theorem w_Want_addPlace_L13 {p : Program} {l : Launch} {e : Env} {s : State} {m : MethodId} {args : Array Value} {below : List Frame} {meth : Method} {c : Code} {D : va_G} {T : Nat → ClassId} {A : Nat → Prop} (C0 : fr_At p s m args meth c "FetchRules$Want" b_Want_addPlace 3 (some .boolean)) (hK : va_K D vwCl (fr_tys T) s) (hX : fr_X s) :
    ∀ (n : Nat) (b0 : Nat) (y1 : Int32) (y2 : Int32) (σ : fr_S) (r : Int32) (σ1 : fr_S), m_Want_addPlace_L13 n b0 y1 y2 σ = some (r, σ1) → ∀ (H : Heap) (locs : List Loc), fr_H D T A σ H → va_S A s.heap H locs → ∀ (ls : Array Slot), lv_has ls 3 [(0, .ref b0), (1, .int y1), (2, .int y2)] → W p l e (headSpec (Cond.code y_Want_addPlace b_Want_addPlace 3 (some .boolean) :: fr_W) ({ frames := 0, cells := 0, slots := 0, locals := 0 } : Room)).room s m args below meth c H locs 0 0 (MQ below (fr_Qi D T A r σ1) args s 0 0 A) (F0 m 13 ls []) := by
  obtain ⟨hx, hb, hr, hml, hown, hts, hlocks⟩ := id C0
  intro n
  induction n with
  | zero => intro b0 y1 y2 σ r σ1 h; cases h
  | succ n ih =>
    intro b0 y1 y2 σ r σ1 h H locs hH hS ls hl
    unfold m_Want_addPlace_L13 at h
    refine lv_iload_n hx hb d_Want_addPlace_13 rfl (lv_at hl 2 rfl) ?_
    refine lv_aload_n hx hb d_Want_addPlace_14 rfl (lv_at hl 0 rfl) ?_
    obtain ⟨v3, e3, h⟩ := fr_bind h
    refine fr_gI hx hb hts in_Want hown hK hH e3 rfl 2 (by decide) (hts _ k_206) (fun _ h9 => h9) rfl d_Want_addPlace_15 ?_
    refine lv_icmp_ge (tgt := 39) hx hb d_Want_addPlace_18 (by decide) (fun c4 => ?_) (fun c4 => ?_)
    · replace h := fr_ift c4 h
      refine lv_aload_n hx hb d_Want_addPlace_39 rfl (lv_at hl 0 rfl) ?_
      obtain ⟨q5, e5, h⟩ := fr_bind h
      refine fr_gP hx hb hts in_Want hown hK hH e5 rfl 1 (by decide) (hts _ k_204) (fun _ h9 => h9) rfl d_Want_addPlace_40 ?_
      refine lv_aload_n hx hb d_Want_addPlace_43 rfl (lv_at hl 0 rfl) ?_
      refine lv_dup hx hb d_Want_addPlace_44 rfl ?_
      obtain ⟨v6, e6, h⟩ := fr_bind h
      refine fr_gI hx hb hts in_Want hown hK hH e6 rfl 2 (by decide) (hts _ k_206) (fun _ h9 => h9) rfl d_Want_addPlace_45 ?_
      refine lv_dup_x1 hx hb d_Want_addPlace_48 rfl rfl ?_
      refine lv_iconst (v := 1) hx hb d_Want_addPlace_49 (by decide) ?_
      refine lv_iadd hx hb d_Want_addPlace_50 ?_
      obtain ⟨σ_7, e7, h⟩ := fr_bind h
      refine fr_putI hx hb hts in_Want ty_Want tk_Want nm_Want hown hK hH hS e7 rfl 2 (by decide) (hts _ k_206) (fun _ h9 => h9) rfl (by decide +kernel) (fs_7_2 _ _ _) (Nat.le_of_ble_eq_true rfl) d_Want_addPlace_51 (fun H locs hH hS => ?_)
      refine lv_iload_n hx hb d_Want_addPlace_54 rfl (lv_at hl 1 rfl) ?_
      obtain ⟨σ_8, e8, h⟩ := fr_bind h
      refine fr_ist hx hb hK hH hS e8 d_Want_addPlace_55 (fun H locs hH hS => ?_)
      refine lv_iconst (v := 1) hx hb d_Want_addPlace_56 (by decide) ?_
      exact fr_zret hx hb hr hlocks (Or.inr rfl) h hH hK hX hS d_Want_addPlace_57
    · replace h := fr_iff c4 h
      refine lv_aload_n hx hb d_Want_addPlace_21 rfl (lv_at hl 0 rfl) ?_
      obtain ⟨q9, e9, h⟩ := fr_bind h
      refine fr_gP hx hb hts in_Want hown hK hH e9 rfl 1 (by decide) (hts _ k_204) (fun _ h9 => h9) rfl d_Want_addPlace_22 ?_
      refine lv_iload_n hx hb d_Want_addPlace_25 rfl (lv_at hl 2 rfl) ?_
      obtain ⟨v10, e10, h⟩ := fr_bind h
      refine fr_ild hx hb hK hH e10 d_Want_addPlace_26 ?_
      refine lv_iload_n hx hb d_Want_addPlace_27 rfl (lv_at hl 1 rfl) ?_
      refine lv_icmp_ne (tgt := 33) hx hb d_Want_addPlace_28 (by decide) (fun c11 => ?_) (fun c11 => ?_)
      · replace h := fr_iff c11 h
        refine lv_iinc (v := (y2 + 1)) (lv' := [(2, .int (y2 + 1)), (0, .ref b0), (1, .int y1)]) hx hb d_Want_addPlace_33 hl (k := 2) rfl rfl (by decide) rfl (fun ls hl => ?_)
        refine lv_goto (tgt := 13) hx hb d_Want_addPlace_36 (by decide) ?_
        exact ih b0 y1 (y2 + 1) σ r σ1 h _ _ hH hS ls (lv_sub hl [1, 2, 0] rfl)
      · replace h := fr_ift c11 h
        refine lv_iconst (v := 0) hx hb d_Want_addPlace_31 (by decide) ?_
        exact fr_zret hx hb hr hlocks (Or.inl rfl) h hH hK hX hS d_Want_addPlace_32
set_option maxHeartbeats 4000000 in
set_option maxRecDepth 100000 in
theorem c_Want_addPlace (l : Launch) (D : va_G) (T : Nat → ClassId) (A : Nat → Prop) (σ : fr_S) (h0 : Nat) (x1 : Int32) (r : Int32) (σ1 : fr_S) (h : m_Want_addPlace h0 x1 σ = some (r, σ1)) : Met l y_Want_addPlace (Cond.code y_Want_addPlace b_Want_addPlace 3 (some .boolean) :: fr_W) ({ frames := 0, cells := 0, slots := 0, locals := 0 } : Room) (va_Pc [.ref h0, .int x1] (fr_B D T A σ)) (fr_Qi D T A r σ1) 0 0 A := by
  refine Met.ofW (cc := b_Want_addPlace) (maxL := 3) (ret := (some .boolean)) (by decide) rfl ?_
  intro p e s m args below meth c s₁ B hml hv
  obtain ⟨rfl, hH, hK, hX⟩ := hv
  have C0 : fr_At p s m _ meth c "FetchRules$Want" b_Want_addPlace 3 (some .boolean) := fr_at B hml
  obtain ⟨hx, hb, hr, hml, hown, hts, hlocks⟩ := id C0
  have hS : va_S A s.heap s.heap [] := va_S.rf
  have hl := lv_entry ([.ref h0, .int x1]) (n := 3) (Nat.le_of_ble_eq_true rfl)
  rw [lg_entry_eq]
  generalize (lg_sl ([.ref h0, .int x1]) ++ List.replicate (3 - (lg_sl ([.ref h0, .int x1])).length) Slot.unset).toArray = ls at hl ⊢
  have hl : lv_has ls 3 [(0, .ref h0), (1, .int x1)] := hl
  unfold m_Want_addPlace at h
  refine lv_aload_n hx hb d_Want_addPlace_0 rfl (lv_at hl 0 rfl) ?_
  obtain ⟨v1, e1, h⟩ := fr_bind h
  refine fr_gI hx hb hts in_Want hown hK hH e1 rfl 2 (by decide) (hts _ k_206) (fun _ h9 => h9) rfl d_Want_addPlace_1 ?_
  refine lv_bipush (v := 6) hx hb d_Want_addPlace_4 (by decide) ?_
  refine lv_icmp_lt (tgt := 11) hx hb d_Want_addPlace_6 (by decide) (fun c2 => ?_) (fun c2 => ?_)
  · replace h := fr_ift c2 h
    refine lv_iconst (v := 0) hx hb d_Want_addPlace_11 (by decide) ?_
    refine lv_istore_n (lv' := [(2, .int 0), (0, .ref h0), (1, .int x1)]) hx hb d_Want_addPlace_12 rfl hl (by decide) rfl (fun ls hl => ?_)
    exact w_Want_addPlace_L13 C0 hK hX 1000 h0 x1 0 σ r σ1 h _ _ hH hS ls (lv_sub hl [1, 2, 0] rfl)
  · replace h := fr_iff c2 h
    refine lv_iconst (v := 0) hx hb d_Want_addPlace_9 (by decide) ?_
    exact fr_zret hx hb hr hlocks (Or.inl rfl) h hH hK hX hS d_Want_addPlace_10
set_option maxHeartbeats 4000000 in
set_option maxRecDepth 100000 in
theorem c_FR_from (l : Launch) (D : va_G) (T : Nat → ClassId) (A : Nat → Prop) (σ : fr_S) (h0 : Nat) (x1 : Int32) (x2 : Int32) (r : Int32) (σ1 : fr_S) (h : m_FR_from h0 x1 x2 σ = some (r, σ1)) : Met l y_FR_from (Cond.code y_FR_from b_FR_from 3 (some .boolean) :: fr_W) ({ frames := 1, cells := 0, slots := 0, locals := 22 } : Room) (va_Pc [.ref h0, .int x1, .int x2] (fr_B D T A σ)) (fr_Qi D T A r σ1) 0 0 A := by
  refine Met.ofW (cc := b_FR_from) (maxL := 3) (ret := (some .boolean)) (by decide) rfl ?_
  intro p e s m args below meth c s₁ B hml hv
  obtain ⟨rfl, hH, hK, hX⟩ := hv
  have C0 : fr_At p s m _ meth c "FetchRules" b_FR_from 3 (some .boolean) := fr_at B hml
  obtain ⟨hx, hb, hr, hml, hown, hts, hlocks⟩ := id C0
  have hS : va_S A s.heap s.heap [] := va_S.rf
  have hl := lv_entry ([.ref h0, .int x1, .int x2]) (n := 3) (Nat.le_of_ble_eq_true rfl)
  rw [lg_entry_eq]
  generalize (lg_sl ([.ref h0, .int x1, .int x2]) ++ List.replicate (3 - (lg_sl ([.ref h0, .int x1, .int x2])).length) Slot.unset).toArray = ls at hl ⊢
  have hl : lv_has ls 3 [(0, .ref h0), (1, .int x1), (2, .int x2)] := hl
  unfold m_FR_from at h
  refine lv_aload_n hx hb d_FR_from_0 rfl (lv_at hl 0 rfl) ?_
  refine lv_iload_n hx hb d_FR_from_1 rfl (lv_at hl 1 rfl) ?_
  obtain ⟨u1, e1, h⟩ := fr_bind h
  obtain ⟨r2, e2, h⟩ := fr_bind h
  refine fr_calli (fr_V (As := [.int x1]) (rest := []) ⟨hx, hb, hml, hown, hts⟩ (c_FR_isWant l D T A σ h0 x1 r2 e2) k_330 mv_FR_isWant rfl rfl ⟨Nat.le_of_ble_eq_true rfl, Nat.le_of_ble_eq_true rfl⟩ (fr_preV hK hX hH e1 rfl _) rfl hl.1 rfl (Nat.le_of_ble_eq_true rfl) d_FR_from_2 ⟨Nat.zero_le _, Nat.zero_le _⟩) hS (fun H locs hH hS => ?_)
  refine lv_if_eq (tgt := 28) hx hb d_FR_from_5 (by decide) (fun c3 => ?_) (fun c3 => ?_)
  · replace h := fr_ift c3 h
    refine lv_iconst (v := 0) hx hb d_FR_from_28 (by decide) ?_
    exact fr_zret hx hb hr hlocks (Or.inl rfl) h hH hK hX hS d_FR_from_29
  · replace h := fr_iff c3 h
    refine lv_aload_n hx hb d_FR_from_8 rfl (lv_at hl 0 rfl) ?_
    refine lv_iload_n hx hb d_FR_from_9 rfl (lv_at hl 2 rfl) ?_
    obtain ⟨u4, e4, h⟩ := fr_bind h
    obtain ⟨r5, e5, h⟩ := fr_bind h
    refine fr_calli (fr_V (As := [.int x2]) (rest := []) ⟨hx, hb, hml, hown, hts⟩ (c_FR_isPlace l D T A σ h0 x2 r5 e5) k_297 mv_FR_isPlace rfl rfl ⟨Nat.le_of_ble_eq_true rfl, Nat.le_of_ble_eq_true rfl⟩ (fr_preV hK hX hH e4 rfl _) rfl hl.1 rfl (Nat.le_of_ble_eq_true rfl) d_FR_from_10 ⟨Nat.zero_le _, Nat.zero_le _⟩) hS (fun H locs hH hS => ?_)
    refine lv_if_eq (tgt := 28) hx hb d_FR_from_13 (by decide) (fun c6 => ?_) (fun c6 => ?_)
    · replace h := fr_ift c6 h
      refine lv_iconst (v := 0) hx hb d_FR_from_28 (by decide) ?_
      exact fr_zret hx hb hr hlocks (Or.inl rfl) h hH hK hX hS d_FR_from_29
    · replace h := fr_iff c6 h
      refine lv_aload_n hx hb d_FR_from_16 rfl (lv_at hl 0 rfl) ?_
      obtain ⟨q7, e7, h⟩ := fr_bind h
      refine fr_gP hx hb hts in_FR hown hK hH e7 rfl 5 (by decide) (hts _ k_244) (fun _ h9 => h9) rfl d_FR_from_17 ?_
      refine lv_iload_n hx hb d_FR_from_20 rfl (lv_at hl 1 rfl) ?_
      obtain ⟨q8, e8, h⟩ := fr_bind h
      refine fr_qld hx hb hK hH e8 (by decide) rfl d_FR_from_21 ?_
      obtain ⟨v9, e9, h⟩ := fr_bind h
      refine fr_gI hx hb hts in_Want hown hK hH e9 rfl 4 (by decide) (hts _ k_211) (fun _ h9 => h9) rfl d_FR_from_22 ?_
      refine lv_if_eq (tgt := 30) hx hb d_FR_from_25 (by decide) (fun c10 => ?_) (fun c10 => ?_)
      · replace h := fr_ift c10 h
        refine lv_aload_n hx hb d_FR_from_30 rfl (lv_at hl 0 rfl) ?_
        obtain ⟨q11, e11, h⟩ := fr_bind h
        refine fr_gP hx hb hts in_FR hown hK hH e11 rfl 5 (by decide) (hts _ k_244) (fun _ h9 => h9) rfl d_FR_from_31 ?_
        refine lv_iload_n hx hb d_FR_from_34 rfl (lv_at hl 1 rfl) ?_
        obtain ⟨q12, e12, h⟩ := fr_bind h
        refine fr_qld hx hb hK hH e12 (by decide) rfl d_FR_from_35 ?_
        refine lv_iload_n hx hb d_FR_from_36 rfl (lv_at hl 2 rfl) ?_
        obtain ⟨u13, e13, h⟩ := fr_bind h
        obtain ⟨w14, e14, h⟩ := fr_bind h
        refine fr_calli (fr_V (As := [.int x2]) (rest := []) ⟨hx, hb, hml, hown, hts⟩ (c_Want_addPlace l D T A σ q12 x2 w14.1 w14.2 e14) k_334 mv_Want_addPlace rfl rfl ⟨Nat.le_of_ble_eq_true rfl, Nat.le_of_ble_eq_true rfl⟩ (fr_preV hK hX hH e13 rfl _) rfl hl.1 rfl (Nat.le_of_ble_eq_true rfl) d_FR_from_37 ⟨Nat.zero_le _, Nat.zero_le _⟩) hS (fun H locs hH hS => ?_)
        obtain ⟨u15, e15, h⟩ := fr_bind h
        exact fr_zret hx hb hr hlocks (oZ_inv e15) h hH hK hX hS d_FR_from_40
      · replace h := fr_iff c10 h
        refine lv_iconst (v := 0) hx hb d_FR_from_28 (by decide) ?_
        exact fr_zret hx hb hr hlocks (Or.inl rfl) h hH hK hX hS d_FR_from_29
set_option maxHeartbeats 4000000 in
set_option maxRecDepth 100000 in
theorem c_FR_offLine (l : Launch) (D : va_G) (T : Nat → ClassId) (A : Nat → Prop) (σ : fr_S) (h0 : Nat) (x1 : Int32) (σ1 : fr_S) (h : m_FR_offLine h0 x1 σ = some σ1) : Met l y_FR_offLine (Cond.code y_FR_offLine b_FR_offLine 2 none :: fr_W) ({ frames := 0, cells := 0, slots := 0, locals := 0 } : Room) (va_Pc [.ref h0, .int x1] (fr_B D T A σ)) (fr_Qv D T A σ1) 0 0 A := by
  refine Met.ofW (cc := b_FR_offLine) (maxL := 2) (ret := none) (by decide) rfl ?_
  intro p e s m args below meth c s₁ B hml hv
  obtain ⟨rfl, hH, hK, hX⟩ := hv
  have C0 : fr_At p s m _ meth c "FetchRules" b_FR_offLine 2 none := fr_at B hml
  obtain ⟨hx, hb, hr, hml, hown, hts, hlocks⟩ := id C0
  have hS : va_S A s.heap s.heap [] := va_S.rf
  have hl := lv_entry ([.ref h0, .int x1]) (n := 2) (Nat.le_of_ble_eq_true rfl)
  rw [lg_entry_eq]
  generalize (lg_sl ([.ref h0, .int x1]) ++ List.replicate (2 - (lg_sl ([.ref h0, .int x1])).length) Slot.unset).toArray = ls at hl ⊢
  have hl : lv_has ls 2 [(0, .ref h0), (1, .int x1)] := hl
  unfold m_FR_offLine at h
  refine lv_aload_n hx hb d_FR_offLine_0 rfl (lv_at hl 0 rfl) ?_
  refine lv_iload_n hx hb d_FR_offLine_1 rfl (lv_at hl 1 rfl) ?_
  obtain ⟨σ_1, e1, h⟩ := fr_bind h
  refine fr_putZ hx hb hts in_FR ty_FR tk_FR nm_FR hown hK hH hS e1 rfl 12 (by decide) (hts _ k_251) (fun _ h9 => h9) rfl (by decide +kernel) (fs_1_12 _ _ _) (Nat.le_of_ble_eq_true rfl) d_FR_offLine_2 (fun H locs hH hS => ?_)
  refine lv_aload_n hx hb d_FR_offLine_5 rfl (lv_at hl 0 rfl) ?_
  refine lv_iconst (v := 0) hx hb d_FR_offLine_6 (by decide) ?_
  obtain ⟨σ_2, e2, h⟩ := fr_bind h
  refine fr_putI hx hb hts in_FR ty_FR tk_FR nm_FR hown hK hH hS e2 rfl 10 (by decide) (hts _ k_249) (fun _ h9 => h9) rfl (by decide +kernel) (fs_1_10 _ _ _) (Nat.le_of_ble_eq_true rfl) d_FR_offLine_7 (fun H locs hH hS => ?_)
  exact fr_vret hx hb hr hlocks h hH hK hX hS d_FR_offLine_10
set_option maxHeartbeats 4000000 in
set_option maxRecDepth 100000 in
theorem c_Want_isBusy (l : Launch) (D : va_G) (T : Nat → ClassId) (A : Nat → Prop) (σ : fr_S) (h0 : Nat) (r : Int32) (h : m_Want_isBusy h0 σ = some r) : Met l y_Want_isBusy (Cond.code y_Want_isBusy b_Want_isBusy 1 (some .boolean) :: fr_W) ({ frames := 0, cells := 0, slots := 0, locals := 0 } : Room) (va_Pc [.ref h0] (fr_B D T A σ)) (fr_Qi D T A r σ) 0 0 A := by
  refine Met.ofW (cc := b_Want_isBusy) (maxL := 1) (ret := (some .boolean)) (by decide) rfl ?_
  intro p e s m args below meth c s₁ B hml hv
  obtain ⟨rfl, hH, hK, hX⟩ := hv
  have C0 : fr_At p s m _ meth c "FetchRules$Want" b_Want_isBusy 1 (some .boolean) := fr_at B hml
  obtain ⟨hx, hb, hr, hml, hown, hts, hlocks⟩ := id C0
  have hS : va_S A s.heap s.heap [] := va_S.rf
  have hl := lv_entry ([.ref h0]) (n := 1) (Nat.le_of_ble_eq_true rfl)
  rw [lg_entry_eq]
  generalize (lg_sl ([.ref h0]) ++ List.replicate (1 - (lg_sl ([.ref h0])).length) Slot.unset).toArray = ls at hl ⊢
  have hl : lv_has ls 1 [(0, .ref h0)] := hl
  unfold m_Want_isBusy at h
  refine lv_aload_n hx hb d_Want_isBusy_0 rfl (lv_at hl 0 rfl) ?_
  obtain ⟨v1, e1, h⟩ := fr_bind h
  refine fr_gI hx hb hts in_Want hown hK hH e1 rfl 4 (by decide) (hts _ k_210) (fun _ h9 => h9) rfl d_Want_isBusy_1 ?_
  refine lv_iconst (v := 1) hx hb d_Want_isBusy_4 (by decide) ?_
  refine lv_icmp_eq (tgt := 16) hx hb d_Want_isBusy_5 (by decide) (fun c2 => ?_) (fun c2 => ?_)
  · replace h := fr_ift c2 h
    refine lv_iconst (v := 1) hx hb d_Want_isBusy_16 (by decide) ?_
    refine lv_goto (tgt := 21) hx hb d_Want_isBusy_17 (by decide) ?_
    exact fr_zretO hx hb hr hlocks (Or.inr rfl) h hH hK hX hS d_Want_isBusy_21
  · replace h := fr_iff c2 h
    refine lv_aload_n hx hb d_Want_isBusy_8 rfl (lv_at hl 0 rfl) ?_
    obtain ⟨v3, e3, h⟩ := fr_bind h
    refine fr_gI hx hb hts in_Want hown hK hH e3 rfl 4 (by decide) (hts _ k_210) (fun _ h9 => h9) rfl d_Want_isBusy_9 ?_
    refine lv_iconst (v := 2) hx hb d_Want_isBusy_12 (by decide) ?_
    refine lv_icmp_ne (tgt := 20) hx hb d_Want_isBusy_13 (by decide) (fun c4 => ?_) (fun c4 => ?_)
    · replace h := fr_iff c4 h
      refine lv_iconst (v := 0) hx hb d_Want_isBusy_20 (by decide) ?_
      exact fr_zretO hx hb hr hlocks (Or.inl rfl) h hH hK hX hS d_Want_isBusy_21
    · replace h := fr_ift c4 h
      refine lv_iconst (v := 1) hx hb d_Want_isBusy_16 (by decide) ?_
      refine lv_goto (tgt := 21) hx hb d_Want_isBusy_17 (by decide) ?_
      exact fr_zretO hx hb hr hlocks (Or.inr rfl) h hH hK hX hS d_Want_isBusy_21
set_option maxHeartbeats 4000000 in
set_option maxRecDepth 100000 in
theorem w_Store_find_L2 {p : Program} {l : Launch} {e : Env} {s : State} {m : MethodId} {args : Array Value} {below : List Frame} {meth : Method} {c : Code} {D : va_G} {T : Nat → ClassId} {A : Nat → Prop} (C0 : fr_At p s m args meth c "FetchRules$Store" b_Store_find 3 (some .int)) (hK : va_K D vwCl (fr_tys T) s) (hX : fr_X s) :
    ∀ (n : Nat) (b0 : Nat) (y1 : Int32) (y2 : Int32) (σ : fr_S) (r : Int32), m_Store_find_L2 n b0 y1 y2 σ = some r → ∀ (H : Heap) (locs : List Loc), fr_H D T A σ H → va_S A s.heap H locs → ∀ (ls : Array Slot), lv_has ls 3 [(0, .ref b0), (1, .int y1), (2, .int y2)] → W p l e (headSpec (Cond.code y_Store_find b_Store_find 3 (some .int) :: fr_W) ({ frames := 0, cells := 0, slots := 0, locals := 0 } : Room)).room s m args below meth c H locs 0 0 (MQ below (fr_Qi D T A r σ) args s 0 0 A) (F0 m 2 ls []) := by
  obtain ⟨hx, hb, hr, hml, hown, hts, hlocks⟩ := id C0
  intro n
  induction n with
  | zero => intro b0 y1 y2 σ r h; cases h
  | succ n ih =>
    intro b0 y1 y2 σ r h H locs hH hS ls hl
    unfold m_Store_find_L2 at h
    refine lv_iload_n hx hb d_Store_find_2 rfl (lv_at hl 2 rfl) ?_
    refine lv_aload_n hx hb d_Store_find_3 rfl (lv_at hl 0 rfl) ?_
    obtain ⟨v1, e1, h⟩ := fr_bind h
    refine fr_gI hx hb hts in_Store hown hK hH e1 rfl 2 (by decide) (hts _ k_84) (fun _ h9 => h9) rfl d_Store_find_4 ?_
    refine lv_icmp_ge (tgt := 28) hx hb d_Store_find_7 (by decide) (fun c2 => ?_) (fun c2 => ?_)
    · replace h := fr_ift c2 h
      refine lv_iconst (v := (-1)) hx hb d_Store_find_28 (by decide) ?_
      exact fr_iretO hx hb hr hlocks  h hH hK hX hS d_Store_find_29
    · replace h := fr_iff c2 h
      refine lv_aload_n hx hb d_Store_find_10 rfl (lv_at hl 0 rfl) ?_
      obtain ⟨q3, e3, h⟩ := fr_bind h
      refine fr_gP hx hb hts in_Store hown hK hH e3 rfl 0 (by decide) (hts _ k_81) (fun _ h9 => h9) rfl d_Store_find_11 ?_
      refine lv_iload_n hx hb d_Store_find_14 rfl (lv_at hl 2 rfl) ?_
      obtain ⟨v4, e4, h⟩ := fr_bind h
      refine fr_ild hx hb hK hH e4 d_Store_find_15 ?_
      refine lv_iload_n hx hb d_Store_find_16 rfl (lv_at hl 1 rfl) ?_
      refine lv_icmp_ne (tgt := 22) hx hb d_Store_find_17 (by decide) (fun c5 => ?_) (fun c5 => ?_)
      · replace h := fr_iff c5 h
        refine lv_iinc (v := (y2 + 1)) (lv' := [(2, .int (y2 + 1)), (0, .ref b0), (1, .int y1)]) hx hb d_Store_find_22 hl (k := 2) rfl rfl (by decide) rfl (fun ls hl => ?_)
        refine lv_goto (tgt := 2) hx hb d_Store_find_25 (by decide) ?_
        exact ih b0 y1 (y2 + 1) σ r h _ _ hH hS ls (lv_sub hl [1, 2, 0] rfl)
      · replace h := fr_ift c5 h
        refine lv_iload_n hx hb d_Store_find_20 rfl (lv_at hl 2 rfl) ?_
        exact fr_iretO hx hb hr hlocks  h hH hK hX hS d_Store_find_21
set_option maxHeartbeats 4000000 in
set_option maxRecDepth 100000 in
theorem c_Store_find (l : Launch) (D : va_G) (T : Nat → ClassId) (A : Nat → Prop) (σ : fr_S) (h0 : Nat) (x1 : Int32) (r : Int32) (h : m_Store_find h0 x1 σ = some r) : Met l y_Store_find (Cond.code y_Store_find b_Store_find 3 (some .int) :: fr_W) ({ frames := 0, cells := 0, slots := 0, locals := 0 } : Room) (va_Pc [.ref h0, .int x1] (fr_B D T A σ)) (fr_Qi D T A r σ) 0 0 A := by
  refine Met.ofW (cc := b_Store_find) (maxL := 3) (ret := (some .int)) (by decide) rfl ?_
  intro p e s m args below meth c s₁ B hml hv
  obtain ⟨rfl, hH, hK, hX⟩ := hv
  have C0 : fr_At p s m _ meth c "FetchRules$Store" b_Store_find 3 (some .int) := fr_at B hml
  obtain ⟨hx, hb, hr, hml, hown, hts, hlocks⟩ := id C0
  have hS : va_S A s.heap s.heap [] := va_S.rf
  have hl := lv_entry ([.ref h0, .int x1]) (n := 3) (Nat.le_of_ble_eq_true rfl)
  rw [lg_entry_eq]
  generalize (lg_sl ([.ref h0, .int x1]) ++ List.replicate (3 - (lg_sl ([.ref h0, .int x1])).length) Slot.unset).toArray = ls at hl ⊢
  have hl : lv_has ls 3 [(0, .ref h0), (1, .int x1)] := hl
  unfold m_Store_find at h
  refine lv_iconst (v := 0) hx hb d_Store_find_0 (by decide) ?_
  refine lv_istore_n (lv' := [(2, .int 0), (0, .ref h0), (1, .int x1)]) hx hb d_Store_find_1 rfl hl (by decide) rfl (fun ls hl => ?_)
  exact w_Store_find_L2 C0 hK hX 1000 h0 x1 0 σ r h _ _ hH hS ls (lv_sub hl [1, 2, 0] rfl)
set_option maxHeartbeats 4000000 in
set_option maxRecDepth 100000 in
theorem c_Row_copyFrom (l : Launch) (D : va_G) (T : Nat → ClassId) (A : Nat → Prop) (σ : fr_S) (h0 : Nat) (a1 : Nat) (σ1 : fr_S) (h : m_Row_copyFrom h0 a1 σ = some σ1) : Met l y_Row_copyFrom (Cond.code y_Row_copyFrom b_Row_copyFrom 2 none :: fr_W) ({ frames := 1, cells := 0, slots := 0, locals := 60 } : Room) (va_Pc [.ref h0, .ref a1] (fr_B D T A σ)) (fr_Qv D T A σ1) 0 0 A := by
  refine Met.ofW (cc := b_Row_copyFrom) (maxL := 2) (ret := none) (by decide) rfl ?_
  intro p e s m args below meth c s₁ B hml hv
  obtain ⟨rfl, hH, hK, hX⟩ := hv
  have C0 : fr_At p s m _ meth c "FetchRules$Row" b_Row_copyFrom 2 none := fr_at B hml
  obtain ⟨hx, hb, hr, hml, hown, hts, hlocks⟩ := id C0
  have hS : va_S A s.heap s.heap [] := va_S.rf
  have hl := lv_entry ([.ref h0, .ref a1]) (n := 2) (Nat.le_of_ble_eq_true rfl)
  rw [lg_entry_eq]
  generalize (lg_sl ([.ref h0, .ref a1]) ++ List.replicate (2 - (lg_sl ([.ref h0, .ref a1])).length) Slot.unset).toArray = ls at hl ⊢
  have hl : lv_has ls 2 [(0, .ref h0), (1, .ref a1)] := hl
  unfold m_Row_copyFrom at h
  refine lv_aload_n hx hb d_Row_copyFrom_0 rfl (lv_at hl 1 rfl) ?_
  obtain ⟨q1, e1, h⟩ := fr_bind h
  refine fr_gP hx hb hts in_Row hown hK hH e1 rfl 0 (by decide) (hts _ k_67) (fun _ h9 => h9) rfl d_Row_copyFrom_1 ?_
  refine lv_iconst (v := 0) hx hb d_Row_copyFrom_4 (by decide) ?_
  refine lv_aload_n hx hb d_Row_copyFrom_5 rfl (lv_at hl 0 rfl) ?_
  obtain ⟨q2, e2, h⟩ := fr_bind h
  refine fr_gP hx hb hts in_Row hown hK hH e2 rfl 0 (by decide) (hts _ k_67) (fun _ h9 => h9) rfl d_Row_copyFrom_6 ?_
  refine lv_iconst (v := 0) hx hb d_Row_copyFrom_9 (by decide) ?_
  refine lv_aload_n hx hb d_Row_copyFrom_10 rfl (lv_at hl 1 rfl) ?_
  obtain ⟨v3, e3, h⟩ := fr_bind h
  refine fr_gI hx hb hts in_Row hown hK hH e3 rfl 1 (by decide) (hts _ k_68) (fun _ h9 => h9) rfl d_Row_copyFrom_11 ?_
  obtain ⟨σ_4, e4, h⟩ := fr_bind h
  refine fr_cpy hx hb (hml.trans hl.1.symm) hown (hts _ k_358) (hts _ k_360) (hts _ k_359) (hts _ k_40) hK hH hS e4 (Nat.le_of_ble_eq_true rfl) (Nat.le_of_ble_eq_true rfl) d_Row_copyFrom_14 (fun H locs hH hS => ?_)
  refine lv_aload_n hx hb d_Row_copyFrom_17 rfl (lv_at hl 0 rfl) ?_
  refine lv_aload_n hx hb d_Row_copyFrom_18 rfl (lv_at hl 1 rfl) ?_
  obtain ⟨v5, e5, h⟩ := fr_bind h
  refine fr_gI hx hb hts in_Row hown hK hH e5 rfl 1 (by decide) (hts _ k_68) (fun _ h9 => h9) rfl d_Row_copyFrom_19 ?_
  obtain ⟨σ_6, e6, h⟩ := fr_bind h
  refine fr_putI hx hb hts in_Row ty_Row tk_Row nm_Row hown hK hH hS e6 rfl 1 (by decide) (hts _ k_68) (fun _ h9 => h9) rfl (by decide +kernel) (fs_4_1 _ _ _) (Nat.le_of_ble_eq_true rfl) d_Row_copyFrom_22 (fun H locs hH hS => ?_)
  exact fr_vret hx hb hr hlocks h hH hK hX hS d_Row_copyFrom_25
set_option maxHeartbeats 4000000 in
set_option maxRecDepth 100000 in
theorem w_FR_noteLacking_L2 {p : Program} {l : Launch} {e : Env} {s : State} {m : MethodId} {args : Array Value} {below : List Frame} {meth : Method} {c : Code} {D : va_G} {T : Nat → ClassId} {A : Nat → Prop} (C0 : fr_At p s m args meth c "FetchRules" b_FR_noteLacking 3 none) (hK : va_K D vwCl (fr_tys T) s) (hX : fr_X s) :
    ∀ (n : Nat) (b0 : Nat) (y1 : Int32) (y2 : Int32) (σ : fr_S) (σ1 : fr_S), m_FR_noteLacking_L2 n b0 y1 y2 σ = some σ1 → ∀ (H : Heap) (locs : List Loc), fr_H D T A σ H → va_S A s.heap H locs → ∀ (ls : Array Slot), lv_has ls 3 [(0, .ref b0), (1, .int y1), (2, .int y2)] → W p l e (headSpec (Cond.code y_FR_noteLacking b_FR_noteLacking 3 none :: fr_W) ({ frames := 0, cells := 0, slots := 0, locals := 0 } : Room)).room s m args below meth c H locs 0 0 (MQ below (fr_Qv D T A σ1) args s 0 0 A) (F0 m 2 ls []) := by
  obtain ⟨hx, hb, hr, hml, hown, hts, hlocks⟩ := id C0
  intro n
  induction n with
  | zero => intro b0 y1 y2 σ σ1 h; cases h
  | succ n ih =>
    intro b0 y1 y2 σ σ1 h H locs hH hS ls hl
    unfold m_FR_noteLacking_L2 at h
    refine lv_iload_n hx hb d_FR_noteLacking_2 rfl (lv_at hl 2 rfl) ?_
    refine lv_aload_n hx hb d_FR_noteLacking_3 rfl (lv_at hl 0 rfl) ?_
    obtain ⟨v1, e1, h⟩ := fr_bind h
    refine fr_gI hx hb hts in_FR hown hK hH e1 rfl 10 (by decide) (hts _ k_249) (fun _ h9 => h9) rfl d_FR_noteLacking_4 ?_
    refine lv_icmp_ge (tgt := 27) hx hb d_FR_noteLacking_7 (by decide) (fun c2 => ?_) (fun c2 => ?_)
    · replace h := fr_ift c2 h
      refine lv_aload_n hx hb d_FR_noteLacking_27 rfl (lv_at hl 0 rfl) ?_
      obtain ⟨v3, e3, h⟩ := fr_bind h
      refine fr_gI hx hb hts in_FR hown hK hH e3 rfl 10 (by decide) (hts _ k_249) (fun _ h9 => h9) rfl d_FR_noteLacking_28 ?_
      refine lv_bipush (v := 10) hx hb d_FR_noteLacking_31 (by decide) ?_
      refine lv_icmp_ge (tgt := 53) hx hb d_FR_noteLacking_33 (by decide) (fun c4 => ?_) (fun c4 => ?_)
      · replace h := fr_ift c4 h
        exact fr_vret hx hb hr hlocks h hH hK hX hS d_FR_noteLacking_53
      · replace h := fr_iff c4 h
        refine lv_aload_n hx hb d_FR_noteLacking_36 rfl (lv_at hl 0 rfl) ?_
        obtain ⟨q5, e5, h⟩ := fr_bind h
        refine fr_gP hx hb hts in_FR hown hK hH e5 rfl 9 (by decide) (hts _ k_248) (fun _ h9 => h9) rfl d_FR_noteLacking_37 ?_
        refine lv_aload_n hx hb d_FR_noteLacking_40 rfl (lv_at hl 0 rfl) ?_
        refine lv_dup hx hb d_FR_noteLacking_41 rfl ?_
        obtain ⟨v6, e6, h⟩ := fr_bind h
        refine fr_gI hx hb hts in_FR hown hK hH e6 rfl 10 (by decide) (hts _ k_249) (fun _ h9 => h9) rfl d_FR_noteLacking_42 ?_
        refine lv_dup_x1 hx hb d_FR_noteLacking_45 rfl rfl ?_
        refine lv_iconst (v := 1) hx hb d_FR_noteLacking_46 (by decide) ?_
        refine lv_iadd hx hb d_FR_noteLacking_47 ?_
        obtain ⟨σ_7, e7, h⟩ := fr_bind h
        refine fr_putI hx hb hts in_FR ty_FR tk_FR nm_FR hown hK hH hS e7 rfl 10 (by decide) (hts _ k_249) (fun _ h9 => h9) rfl (by decide +kernel) (fs_1_10 _ _ _) (Nat.le_of_ble_eq_true rfl) d_FR_noteLacking_48 (fun H locs hH hS => ?_)
        refine lv_iload_n hx hb d_FR_noteLacking_51 rfl (lv_at hl 1 rfl) ?_
        obtain ⟨σ_8, e8, h⟩ := fr_bind h
        refine fr_ist hx hb hK hH hS e8 d_FR_noteLacking_52 (fun H locs hH hS => ?_)
        exact fr_vret hx hb hr hlocks h hH hK hX hS d_FR_noteLacking_53
    · replace h := fr_iff c2 h
      refine lv_aload_n hx hb d_FR_noteLacking_10 rfl (lv_at hl 0 rfl) ?_
      obtain ⟨q9, e9, h⟩ := fr_bind h
      refine fr_gP hx hb hts in_FR hown hK hH e9 rfl 9 (by decide) (hts _ k_248) (fun _ h9 => h9) rfl d_FR_noteLacking_11 ?_
      refine lv_iload_n hx hb d_FR_noteLacking_14 rfl (lv_at hl 2 rfl) ?_
      obtain ⟨v10, e10, h⟩ := fr_bind h
      refine fr_ild hx hb hK hH e10 d_FR_noteLacking_15 ?_
      refine lv_iload_n hx hb d_FR_noteLacking_16 rfl (lv_at hl 1 rfl) ?_
      refine lv_icmp_ne (tgt := 21) hx hb d_FR_noteLacking_17 (by decide) (fun c11 => ?_) (fun c11 => ?_)
      · replace h := fr_iff c11 h
        refine lv_iinc (v := (y2 + 1)) (lv' := [(2, .int (y2 + 1)), (0, .ref b0), (1, .int y1)]) hx hb d_FR_noteLacking_21 hl (k := 2) rfl rfl (by decide) rfl (fun ls hl => ?_)
        refine lv_goto (tgt := 2) hx hb d_FR_noteLacking_24 (by decide) ?_
        exact ih b0 y1 (y2 + 1) σ σ1 h _ _ hH hS ls (lv_sub hl [1, 2, 0] rfl)
      · replace h := fr_ift c11 h
        exact fr_vret hx hb hr hlocks h hH hK hX hS d_FR_noteLacking_20
set_option maxHeartbeats 4000000 in
set_option maxRecDepth 100000 in
theorem c_FR_noteLacking (l : Launch) (D : va_G) (T : Nat → ClassId) (A : Nat → Prop) (σ : fr_S) (h0 : Nat) (x1 : Int32) (σ1 : fr_S) (h : m_FR_noteLacking h0 x1 σ = some σ1) : Met l y_FR_noteLacking (Cond.code y_FR_noteLacking b_FR_noteLacking 3 none :: fr_W) ({ frames := 0, cells := 0, slots := 0, locals := 0 } : Room) (va_Pc [.ref h0, .int x1] (fr_B D T A σ)) (fr_Qv D T A σ1) 0 0 A := by
  refine Met.ofW (cc := b_FR_noteLacking) (maxL := 3) (ret := none) (by decide) rfl ?_
  intro p e s m args below meth c s₁ B hml hv
  obtain ⟨rfl, hH, hK, hX⟩ := hv
  have C0 : fr_At p s m _ meth c "FetchRules" b_FR_noteLacking 3 none := fr_at B hml
  obtain ⟨hx, hb, hr, hml, hown, hts, hlocks⟩ := id C0
  have hS : va_S A s.heap s.heap [] := va_S.rf
  have hl := lv_entry ([.ref h0, .int x1]) (n := 3) (Nat.le_of_ble_eq_true rfl)
  rw [lg_entry_eq]
  generalize (lg_sl ([.ref h0, .int x1]) ++ List.replicate (3 - (lg_sl ([.ref h0, .int x1])).length) Slot.unset).toArray = ls at hl ⊢
  have hl : lv_has ls 3 [(0, .ref h0), (1, .int x1)] := hl
  unfold m_FR_noteLacking at h
  refine lv_iconst (v := 0) hx hb d_FR_noteLacking_0 (by decide) ?_
  refine lv_istore_n (lv' := [(2, .int 0), (0, .ref h0), (1, .int x1)]) hx hb d_FR_noteLacking_1 rfl hl (by decide) rfl (fun ls hl => ?_)
  exact w_FR_noteLacking_L2 C0 hK hX 1000 h0 x1 0 σ σ1 h _ _ hH hS ls (lv_sub hl [1, 2, 0] rfl)
set_option maxHeartbeats 4000000 in
set_option maxRecDepth 100000 in
theorem c_Want_startAt (l : Launch) (D : va_G) (T : Nat → ClassId) (A : Nat → Prop) (σ : fr_S) (h0 : Nat) (x1 : Int32) (σ1 : fr_S) (h : m_Want_startAt h0 x1 σ = some σ1) : Met l y_Want_startAt (Cond.code y_Want_startAt b_Want_startAt 2 none :: fr_W) ({ frames := 0, cells := 0, slots := 0, locals := 0 } : Room) (va_Pc [.ref h0, .int x1] (fr_B D T A σ)) (fr_Qv D T A σ1) 0 0 A := by
  refine Met.ofW (cc := b_Want_startAt) (maxL := 2) (ret := none) (by decide) rfl ?_
  intro p e s m args below meth c s₁ B hml hv
  obtain ⟨rfl, hH, hK, hX⟩ := hv
  have C0 : fr_At p s m _ meth c "FetchRules$Want" b_Want_startAt 2 none := fr_at B hml
  obtain ⟨hx, hb, hr, hml, hown, hts, hlocks⟩ := id C0
  have hS : va_S A s.heap s.heap [] := va_S.rf
  have hl := lv_entry ([.ref h0, .int x1]) (n := 2) (Nat.le_of_ble_eq_true rfl)
  rw [lg_entry_eq]
  generalize (lg_sl ([.ref h0, .int x1]) ++ List.replicate (2 - (lg_sl ([.ref h0, .int x1])).length) Slot.unset).toArray = ls at hl ⊢
  have hl : lv_has ls 2 [(0, .ref h0), (1, .int x1)] := hl
  unfold m_Want_startAt at h
  refine lv_aload_n hx hb d_Want_startAt_0 rfl (lv_at hl 0 rfl) ?_
  refine lv_iload_n hx hb d_Want_startAt_1 rfl (lv_at hl 1 rfl) ?_
  obtain ⟨σ_1, e1, h⟩ := fr_bind h
  refine fr_putI hx hb hts in_Want ty_Want tk_Want nm_Want hown hK hH hS e1 rfl 5 (by decide) (hts _ k_212) (fun _ h9 => h9) rfl (by decide +kernel) (fs_7_5 _ _ _) (Nat.le_of_ble_eq_true rfl) d_Want_startAt_2 (fun H locs hH hS => ?_)
  refine lv_aload_n hx hb d_Want_startAt_5 rfl (lv_at hl 0 rfl) ?_
  refine lv_iconst (v := 0) hx hb d_Want_startAt_6 (by decide) ?_
  obtain ⟨σ_2, e2, h⟩ := fr_bind h
  refine fr_putI hx hb hts in_Want ty_Want tk_Want nm_Want hown hK hH hS e2 rfl 6 (by decide) (hts _ k_214) (fun _ h9 => h9) rfl (by decide +kernel) (fs_7_6 _ _ _) (Nat.le_of_ble_eq_true rfl) d_Want_startAt_7 (fun H locs hH hS => ?_)
  refine lv_aload_n hx hb d_Want_startAt_10 rfl (lv_at hl 0 rfl) ?_
  obtain ⟨q3, e3, h⟩ := fr_bind h
  refine fr_gP hx hb hts in_Want hown hK hH e3 rfl 0 (by decide) (hts _ k_202) (fun _ h9 => h9) rfl d_Want_startAt_11 ?_
  refine lv_iconst (v := 0) hx hb d_Want_startAt_14 (by decide) ?_
  obtain ⟨σ_4, e4, h⟩ := fr_bind h
  refine fr_putI hx hb hts in_Row ty_Row tk_Row nm_Row hown hK hH hS e4 rfl 1 (by decide) (hts _ k_73) (fun _ h9 => h9) rfl (by decide +kernel) (fs_4_1 _ _ _) (Nat.le_of_ble_eq_true rfl) d_Want_startAt_15 (fun H locs hH hS => ?_)
  refine lv_aload_n hx hb d_Want_startAt_18 rfl (lv_at hl 0 rfl) ?_
  refine lv_iconst (v := 1) hx hb d_Want_startAt_19 (by decide) ?_
  obtain ⟨σ_5, e5, h⟩ := fr_bind h
  refine fr_putI hx hb hts in_Want ty_Want tk_Want nm_Want hown hK hH hS e5 rfl 4 (by decide) (hts _ k_210) (fun _ h9 => h9) rfl (by decide +kernel) (fs_7_4 _ _ _) (Nat.le_of_ble_eq_true rfl) d_Want_startAt_20 (fun H locs hH hS => ?_)
  exact fr_vret hx hb hr hlocks h hH hK hX hS d_Want_startAt_23
set_option maxHeartbeats 4000000 in
set_option maxRecDepth 100000 in
theorem w_FR_fetchFrom_L2 {p : Program} {l : Launch} {e : Env} {s : State} {m : MethodId} {args : Array Value} {below : List Frame} {meth : Method} {c : Code} {D : va_G} {T : Nat → ClassId} {A : Nat → Prop} (C0 : fr_At p s m args meth c "FetchRules" b_FR_fetchFrom 4 none) (hK : va_K D vwCl (fr_tys T) s) (hX : fr_X s) :
    ∀ (n : Nat) (b0 : Nat) (b1 : Nat) (y3 : Int32) (σ : fr_S) (σ1 : fr_S), m_FR_fetchFrom_L2 n b0 b1 y3 σ = some σ1 → ∀ (H : Heap) (locs : List Loc), fr_H D T A σ H → va_S A s.heap H locs → ∀ (ls : Array Slot), lv_has ls 4 [(0, .ref b0), (1, .ref b1), (3, .int y3)] → W p l e (headSpec (Cond.code y_FR_fetchFrom b_FR_fetchFrom 4 none :: fr_W) ({ frames := 1, cells := 0, slots := 0, locals := 21 } : Room)).room s m args below meth c H locs 0 0 (MQ below (fr_Qv D T A σ1) args s 0 0 A) (F0 m 2 ls []) := by
  obtain ⟨hx, hb, hr, hml, hown, hts, hlocks⟩ := id C0
  intro n
  induction n with
  | zero => intro b0 b1 y3 σ σ1 h; cases h
  | succ n ih =>
    intro b0 b1 y3 σ σ1 h H locs hH hS ls hl
    unfold m_FR_fetchFrom_L2 at h
    refine lv_iload_n hx hb d_FR_fetchFrom_2 rfl (lv_at hl 2 rfl) ?_
    refine lv_aload_n hx hb d_FR_fetchFrom_3 rfl (lv_at hl 1 rfl) ?_
    obtain ⟨v1, e1, h⟩ := fr_bind h
    refine fr_gI hx hb hts in_Want hown hK hH e1 rfl 2 (by decide) (hts _ k_207) (fun _ h9 => h9) rfl d_FR_fetchFrom_4 ?_
    refine lv_icmp_ge (tgt := 39) hx hb d_FR_fetchFrom_7 (by decide) (fun c2 => ?_) (fun c2 => ?_)
    · replace h := fr_ift c2 h
      refine lv_aload_n hx hb d_FR_fetchFrom_39 rfl (lv_at hl 1 rfl) ?_
      refine lv_iconst (v := 4) hx hb d_FR_fetchFrom_40 (by decide) ?_
      obtain ⟨σ_3, e3, h⟩ := fr_bind h
      refine fr_putI hx hb hts in_Want ty_Want tk_Want nm_Want hown hK hH hS e3 rfl 4 (by decide) (hts _ k_211) (fun _ h9 => h9) rfl (by decide +kernel) (fs_7_4 _ _ _) (Nat.le_of_ble_eq_true rfl) d_FR_fetchFrom_41 (fun H locs hH hS => ?_)
      exact fr_vret hx hb hr hlocks h hH hK hX hS d_FR_fetchFrom_44
    · replace h := fr_iff c2 h
      refine lv_aload_n hx hb d_FR_fetchFrom_10 rfl (lv_at hl 0 rfl) ?_
      obtain ⟨q4, e4, h⟩ := fr_bind h
      refine fr_gP hx hb hts in_FR hown hK hH e4 rfl 3 (by decide) (hts _ k_242) (fun _ h9 => h9) rfl d_FR_fetchFrom_11 ?_
      refine lv_aload_n hx hb d_FR_fetchFrom_14 rfl (lv_at hl 1 rfl) ?_
      obtain ⟨q5, e5, h⟩ := fr_bind h
      refine fr_gP hx hb hts in_Want hown hK hH e5 rfl 1 (by decide) (hts _ k_205) (fun _ h9 => h9) rfl d_FR_fetchFrom_15 ?_
      refine lv_iload_n hx hb d_FR_fetchFrom_18 rfl (lv_at hl 2 rfl) ?_
      obtain ⟨v6, e6, h⟩ := fr_bind h
      refine fr_ild hx hb hK hH e6 d_FR_fetchFrom_19 ?_
      obtain ⟨q7, e7, h⟩ := fr_bind h
      refine fr_qld hx hb hK hH e7 (by decide) rfl d_FR_fetchFrom_20 ?_
      obtain ⟨v8, e8, h⟩ := fr_bind h
      refine fr_gI hx hb hts in_Place hown hK hH e8 rfl 9 (by decide) (hts _ k_173) (fun _ h9 => h9) rfl d_FR_fetchFrom_21 ?_
      refine lv_if_ne (tgt := 33) hx hb d_FR_fetchFrom_24 (by decide) (fun c9 => ?_) (fun c9 => ?_)
      · replace h := fr_iff c9 h
        refine lv_iinc (v := (y3 + 1)) (lv' := [(3, .int (y3 + 1)), (0, .ref b0), (1, .ref b1)]) hx hb d_FR_fetchFrom_33 hl (k := 2) rfl rfl (by decide) rfl (fun ls hl => ?_)
        refine lv_goto (tgt := 2) hx hb d_FR_fetchFrom_36 (by decide) ?_
        exact ih b0 b1 (y3 + 1) σ σ1 h _ _ hH hS ls (lv_sub hl [1, 2, 0] rfl)
      · replace h := fr_ift c9 h
        refine lv_aload_n hx hb d_FR_fetchFrom_27 rfl (lv_at hl 1 rfl) ?_
        refine lv_iload_n hx hb d_FR_fetchFrom_28 rfl (lv_at hl 2 rfl) ?_
        obtain ⟨u10, e10, h⟩ := fr_bind h
        obtain ⟨σ_11, e11, h⟩ := fr_bind h
        refine fr_callv (fr_V (As := [.int y3]) (rest := []) ⟨hx, hb, hml, hown, hts⟩ (c_Want_startAt l D T A σ b1 y3 σ_11 e11) k_369 mv_Want_startAt rfl rfl ⟨Nat.le_of_ble_eq_true rfl, Nat.le_of_ble_eq_true rfl⟩ (fr_preV hK hX hH e10 rfl _) rfl hl.1 rfl (Nat.le_of_ble_eq_true rfl) d_FR_fetchFrom_29 ⟨Nat.zero_le _, Nat.zero_le _⟩) hS (fun H locs hH hS => ?_)
        exact fr_vret hx hb hr hlocks h hH hK hX hS d_FR_fetchFrom_32
set_option maxHeartbeats 4000000 in
set_option maxRecDepth 100000 in
theorem c_FR_fetchFrom (l : Launch) (D : va_G) (T : Nat → ClassId) (A : Nat → Prop) (σ : fr_S) (h0 : Nat) (a1 : Nat) (x2 : Int32) (σ1 : fr_S) (h : m_FR_fetchFrom h0 a1 x2 σ = some σ1) : Met l y_FR_fetchFrom (Cond.code y_FR_fetchFrom b_FR_fetchFrom 4 none :: fr_W) ({ frames := 1, cells := 0, slots := 0, locals := 21 } : Room) (va_Pc [.ref h0, .ref a1, .int x2] (fr_B D T A σ)) (fr_Qv D T A σ1) 0 0 A := by
  refine Met.ofW (cc := b_FR_fetchFrom) (maxL := 4) (ret := none) (by decide) rfl ?_
  intro p e s m args below meth c s₁ B hml hv
  obtain ⟨rfl, hH, hK, hX⟩ := hv
  have C0 : fr_At p s m _ meth c "FetchRules" b_FR_fetchFrom 4 none := fr_at B hml
  obtain ⟨hx, hb, hr, hml, hown, hts, hlocks⟩ := id C0
  have hS : va_S A s.heap s.heap [] := va_S.rf
  have hl := lv_entry ([.ref h0, .ref a1, .int x2]) (n := 4) (Nat.le_of_ble_eq_true rfl)
  rw [lg_entry_eq]
  generalize (lg_sl ([.ref h0, .ref a1, .int x2]) ++ List.replicate (4 - (lg_sl ([.ref h0, .ref a1, .int x2])).length) Slot.unset).toArray = ls at hl ⊢
  have hl : lv_has ls 4 [(0, .ref h0), (1, .ref a1), (2, .int x2)] := hl
  unfold m_FR_fetchFrom at h
  refine lv_iload_n hx hb d_FR_fetchFrom_0 rfl (lv_at hl 2 rfl) ?_
  refine lv_istore_n (lv' := [(3, .int x2), (0, .ref h0), (1, .ref a1), (2, .int x2)]) hx hb d_FR_fetchFrom_1 rfl hl (by decide) rfl (fun ls hl => ?_)
  exact w_FR_fetchFrom_L2 C0 hK hX 1000 h0 a1 x2 σ σ1 h _ _ hH hS ls (lv_sub hl [1, 2, 0] rfl)
set_option maxHeartbeats 4000000 in
set_option maxRecDepth 100000 in
theorem c_FR_begin (l : Launch) (D : va_G) (T : Nat → ClassId) (A : Nat → Prop) (σ : fr_S) (h0 : Nat) (x1 : Int32) (r : Int32) (σ1 : fr_S) (h : m_FR_begin h0 x1 σ = some (r, σ1)) : Met l y_FR_begin (Cond.code y_FR_begin b_FR_begin 4 (some .int) :: fr_W) ({ frames := 2, cells := 0, slots := 0, locals := 81 } : Room) (va_Pc [.ref h0, .int x1] (fr_B D T A σ)) (fr_Qi D T A r σ1) 0 0 A := by
  refine Met.ofW (cc := b_FR_begin) (maxL := 4) (ret := (some .int)) (by decide) rfl ?_
  intro p e s m args below meth c s₁ B hml hv
  obtain ⟨rfl, hH, hK, hX⟩ := hv
  have C0 : fr_At p s m _ meth c "FetchRules" b_FR_begin 4 (some .int) := fr_at B hml
  obtain ⟨hx, hb, hr, hml, hown, hts, hlocks⟩ := id C0
  have hS : va_S A s.heap s.heap [] := va_S.rf
  have hl := lv_entry ([.ref h0, .int x1]) (n := 4) (Nat.le_of_ble_eq_true rfl)
  rw [lg_entry_eq]
  generalize (lg_sl ([.ref h0, .int x1]) ++ List.replicate (4 - (lg_sl ([.ref h0, .int x1])).length) Slot.unset).toArray = ls at hl ⊢
  have hl : lv_has ls 4 [(0, .ref h0), (1, .int x1)] := hl
  unfold m_FR_begin at h
  refine lv_aload_n hx hb d_FR_begin_0 rfl (lv_at hl 0 rfl) ?_
  refine lv_iload_n hx hb d_FR_begin_1 rfl (lv_at hl 1 rfl) ?_
  obtain ⟨u1, e1, h⟩ := fr_bind h
  obtain ⟨r2, e2, h⟩ := fr_bind h
  refine fr_calli (fr_V (As := [.int x1]) (rest := []) ⟨hx, hb, hml, hown, hts⟩ (c_FR_isWant l D T A σ h0 x1 r2 e2) k_330 mv_FR_isWant rfl rfl ⟨Nat.le_of_ble_eq_true rfl, Nat.le_of_ble_eq_true rfl⟩ (fr_preV hK hX hH e1 rfl _) rfl hl.1 rfl (Nat.le_of_ble_eq_true rfl) d_FR_begin_2 ⟨Nat.zero_le _, Nat.zero_le _⟩) hS (fun H locs hH hS => ?_)
  refine lv_if_eq (tgt := 20) hx hb d_FR_begin_5 (by decide) (fun c3 => ?_) (fun c3 => ?_)
  · replace h := fr_ift c3 h
    refine lv_iconst (v := (-1)) hx hb d_FR_begin_20 (by decide) ?_
    exact fr_iret hx hb hr hlocks  h hH hK hX hS d_FR_begin_21
  · replace h := fr_iff c3 h
    refine lv_aload_n hx hb d_FR_begin_8 rfl (lv_at hl 0 rfl) ?_
    obtain ⟨q4, e4, h⟩ := fr_bind h
    refine fr_gP hx hb hts in_FR hown hK hH e4 rfl 5 (by decide) (hts _ k_244) (fun _ h9 => h9) rfl d_FR_begin_9 ?_
    refine lv_iload_n hx hb d_FR_begin_12 rfl (lv_at hl 1 rfl) ?_
    obtain ⟨q5, e5, h⟩ := fr_bind h
    refine fr_qld hx hb hK hH e5 (by decide) rfl d_FR_begin_13 ?_
    obtain ⟨u6, e6, h⟩ := fr_bind h
    obtain ⟨r7, e7, h⟩ := fr_bind h
    refine fr_calli (fr_V (As := []) (rest := []) ⟨hx, hb, hml, hown, hts⟩ (c_Want_isBusy l D T A σ q5 r7 e7) k_346 mv_Want_isBusy rfl rfl ⟨Nat.le_of_ble_eq_true rfl, Nat.le_of_ble_eq_true rfl⟩ (fr_preV hK hX hH e6 rfl _) rfl hl.1 rfl (Nat.le_of_ble_eq_true rfl) d_FR_begin_14 ⟨Nat.zero_le _, Nat.zero_le _⟩) hS (fun H locs hH hS => ?_)
    refine lv_if_eq (tgt := 22) hx hb d_FR_begin_17 (by decide) (fun c8 => ?_) (fun c8 => ?_)
    · replace h := fr_ift c8 h
      refine lv_aload_n hx hb d_FR_begin_22 rfl (lv_at hl 0 rfl) ?_
      obtain ⟨q9, e9, h⟩ := fr_bind h
      refine fr_gP hx hb hts in_FR hown hK hH e9 rfl 5 (by decide) (hts _ k_244) (fun _ h9 => h9) rfl d_FR_begin_23 ?_
      refine lv_iload_n hx hb d_FR_begin_26 rfl (lv_at hl 1 rfl) ?_
      obtain ⟨q10, e10, h⟩ := fr_bind h
      refine fr_qld hx hb hK hH e10 (by decide) rfl d_FR_begin_27 ?_
      refine lv_astore_n (lv' := [(2, .ref q10), (0, .ref h0), (1, .int x1)]) hx hb d_FR_begin_28 rfl hl (by decide) rfl (fun ls hl => ?_)
      refine lv_aload_n hx hb d_FR_begin_29 rfl (lv_at hl 1 rfl) ?_
      obtain ⟨q11, e11, h⟩ := fr_bind h
      refine fr_gP hx hb hts in_FR hown hK hH e11 rfl 7 (by decide) (hts _ k_246) (fun _ h9 => h9) rfl d_FR_begin_30 ?_
      refine lv_aload_n hx hb d_FR_begin_33 rfl (lv_at hl 0 rfl) ?_
      obtain ⟨v12, e12, h⟩ := fr_bind h
      refine fr_gI hx hb hts in_Want hown hK hH e12 rfl 3 (by decide) (hts _ k_209) (fun _ h9 => h9) rfl d_FR_begin_34 ?_
      obtain ⟨u13, e13, h⟩ := fr_bind h
      obtain ⟨r14, e14, h⟩ := fr_bind h
      refine fr_calli (fr_V (As := [.int v12]) (rest := []) ⟨hx, hb, hml, hown, hts⟩ (c_Store_find l D T A σ q11 v12 r14 e14) k_350 mv_Store_find rfl rfl ⟨Nat.le_of_ble_eq_true rfl, Nat.le_of_ble_eq_true rfl⟩ (fr_preV hK hX hH e13 rfl _) rfl hl.1 rfl (Nat.le_of_ble_eq_true rfl) d_FR_begin_37 ⟨Nat.zero_le _, Nat.zero_le _⟩) hS (fun H locs hH hS => ?_)
      refine lv_istore_n (lv' := [(3, .int r14), (2, .ref q10), (0, .ref h0), (1, .int x1)]) hx hb d_FR_begin_40 rfl hl (by decide) rfl (fun ls hl => ?_)
      refine lv_iload_n hx hb d_FR_begin_41 rfl (lv_at hl 0 rfl) ?_
      refine lv_iconst (v := (-1)) hx hb d_FR_begin_42 (by decide) ?_
      refine lv_icmp_eq (tgt := 70) hx hb d_FR_begin_43 (by decide) (fun c15 => ?_) (fun c15 => ?_)
      · replace h := fr_ift c15 h
        refine lv_aload_n hx hb d_FR_begin_70 rfl (lv_at hl 2 rfl) ?_
        obtain ⟨v16, e16, h⟩ := fr_bind h
        refine fr_gI hx hb hts in_FR hown hK hH e16 rfl 12 (by decide) (hts _ k_251) (fun _ h9 => h9) rfl d_FR_begin_71 ?_
        refine lv_if_eq (tgt := 90) hx hb d_FR_begin_74 (by decide) (fun c17 => ?_) (fun c17 => ?_)
        · replace h := fr_ift c17 h
          refine lv_aload_n hx hb d_FR_begin_90 rfl (lv_at hl 2 rfl) ?_
          refine lv_aload_n hx hb d_FR_begin_91 rfl (lv_at hl 1 rfl) ?_
          refine lv_iconst (v := 0) hx hb d_FR_begin_92 (by decide) ?_
          obtain ⟨u18, e18, h⟩ := fr_bind h
          obtain ⟨σ_19, e19, h⟩ := fr_bind h
          refine fr_callv (fr_V (As := [.ref q10, .int 0]) (rest := []) ⟨hx, hb, hml, hown, hts⟩ (c_FR_fetchFrom l D T A σ h0 q10 0 σ_19 e19) k_365 mv_FR_fetchFrom rfl rfl ⟨Nat.le_of_ble_eq_true rfl, Nat.le_of_ble_eq_true rfl⟩ (fr_preV hK hX hH e18 rfl _) rfl hl.1 rfl (Nat.le_of_ble_eq_true rfl) d_FR_begin_93 ⟨Nat.zero_le _, Nat.zero_le _⟩) hS (fun H locs hH hS => ?_)
          refine lv_aload_n hx hb d_FR_begin_96 rfl (lv_at hl 1 rfl) ?_
          obtain ⟨v20, e20, h⟩ := fr_bind h
          refine fr_gI hx hb hts in_Want hown hK hH e20 rfl 4 (by decide) (hts _ k_211) (fun _ h9 => h9) rfl d_FR_begin_97 ?_
          exact fr_iret hx hb hr hlocks  h hH hK hX hS d_FR_begin_100
        · replace h := fr_iff c17 h
          refine lv_aload_n hx hb d_FR_begin_77 rfl (lv_at hl 1 rfl) ?_
          refine lv_iconst (v := 4) hx hb d_FR_begin_78 (by decide) ?_
          obtain ⟨σ_21, e21, h⟩ := fr_bind h
          refine fr_putI hx hb hts in_Want ty_Want tk_Want nm_Want hown hK hH hS e21 rfl 4 (by decide) (hts _ k_211) (fun _ h9 => h9) rfl (by decide +kernel) (fs_7_4 _ _ _) (Nat.le_of_ble_eq_true rfl) d_FR_begin_79 (fun H locs hH hS => ?_)
          refine lv_aload_n hx hb d_FR_begin_82 rfl (lv_at hl 2 rfl) ?_
          refine lv_iload_n hx hb d_FR_begin_83 rfl (lv_at hl 3 rfl) ?_
          obtain ⟨u22, e22, h⟩ := fr_bind h
          obtain ⟨σ_23, e23, h⟩ := fr_bind h
          refine fr_callv (fr_V (As := [.int x1]) (rest := []) ⟨hx, hb, hml, hown, hts⟩ (c_FR_noteLacking l D T A σ_21 h0 x1 σ_23 e23) k_361 mv_FR_noteLacking rfl rfl ⟨Nat.le_of_ble_eq_true rfl, Nat.le_of_ble_eq_true rfl⟩ (fr_preV hK hX hH e22 rfl _) rfl hl.1 rfl (Nat.le_of_ble_eq_true rfl) d_FR_begin_84 ⟨Nat.zero_le _, Nat.zero_le _⟩) hS (fun H locs hH hS => ?_)
          refine lv_goto (tgt := 96) hx hb d_FR_begin_87 (by decide) ?_
          refine lv_aload_n hx hb d_FR_begin_96 rfl (lv_at hl 1 rfl) ?_
          obtain ⟨v24, e24, h⟩ := fr_bind h
          refine fr_gI hx hb hts in_Want hown hK hH e24 rfl 4 (by decide) (hts _ k_211) (fun _ h9 => h9) rfl d_FR_begin_97 ?_
          exact fr_iret hx hb hr hlocks  h hH hK hX hS d_FR_begin_100
      · replace h := fr_iff c15 h
        refine lv_aload_n hx hb d_FR_begin_46 rfl (lv_at hl 1 rfl) ?_
        obtain ⟨q25, e25, h⟩ := fr_bind h
        refine fr_gP hx hb hts in_Want hown hK hH e25 rfl 0 (by decide) (hts _ k_203) (fun _ h9 => h9) rfl d_FR_begin_47 ?_
        refine lv_aload_n hx hb d_FR_begin_50 rfl (lv_at hl 2 rfl) ?_
        obtain ⟨q26, e26, h⟩ := fr_bind h
        refine fr_gP hx hb hts in_FR hown hK hH e26 rfl 7 (by decide) (hts _ k_246) (fun _ h9 => h9) rfl d_FR_begin_51 ?_
        obtain ⟨q27, e27, h⟩ := fr_bind h
        refine fr_gP hx hb hts in_Store hown hK hH e27 rfl 1 (by decide) (hts _ k_83) (fun _ h9 => h9) rfl d_FR_begin_54 ?_
        refine lv_iload_n hx hb d_FR_begin_57 rfl (lv_at hl 0 rfl) ?_
        obtain ⟨q28, e28, h⟩ := fr_bind h
        refine fr_qld hx hb hK hH e28 (by decide) rfl d_FR_begin_58 ?_
        obtain ⟨u29, e29, h⟩ := fr_bind h
        obtain ⟨σ_30, e30, h⟩ := fr_bind h
        refine fr_callv (fr_V (As := [.ref q28]) (rest := []) ⟨hx, hb, hml, hown, hts⟩ (c_Row_copyFrom l D T A σ q25 q28 σ_30 e30) k_354 mv_Row_copyFrom rfl rfl ⟨Nat.le_of_ble_eq_true rfl, Nat.le_of_ble_eq_true rfl⟩ (fr_preV hK hX hH e29 rfl _) rfl hl.1 rfl (Nat.le_of_ble_eq_true rfl) d_FR_begin_59 ⟨Nat.zero_le _, Nat.zero_le _⟩) hS (fun H locs hH hS => ?_)
        refine lv_aload_n hx hb d_FR_begin_62 rfl (lv_at hl 1 rfl) ?_
        refine lv_iconst (v := 3) hx hb d_FR_begin_63 (by decide) ?_
        obtain ⟨σ_31, e31, h⟩ := fr_bind h
        refine fr_putI hx hb hts in_Want ty_Want tk_Want nm_Want hown hK hH hS e31 rfl 4 (by decide) (hts _ k_211) (fun _ h9 => h9) rfl (by decide +kernel) (fs_7_4 _ _ _) (Nat.le_of_ble_eq_true rfl) d_FR_begin_64 (fun H locs hH hS => ?_)
        refine lv_goto (tgt := 96) hx hb d_FR_begin_67 (by decide) ?_
        refine lv_aload_n hx hb d_FR_begin_96 rfl (lv_at hl 1 rfl) ?_
        obtain ⟨v32, e32, h⟩ := fr_bind h
        refine fr_gI hx hb hts in_Want hown hK hH e32 rfl 4 (by decide) (hts _ k_211) (fun _ h9 => h9) rfl d_FR_begin_97 ?_
        exact fr_iret hx hb hr hlocks  h hH hK hX hS d_FR_begin_100
    · replace h := fr_iff c8 h
      refine lv_iconst (v := (-1)) hx hb d_FR_begin_20 (by decide) ?_
      exact fr_iret hx hb hr hlocks  h hH hK hX hS d_FR_begin_21
set_option maxHeartbeats 4000000 in
set_option maxRecDepth 100000 in
theorem c_Want_currentPlace (l : Launch) (D : va_G) (T : Nat → ClassId) (A : Nat → Prop) (σ : fr_S) (h0 : Nat) (r : Int32) (h : m_Want_currentPlace h0 σ = some r) : Met l y_Want_currentPlace (Cond.code y_Want_currentPlace b_Want_currentPlace 1 (some .int) :: fr_W) ({ frames := 0, cells := 0, slots := 0, locals := 0 } : Room) (va_Pc [.ref h0] (fr_B D T A σ)) (fr_Qi D T A r σ) 0 0 A := by
  refine Met.ofW (cc := b_Want_currentPlace) (maxL := 1) (ret := (some .int)) (by decide) rfl ?_
  intro p e s m args below meth c s₁ B hml hv
  obtain ⟨rfl, hH, hK, hX⟩ := hv
  have C0 : fr_At p s m _ meth c "FetchRules$Want" b_Want_currentPlace 1 (some .int) := fr_at B hml
  obtain ⟨hx, hb, hr, hml, hown, hts, hlocks⟩ := id C0
  have hS : va_S A s.heap s.heap [] := va_S.rf
  have hl := lv_entry ([.ref h0]) (n := 1) (Nat.le_of_ble_eq_true rfl)
  rw [lg_entry_eq]
  generalize (lg_sl ([.ref h0]) ++ List.replicate (1 - (lg_sl ([.ref h0])).length) Slot.unset).toArray = ls at hl ⊢
  have hl : lv_has ls 1 [(0, .ref h0)] := hl
  unfold m_Want_currentPlace at h
  refine lv_aload_n hx hb d_Want_currentPlace_0 rfl (lv_at hl 0 rfl) ?_
  obtain ⟨v1, e1, h⟩ := fr_bind h
  refine fr_gI hx hb hts in_Want hown hK hH e1 rfl 5 (by decide) (hts _ k_212) (fun _ h9 => h9) rfl d_Want_currentPlace_1 ?_
  refine lv_if_lt (tgt := 30) hx hb d_Want_currentPlace_4 (by decide) (fun c2 => ?_) (fun c2 => ?_)
  · replace h := fr_ift c2 h
    refine lv_iconst (v := (-1)) hx hb d_Want_currentPlace_30 (by decide) ?_
    exact fr_iretO hx hb hr hlocks  h hH hK hX hS d_Want_currentPlace_31
  · replace h := fr_iff c2 h
    refine lv_aload_n hx hb d_Want_currentPlace_7 rfl (lv_at hl 0 rfl) ?_
    obtain ⟨v3, e3, h⟩ := fr_bind h
    refine fr_gI hx hb hts in_Want hown hK hH e3 rfl 5 (by decide) (hts _ k_212) (fun _ h9 => h9) rfl d_Want_currentPlace_8 ?_
    refine lv_aload_n hx hb d_Want_currentPlace_11 rfl (lv_at hl 0 rfl) ?_
    obtain ⟨v4, e4, h⟩ := fr_bind h
    refine fr_gI hx hb hts in_Want hown hK hH e4 rfl 2 (by decide) (hts _ k_206) (fun _ h9 => h9) rfl d_Want_currentPlace_12 ?_
    refine lv_icmp_ge (tgt := 30) hx hb d_Want_currentPlace_15 (by decide) (fun c5 => ?_) (fun c5 => ?_)
    · replace h := fr_ift c5 h
      refine lv_iconst (v := (-1)) hx hb d_Want_currentPlace_30 (by decide) ?_
      exact fr_iretO hx hb hr hlocks  h hH hK hX hS d_Want_currentPlace_31
    · replace h := fr_iff c5 h
      refine lv_aload_n hx hb d_Want_currentPlace_18 rfl (lv_at hl 0 rfl) ?_
      obtain ⟨q6, e6, h⟩ := fr_bind h
      refine fr_gP hx hb hts in_Want hown hK hH e6 rfl 1 (by decide) (hts _ k_204) (fun _ h9 => h9) rfl d_Want_currentPlace_19 ?_
      refine lv_aload_n hx hb d_Want_currentPlace_22 rfl (lv_at hl 0 rfl) ?_
      obtain ⟨v7, e7, h⟩ := fr_bind h
      refine fr_gI hx hb hts in_Want hown hK hH e7 rfl 5 (by decide) (hts _ k_212) (fun _ h9 => h9) rfl d_Want_currentPlace_23 ?_
      obtain ⟨v8, e8, h⟩ := fr_bind h
      refine fr_ild hx hb hK hH e8 d_Want_currentPlace_26 ?_
      refine lv_goto (tgt := 31) hx hb d_Want_currentPlace_27 (by decide) ?_
      exact fr_iretO hx hb hr hlocks  h hH hK hX hS d_Want_currentPlace_31
