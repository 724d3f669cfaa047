set_option maxHeartbeats 4000000 in
set_option maxRecDepth 100000 in
theorem c_FR_isHost (l : Launch) (D : va_G) (T : Nat → ClassId) (A : Nat → Prop) (σ : fr_S) (x0 : Int32) (r : Int32) (h : m_FR_isHost x0 σ = some r) : Met l y_FR_isHost (Cond.code y_FR_isHost b_FR_isHost 1 (some .boolean) :: fr_W) ({ frames := 0, cells := 0, slots := 0, locals := 0 } : Room) (va_Pc [.int x0] (fr_B D T A σ)) (fr_Qi D T A r σ) 0 0 A := by
  refine Met.ofW (cc := b_FR_isHost) (maxL := 1) (ret := (some .boolean)) (by decide) rfl ?_
  intro p e s m args below meth c s₁ B hml hv
  obtain ⟨rfl, hH, hK, hX⟩ := hv
  have C0 : fr_At p s m _ meth c "FetchRules" b_FR_isHost 1 (some .boolean) := fr_at B hml
  obtain ⟨hx, hb, hr, hml, hown, hts, hlocks⟩ := id C0
  have hS : va_S A s.heap s.heap [] := va_S.rf
  have hl := lv_entry ([.int x0]) (n := 1) (Nat.le_of_ble_eq_true rfl)
  rw [lg_entry_eq]
  generalize (lg_sl ([.int x0]) ++ List.replicate (1 - (lg_sl ([.int x0])).length) Slot.unset).toArray = ls at hl ⊢
  have hl : lv_has ls 1 [(0, .int x0)] := hl
  unfold m_FR_isHost at h
  refine lv_iload_n hx hb d_FR_isHost_0 rfl (lv_at hl 0 rfl) ?_
  refine lv_if_lt (tgt := 14) hx hb d_FR_isHost_1 (by decide) (fun c1 => ?_) (fun c1 => ?_)
  · replace h := fr_ift c1 h
    refine lv_iconst (v := 0) hx hb d_FR_isHost_14 (by decide) ?_
    exact fr_zretO hx hb hr hlocks (Or.inl rfl) h hH hK hX hS d_FR_isHost_15
  · replace h := fr_iff c1 h
    refine lv_iload_n hx hb d_FR_isHost_4 rfl (lv_at hl 0 rfl) ?_
    refine lv_bipush (v := 8) hx hb d_FR_isHost_5 (by decide) ?_
    refine lv_icmp_ge (tgt := 14) hx hb d_FR_isHost_7 (by decide) (fun c2 => ?_) (fun c2 => ?_)
    · replace h := fr_ift c2 h
      refine lv_iconst (v := 0) hx hb d_FR_isHost_14 (by decide) ?_
      exact fr_zretO hx hb hr hlocks (Or.inl rfl) h hH hK hX hS d_FR_isHost_15
    · replace h := fr_iff c2 h
      refine lv_iconst (v := 1) hx hb d_FR_isHost_10 (by decide) ?_
      refine lv_goto (tgt := 15) hx hb d_FR_isHost_11 (by decide) ?_
      exact fr_zretO hx hb hr hlocks (Or.inr rfl) h hH hK hX hS d_FR_isHost_15
set_option maxHeartbeats 4000000 in
set_option maxRecDepth 100000 in
theorem c_FR_credential (l : Launch) (D : va_G) (T : Nat → ClassId) (A : Nat → Prop) (σ : fr_S) (h0 : Nat) (x1 : Int32) (x2 : Int32) (r : Int32) (σ1 : fr_S) (h : m_FR_credential h0 x1 x2 σ = some (r, σ1)) : Met l y_FR_credential (Cond.code y_FR_credential b_FR_credential 3 (some .boolean) :: fr_W) ({ frames := 1, cells := 0, slots := 0, locals := 20 } : Room) (va_Pc [.ref h0, .int x1, .int x2] (fr_B D T A σ)) (fr_Qi D T A r σ1) 0 0 A := by
  refine Met.ofW (cc := b_FR_credential) (maxL := 3) (ret := (some .boolean)) (by decide) rfl ?_
  intro p e s m args below meth c s₁ B hml hv
  obtain ⟨rfl, hH, hK, hX⟩ := hv
  have C0 : fr_At p s m _ meth c "FetchRules" b_FR_credential 3 (some .boolean) := fr_at B hml
  obtain ⟨hx, hb, hr, hml, hown, hts, hlocks⟩ := id C0
  have hS : va_S A s.heap s.heap [] := va_S.rf
  have hl := lv_entry ([.ref h0, .int x1, .int x2]) (n := 3) (Nat.le_of_ble_eq_true rfl)
  rw [lg_entry_eq]
  generalize (lg_sl ([.ref h0, .int x1, .int x2]) ++ List.replicate (3 - (lg_sl ([.ref h0, .int x1, .int x2])).length) Slot.unset).toArray = ls at hl ⊢
  have hl : lv_has ls 3 [(0, .ref h0), (1, .int x1), (2, .int x2)] := hl
  unfold m_FR_credential at h
  refine lv_iload_n hx hb d_FR_credential_0 rfl (lv_at hl 1 rfl) ?_
  obtain ⟨r1, e1, h⟩ := fr_bind h
  refine fr_calli (fr_Sc (As := [.int x1]) (rest := []) ⟨hx, hb, hml, hown, hts⟩ (c_FR_isHost l D T A σ x1 r1 e1) k_286 ms_FR_isHost rfl rfl ⟨Nat.le_of_ble_eq_true rfl, Nat.le_of_ble_eq_true rfl⟩ (fr_preS hK hX hH _) rfl hl.1 rfl (Nat.le_of_ble_eq_true rfl) d_FR_credential_1 ⟨Nat.zero_le _, Nat.zero_le _⟩) hS (fun H locs hH hS => ?_)
  refine lv_if_ne (tgt := 9) hx hb d_FR_credential_4 (by decide) (fun c2 => ?_) (fun c2 => ?_)
  · replace h := fr_iff c2 h
    refine lv_aload_n hx hb d_FR_credential_9 rfl (lv_at hl 0 rfl) ?_
    obtain ⟨q3, e3, h⟩ := fr_bind h
    refine fr_gP hx hb hts in_FR hown hK hH e3 rfl 1 (by decide) (hts _ k_240) (fun _ h9 => h9) rfl d_FR_credential_10 ?_
    refine lv_iload_n hx hb d_FR_credential_13 rfl (lv_at hl 1 rfl) ?_
    refine lv_iload_n hx hb d_FR_credential_14 rfl (lv_at hl 2 rfl) ?_
    obtain ⟨σ_4, e4, h⟩ := fr_bind h
    refine fr_zst hx hb hK hH hS e4 d_FR_credential_15 (fun H locs hH hS => ?_)
    refine lv_iconst (v := 1) hx hb d_FR_credential_16 (by decide) ?_
    exact fr_zret hx hb hr hlocks (Or.inr rfl) h hH hK hX hS d_FR_credential_17
  · replace h := fr_ift c2 h
    refine lv_iconst (v := 0) hx hb d_FR_credential_7 (by decide) ?_
    exact fr_zret hx hb hr hlocks (Or.inl rfl) h hH hK hX hS d_FR_credential_8
set_option maxHeartbeats 4000000 in
set_option maxRecDepth 100000 in
theorem c_FR_place (l : Launch) (D : va_G) (T : Nat → ClassId) (A : Nat → Prop) (σ : fr_S) (h0 : Nat) (x1 : Int32) (x2 : Int32) (r : Int32) (σ1 : fr_S) (h : m_FR_place h0 x1 x2 σ = some (r, σ1)) : Met l y_FR_place (Cond.code y_FR_place b_FR_place 4 (some .int) :: fr_W) ({ frames := 1, cells := 0, slots := 0, locals := 20 } : Room) (va_Pc [.ref h0, .int x1, .int x2] (fr_B D T A σ)) (fr_Qi D T A r σ1) 0 0 A := by
  refine Met.ofW (cc := b_FR_place) (maxL := 4) (ret := (some .int)) (by decide) rfl ?_
  intro p e s m args below meth c s₁ B hml hv
  obtain ⟨rfl, hH, hK, hX⟩ := hv
  have C0 : fr_At p s m _ meth c "FetchRules" b_FR_place 4 (some .int) := fr_at B hml
  obtain ⟨hx, hb, hr, hml, hown, hts, hlocks⟩ := id C0
  have hS : va_S A s.heap s.heap [] := va_S.rf
  have hl := lv_entry ([.ref h0, .int x1, .int x2]) (n := 4) (Nat.le_of_ble_eq_true rfl)
  rw [lg_entry_eq]
  generalize (lg_sl ([.ref h0, .int x1, .int x2]) ++ List.replicate (4 - (lg_sl ([.ref h0, .int x1, .int x2])).length) Slot.unset).toArray = ls at hl ⊢
  have hl : lv_has ls 4 [(0, .ref h0), (1, .int x1), (2, .int x2)] := hl
  unfold m_FR_place at h
  refine lv_aload_n hx hb d_FR_place_0 rfl (lv_at hl 0 rfl) ?_
  obtain ⟨v1, e1, h⟩ := fr_bind h
  refine fr_gI hx hb hts in_FR hown hK hH e1 rfl 4 (by decide) (hts _ k_243) (fun _ h9 => h9) rfl d_FR_place_1 ?_
  refine lv_bipush (v := 16) hx hb d_FR_place_4 (by decide) ?_
  refine lv_icmp_ge (tgt := 27) hx hb d_FR_place_6 (by decide) (fun c2 => ?_) (fun c2 => ?_)
  · replace h := fr_ift c2 h
    refine lv_iconst (v := (-1)) hx hb d_FR_place_27 (by decide) ?_
    exact fr_iret hx hb hr hlocks  h hH hK hX hS d_FR_place_28
  · replace h := fr_iff c2 h
    refine lv_iload_n hx hb d_FR_place_9 rfl (lv_at hl 1 rfl) ?_
    obtain ⟨r3, e3, h⟩ := fr_bind h
    refine fr_calli (fr_Sc (As := [.int x1]) (rest := []) ⟨hx, hb, hml, hown, hts⟩ (c_FR_isHost l D T A σ x1 r3 e3) k_286 ms_FR_isHost rfl rfl ⟨Nat.le_of_ble_eq_true rfl, Nat.le_of_ble_eq_true rfl⟩ (fr_preS hK hX hH _) rfl hl.1 rfl (Nat.le_of_ble_eq_true rfl) d_FR_place_10 ⟨Nat.zero_le _, Nat.zero_le _⟩) hS (fun H locs hH hS => ?_)
    refine lv_if_eq (tgt := 27) hx hb d_FR_place_13 (by decide) (fun c4 => ?_) (fun c4 => ?_)
    · replace h := fr_ift c4 h
      refine lv_iconst (v := (-1)) hx hb d_FR_place_27 (by decide) ?_
      exact fr_iret hx hb hr hlocks  h hH hK hX hS d_FR_place_28
    · replace h := fr_iff c4 h
      refine lv_iload_n hx hb d_FR_place_16 rfl (lv_at hl 2 rfl) ?_
      refine lv_iconst (v := 1) hx hb d_FR_place_17 (by decide) ?_
      refine lv_icmp_lt (tgt := 27) hx hb d_FR_place_18 (by decide) (fun c5 => ?_) (fun c5 => ?_)
      · replace h := fr_ift c5 h
        refine lv_iconst (v := (-1)) hx hb d_FR_place_27 (by decide) ?_
        exact fr_iret hx hb hr hlocks  h hH hK hX hS d_FR_place_28
      · replace h := fr_iff c5 h
        refine lv_iload_n hx hb d_FR_place_21 rfl (lv_at hl 2 rfl) ?_
        refine lv_bipush (v := 50) hx hb d_FR_place_22 (by decide) ?_
        refine lv_icmp_le (tgt := 29) hx hb d_FR_place_24 (by decide) (fun c6 => ?_) (fun c6 => ?_)
        · replace h := fr_ift c6 h
          refine lv_aload_n hx hb d_FR_place_29 rfl (lv_at hl 0 rfl) ?_
          obtain ⟨q7, e7, h⟩ := fr_bind h
          refine fr_gP hx hb hts in_FR hown hK hH e7 rfl 3 (by decide) (hts _ k_242) (fun _ h9 => h9) rfl d_FR_place_30 ?_
          refine lv_aload_n hx hb d_FR_place_33 rfl (lv_at hl 0 rfl) ?_
          obtain ⟨v8, e8, h⟩ := fr_bind h
          refine fr_gI hx hb hts in_FR hown hK hH e8 rfl 4 (by decide) (hts _ k_243) (fun _ h9 => h9) rfl d_FR_place_34 ?_
          obtain ⟨q9, e9, h⟩ := fr_bind h
          refine fr_qld hx hb hK hH e9 (by decide) rfl d_FR_place_37 ?_
          refine lv_astore_n (lv' := [(3, .ref q9), (0, .ref h0), (1, .int x1), (2, .int x2)]) hx hb d_FR_place_38 rfl hl (by decide) rfl (fun ls hl => ?_)
          refine lv_aload_n hx hb d_FR_place_39 rfl (lv_at hl 0 rfl) ?_
          refine lv_iload_n hx hb d_FR_place_40 rfl (lv_at hl 2 rfl) ?_
          obtain ⟨σ_10, e10, h⟩ := fr_bind h
          refine fr_putI hx hb hts in_Place ty_Place tk_Place nm_Place hown hK hH hS e10 rfl 1 (by decide) (hts _ k_157) (fun _ h9 => h9) rfl (by decide +kernel) (fs_3_1 _ _ _) (Nat.le_of_ble_eq_true rfl) d_FR_place_41 (fun H locs hH hS => ?_)
          refine lv_aload_n hx hb d_FR_place_44 rfl (lv_at hl 0 rfl) ?_
          refine lv_iload_n hx hb d_FR_place_45 rfl (lv_at hl 3 rfl) ?_
          obtain ⟨σ_11, e11, h⟩ := fr_bind h
          refine fr_putI hx hb hts in_Place ty_Place tk_Place nm_Place hown hK hH hS e11 rfl 2 (by decide) (hts _ k_159) (fun _ h9 => h9) rfl (by decide +kernel) (fs_3_2 _ _ _) (Nat.le_of_ble_eq_true rfl) d_FR_place_46 (fun H locs hH hS => ?_)
          refine lv_aload_n hx hb d_FR_place_49 rfl (lv_at hl 1 rfl) ?_
          refine lv_dup hx hb d_FR_place_50 rfl ?_
          obtain ⟨v12, e12, h⟩ := fr_bind h
          refine fr_gI hx hb hts in_FR hown hK hH e12 rfl 4 (by decide) (hts _ k_243) (fun _ h9 => h9) rfl d_FR_place_51 ?_
          refine lv_dup_x1 hx hb d_FR_place_54 rfl rfl ?_
          refine lv_iconst (v := 1) hx hb d_FR_place_55 (by decide) ?_
          refine lv_iadd hx hb d_FR_place_56 ?_
          obtain ⟨σ_13, e13, h⟩ := fr_bind h
          refine fr_putI hx hb hts in_FR ty_FR tk_FR nm_FR hown hK hH hS e13 rfl 4 (by decide) (hts _ k_243) (fun _ h9 => h9) rfl (by decide +kernel) (fs_1_4 _ _ _) (Nat.le_of_ble_eq_true rfl) d_FR_place_57 (fun H locs hH hS => ?_)
          exact fr_iret hx hb hr hlocks  h hH hK hX hS d_FR_place_60
        · replace h := fr_iff c6 h
          refine lv_iconst (v := (-1)) hx hb d_FR_place_27 (by decide) ?_
          exact fr_iret hx hb hr hlocks  h hH hK hX hS d_FR_place_28
set_option maxHeartbeats 4000000 in
set_option maxRecDepth 100000 in
theorem c_FR_isPlace (l : Launch) (D : va_G) (T : Nat → ClassId) (A : Nat → Prop) (σ : fr_S) (h0 : Nat) (x1 : Int32) (r : Int32) (h : m_FR_isPlace h0 x1 σ = some r) : Met l y_FR_isPlace (Cond.code y_FR_isPlace b_FR_isPlace 2 (some .boolean) :: fr_W) ({ frames := 0, cells := 0, slots := 0, locals := 0 } : Room) (va_Pc [.ref h0, .int x1] (fr_B D T A σ)) (fr_Qi D T A r σ) 0 0 A := by
  refine Met.ofW (cc := b_FR_isPlace) (maxL := 2) (ret := (some .boolean)) (by decide) rfl ?_
  intro p e s m args below meth c s₁ B hml hv
  obtain ⟨rfl, hH, hK, hX⟩ := hv
  have C0 : fr_At p s m _ meth c "FetchRules" b_FR_isPlace 2 (some .boolean) := fr_at B hml
  obtain ⟨hx, hb, hr, hml, hown, hts, hlocks⟩ := id C0
  have hS : va_S A s.heap s.heap [] := va_S.rf
  have hl := lv_entry ([.ref h0, .int x1]) (n := 2) (Nat.le_of_ble_eq_true rfl)
  rw [lg_entry_eq]
  generalize (lg_sl ([.ref h0, .int x1]) ++ List.replicate (2 - (lg_sl ([.ref h0, .int x1])).length) Slot.unset).toArray = ls at hl ⊢
  have hl : lv_has ls 2 [(0, .ref h0), (1, .int x1)] := hl
  unfold m_FR_isPlace at h
  refine lv_iload_n hx hb d_FR_isPlace_0 rfl (lv_at hl 1 rfl) ?_
  refine lv_if_lt (tgt := 16) hx hb d_FR_isPlace_1 (by decide) (fun c1 => ?_) (fun c1 => ?_)
  · replace h := fr_ift c1 h
    refine lv_iconst (v := 0) hx hb d_FR_isPlace_16 (by decide) ?_
    exact fr_zretO hx hb hr hlocks (Or.inl rfl) h hH hK hX hS d_FR_isPlace_17
  · replace h := fr_iff c1 h
    refine lv_iload_n hx hb d_FR_isPlace_4 rfl (lv_at hl 1 rfl) ?_
    refine lv_aload_n hx hb d_FR_isPlace_5 rfl (lv_at hl 0 rfl) ?_
    obtain ⟨v2, e2, h⟩ := fr_bind h
    refine fr_gI hx hb hts in_FR hown hK hH e2 rfl 4 (by decide) (hts _ k_243) (fun _ h9 => h9) rfl d_FR_isPlace_6 ?_
    refine lv_icmp_ge (tgt := 16) hx hb d_FR_isPlace_9 (by decide) (fun c3 => ?_) (fun c3 => ?_)
    · replace h := fr_ift c3 h
      refine lv_iconst (v := 0) hx hb d_FR_isPlace_16 (by decide) ?_
      exact fr_zretO hx hb hr hlocks (Or.inl rfl) h hH hK hX hS d_FR_isPlace_17
    · replace h := fr_iff c3 h
      refine lv_iconst (v := 1) hx hb d_FR_isPlace_12 (by decide) ?_
      refine lv_goto (tgt := 17) hx hb d_FR_isPlace_13 (by decide) ?_
      exact fr_zretO hx hb hr hlocks (Or.inr rfl) h hH hK hX hS d_FR_isPlace_17
set_option maxHeartbeats 4000000 in
set_option maxRecDepth 100000 in
theorem c_Row_append (l : Launch) (D : va_G) (T : Nat → ClassId) (A : Nat → Prop) (σ : fr_S) (h0 : Nat) (x1 : Int32) (σ1 : fr_S) (h : m_Row_append h0 x1 σ = some σ1) : Met l y_Row_append (Cond.code y_Row_append b_Row_append 2 none :: fr_W) ({ frames := 0, cells := 0, slots := 0, locals := 0 } : Room) (va_Pc [.ref h0, .int x1] (fr_B D T A σ)) (fr_Qv D T A σ1) 0 0 A := by
  refine Met.ofW (cc := b_Row_append) (maxL := 2) (ret := none) (by decide) rfl ?_
  intro p e s m args below meth c s₁ B hml hv
  obtain ⟨rfl, hH, hK, hX⟩ := hv
  have C0 : fr_At p s m _ meth c "FetchRules$Row" b_Row_append 2 none := fr_at B hml
  obtain ⟨hx, hb, hr, hml, hown, hts, hlocks⟩ := id C0
  have hS : va_S A s.heap s.heap [] := va_S.rf
  have hl := lv_entry ([.ref h0, .int x1]) (n := 2) (Nat.le_of_ble_eq_true rfl)
  rw [lg_entry_eq]
  generalize (lg_sl ([.ref h0, .int x1]) ++ List.replicate (2 - (lg_sl ([.ref h0, .int x1])).length) Slot.unset).toArray = ls at hl ⊢
  have hl : lv_has ls 2 [(0, .ref h0), (1, .int x1)] := hl
  unfold m_Row_append at h
  refine lv_aload_n hx hb d_Row_append_0 rfl (lv_at hl 0 rfl) ?_
  obtain ⟨v1, e1, h⟩ := fr_bind h
  refine fr_gI hx hb hts in_Row hown hK hH e1 rfl 1 (by decide) (hts _ k_68) (fun _ h9 => h9) rfl d_Row_append_1 ?_
  refine lv_bipush (v := 100) hx hb d_Row_append_4 (by decide) ?_
  refine lv_icmp_ge (tgt := 26) hx hb d_Row_append_6 (by decide) (fun c2 => ?_) (fun c2 => ?_)
  · replace h := fr_ift c2 h
    exact fr_vret hx hb hr hlocks h hH hK hX hS d_Row_append_26
  · replace h := fr_iff c2 h
    refine lv_aload_n hx hb d_Row_append_9 rfl (lv_at hl 0 rfl) ?_
    obtain ⟨q3, e3, h⟩ := fr_bind h
    refine fr_gP hx hb hts in_Row hown hK hH e3 rfl 0 (by decide) (hts _ k_67) (fun _ h9 => h9) rfl d_Row_append_10 ?_
    refine lv_aload_n hx hb d_Row_append_13 rfl (lv_at hl 0 rfl) ?_
    refine lv_dup hx hb d_Row_append_14 rfl ?_
    obtain ⟨v4, e4, h⟩ := fr_bind h
    refine fr_gI hx hb hts in_Row hown hK hH e4 rfl 1 (by decide) (hts _ k_68) (fun _ h9 => h9) rfl d_Row_append_15 ?_
    refine lv_dup_x1 hx hb d_Row_append_18 rfl rfl ?_
    refine lv_iconst (v := 1) hx hb d_Row_append_19 (by decide) ?_
    refine lv_iadd hx hb d_Row_append_20 ?_
    obtain ⟨σ_5, e5, h⟩ := fr_bind h
    refine fr_putI hx hb hts in_Row ty_Row tk_Row nm_Row hown hK hH hS e5 rfl 1 (by decide) (hts _ k_68) (fun _ h9 => h9) rfl (by decide +kernel) (fs_4_1 _ _ _) (Nat.le_of_ble_eq_true rfl) d_Row_append_21 (fun H locs hH hS => ?_)
    refine lv_iload_n hx hb d_Row_append_24 rfl (lv_at hl 1 rfl) ?_
    obtain ⟨σ_6, e6, h⟩ := fr_bind h
    refine fr_ist hx hb hK hH hS e6 d_Row_append_25 (fun H locs hH hS => ?_)
    exact fr_vret hx hb hr hlocks h hH hK hX hS d_Row_append_26
set_option maxHeartbeats 4000000 in
set_option maxRecDepth 100000 in
theorem w_FR_content_L55 {p : Program} {l : Launch} {e : Env} {s : State} {m : MethodId} {args : Array Value} {below : List Frame} {meth : Method} {c : Code} {D : va_G} {T : Nat → ClassId} {A : Nat → Prop} (C0 : fr_At p s m args meth c "FetchRules" b_FR_content 7 (some .boolean)) (hK : va_K D vwCl (fr_tys T) s) (hX : fr_X s) :
    ∀ (n : Nat) (y2 : Int64) (b5 : Nat) (y6 : Int32) (σ : fr_S) (r : Int32) (σ1 : fr_S), m_FR_content_L55 n y2 b5 y6 σ = some (r, σ1) → ∀ (H : Heap) (locs : List Loc), fr_H D T A σ H → va_S A s.heap H locs → ∀ (ls : Array Slot), lv_has ls 7 [(2, .long y2), (5, .ref b5), (6, .int y6)] → W p l e (headSpec (Cond.code y_FR_content b_FR_content 7 (some .boolean) :: fr_W) ({ frames := 1, cells := 0, slots := 0, locals := 21 } : Room)).room s m args below meth c H locs 0 0 (MQ below (fr_Qi D T A r σ1) args s 0 0 A) (F0 m 55 ls []) := by
  obtain ⟨hx, hb, hr, hml, hown, hts, hlocks⟩ := id C0
  intro n
  induction n with
  | zero => intro y2 b5 y6 σ r σ1 h; cases h
  | succ n ih =>
    intro y2 b5 y6 σ r σ1 h H locs hH hS ls hl
    unfold m_FR_content_L55 at h
    refine lv_iload hx hb d_FR_content_55 (lv_at hl 2 rfl) ?_
    refine lv_if_lt (tgt := 83) hx hb d_FR_content_57 (by decide) (fun c11 => ?_) (fun c11 => ?_)
    · replace h := fr_ift c11 h
      refine lv_iconst (v := 1) hx hb d_FR_content_83 (by decide) ?_
      exact fr_zret hx hb hr hlocks (Or.inr rfl) h hH hK hX hS d_FR_content_84
    · replace h := fr_iff c11 h
      refine lv_aload hx hb d_FR_content_60 (lv_at hl 1 rfl) ?_
      refine lv_lload_n hx hb d_FR_content_62 rfl (lv_at hl 0 rfl) ?_
      refine lv_bipush (v := 8) hx hb d_FR_content_63 (by decide) ?_
      refine lv_iload hx hb d_FR_content_65 (lv_at hl 2 rfl) ?_
      refine lv_imul hx hb d_FR_content_67 ?_
      refine lv_lushr (v := (fr_lushr y2 (8 * y6))) hx hb d_FR_content_68 rfl ?_
      refine lv_l2i (v := (fr_lushr y2 (8 * y6)).toInt32) hx hb d_FR_content_69 rfl ?_
      refine lv_sipush (v := 255) hx hb d_FR_content_70 (by decide) ?_
      refine lv_iand hx hb d_FR_content_73 ?_
      obtain ⟨u12, e12, h⟩ := fr_bind h
      obtain ⟨σ_13, e13, h⟩ := fr_bind h
      refine fr_callv (fr_V (As := [.int ((fr_lushr y2 (8 * y6)).toInt32 &&& 255)]) (rest := []) ⟨hx, hb, hml, hown, hts⟩ (c_Row_append l D T A σ b5 (((fr_lushr y2 (8 * y6)).toInt32 &&& 255)) σ_13 e13) k_301 mv_Row_append rfl rfl ⟨Nat.le_of_ble_eq_true rfl, Nat.le_of_ble_eq_true rfl⟩ (fr_preV hK hX hH e12 rfl _) rfl hl.1 rfl (Nat.le_of_ble_eq_true rfl) d_FR_content_74 ⟨Nat.zero_le _, Nat.zero_le _⟩) hS (fun H locs hH hS => ?_)
      refine lv_iinc (v := (y6 + (-1))) (lv' := [(6, .int (y6 + (-1))), (2, .long y2), (5, .ref b5)]) hx hb d_FR_content_77 hl (k := 2) rfl rfl (by decide) rfl (fun ls hl => ?_)
      refine lv_goto (tgt := 55) hx hb d_FR_content_80 (by decide) ?_
      exact ih y2 b5 (y6 + (-1)) σ_13 r σ1 h _ _ hH hS ls (lv_sub hl [1, 2, 0] rfl)
set_option maxHeartbeats 4000000 in
set_option maxRecDepth 100000 in
theorem c_FR_content (l : Launch) (D : va_G) (T : Nat → ClassId) (A : Nat → Prop) (σ : fr_S) (h0 : Nat) (x1 : Int32) (x2 : Int64) (x4 : Int32) (r : Int32) (σ1 : fr_S) (h : m_FR_content h0 x1 x2 x4 σ = some (r, σ1)) : Met l y_FR_content (Cond.code y_FR_content b_FR_content 7 (some .boolean) :: fr_W) ({ frames := 1, cells := 0, slots := 0, locals := 21 } : Room) (va_Pc [.ref h0, .int x1, .long x2, .int x4] (fr_B D T A σ)) (fr_Qi D T A r σ1) 0 0 A := by
  refine Met.ofW (cc := b_FR_content) (maxL := 7) (ret := (some .boolean)) (by decide) rfl ?_
  intro p e s m args below meth c s₁ B hml hv
  obtain ⟨rfl, hH, hK, hX⟩ := hv
  have C0 : fr_At p s m _ meth c "FetchRules" b_FR_content 7 (some .boolean) := fr_at B hml
  obtain ⟨hx, hb, hr, hml, hown, hts, hlocks⟩ := id C0
  have hS : va_S A s.heap s.heap [] := va_S.rf
  have hl := lv_entry ([.ref h0, .int x1, .long x2, .int x4]) (n := 7) (Nat.le_of_ble_eq_true rfl)
  rw [lg_entry_eq]
  generalize (lg_sl ([.ref h0, .int x1, .long x2, .int x4]) ++ List.replicate (7 - (lg_sl ([.ref h0, .int x1, .long x2, .int x4])).length) Slot.unset).toArray = ls at hl ⊢
  have hl : lv_has ls 7 [(0, .ref h0), (1, .int x1), (2, .long x2), (4, .int x4)] := hl
  unfold m_FR_content at h
  refine lv_aload_n hx hb d_FR_content_0 rfl (lv_at hl 0 rfl) ?_
  refine lv_iload_n hx hb d_FR_content_1 rfl (lv_at hl 1 rfl) ?_
  obtain ⟨u1, e1, h⟩ := fr_bind h
  obtain ⟨r2, e2, h⟩ := fr_bind h
  refine fr_calli (fr_V (As := [.int x1]) (rest := []) ⟨hx, hb, hml, hown, hts⟩ (c_FR_isPlace l D T A σ h0 x1 r2 e2) k_297 mv_FR_isPlace rfl rfl ⟨Nat.le_of_ble_eq_true rfl, Nat.le_of_ble_eq_true rfl⟩ (fr_preV hK hX hH e1 rfl _) rfl hl.1 rfl (Nat.le_of_ble_eq_true rfl) d_FR_content_2 ⟨Nat.zero_le _, Nat.zero_le _⟩) hS (fun H locs hH hS => ?_)
  refine lv_if_eq (tgt := 21) hx hb d_FR_content_5 (by decide) (fun c3 => ?_) (fun c3 => ?_)
  · replace h := fr_ift c3 h
    refine lv_iconst (v := 0) hx hb d_FR_content_21 (by decide) ?_
    exact fr_zret hx hb hr hlocks (Or.inl rfl) h hH hK hX hS d_FR_content_22
  · replace h := fr_iff c3 h
    refine lv_iload hx hb d_FR_content_8 (lv_at hl 3 rfl) ?_
    refine lv_iconst (v := 1) hx hb d_FR_content_10 (by decide) ?_
    refine lv_icmp_lt (tgt := 21) hx hb d_FR_content_11 (by decide) (fun c4 => ?_) (fun c4 => ?_)
    · replace h := fr_ift c4 h
      refine lv_iconst (v := 0) hx hb d_FR_content_21 (by decide) ?_
      exact fr_zret hx hb hr hlocks (Or.inl rfl) h hH hK hX hS d_FR_content_22
    · replace h := fr_iff c4 h
      refine lv_iload hx hb d_FR_content_14 (lv_at hl 3 rfl) ?_
      refine lv_bipush (v := 8) hx hb d_FR_content_16 (by decide) ?_
      refine lv_icmp_le (tgt := 23) hx hb d_FR_content_18 (by decide) (fun c5 => ?_) (fun c5 => ?_)
      · replace h := fr_ift c5 h
        refine lv_aload_n hx hb d_FR_content_23 rfl (lv_at hl 0 rfl) ?_
        obtain ⟨q6, e6, h⟩ := fr_bind h
        refine fr_gP hx hb hts in_FR hown hK hH e6 rfl 3 (by decide) (hts _ k_242) (fun _ h9 => h9) rfl d_FR_content_24 ?_
        refine lv_iload_n hx hb d_FR_content_27 rfl (lv_at hl 1 rfl) ?_
        obtain ⟨q7, e7, h⟩ := fr_bind h
        refine fr_qld hx hb hK hH e7 (by decide) rfl d_FR_content_28 ?_
        obtain ⟨q8, e8, h⟩ := fr_bind h
        refine fr_gP hx hb hts in_Place hown hK hH e8 rfl 0 (by decide) (hts _ k_155) (fun _ h9 => h9) rfl d_FR_content_29 ?_
        refine lv_astore (lv' := [(5, .ref q8), (0, .ref h0), (1, .int x1), (2, .long x2), (4, .int x4)]) hx hb d_FR_content_32 hl (by decide) rfl (fun ls hl => ?_)
        refine lv_aload hx hb d_FR_content_34 (lv_at hl 0 rfl) ?_
        obtain ⟨v9, e9, h⟩ := fr_bind h
        refine fr_gI hx hb hts in_Row hown hK hH e9 rfl 1 (by decide) (hts _ k_71) (fun _ h9 => h9) rfl d_FR_content_36 ?_
        refine lv_iload hx hb d_FR_content_39 (lv_at hl 4 rfl) ?_
        refine lv_iadd hx hb d_FR_content_41 ?_
        refine lv_bipush (v := 100) hx hb d_FR_content_42 (by decide) ?_
        refine lv_icmp_le (tgt := 49) hx hb d_FR_content_44 (by decide) (fun c10 => ?_) (fun c10 => ?_)
        · replace h := fr_ift c10 h
          refine lv_iload hx hb d_FR_content_49 (lv_at hl 4 rfl) ?_
          refine lv_iconst (v := 1) hx hb d_FR_content_51 (by decide) ?_
          refine lv_isub hx hb d_FR_content_52 ?_
          refine lv_istore (lv' := [(6, .int (x4 - 1)), (5, .ref q8), (0, .ref h0), (1, .int x1), (2, .long x2), (4, .int x4)]) hx hb d_FR_content_53 hl (by decide) rfl (fun ls hl => ?_)
          exact w_FR_content_L55 C0 hK hX 1000 x2 q8 (x4 - 1) σ r σ1 h _ _ hH hS ls (lv_sub hl [4, 1, 0] rfl)
        · replace h := fr_iff c10 h
          refine lv_iconst (v := 0) hx hb d_FR_content_47 (by decide) ?_
          exact fr_zret hx hb hr hlocks (Or.inl rfl) h hH hK hX hS d_FR_content_48
      · replace h := fr_iff c5 h
        refine lv_iconst (v := 0) hx hb d_FR_content_21 (by decide) ?_
        exact fr_zret hx hb hr hlocks (Or.inl rfl) h hH hK hX hS d_FR_content_22
set_option maxHeartbeats 4000000 in
set_option maxRecDepth 100000 in
theorem c_FR_does (l : Launch) (D : va_G) (T : Nat → ClassId) (A : Nat → Prop) (σ : fr_S) (h0 : Nat) (x1 : Int32) (x2 : Int32) (x3 : Int32) (r : Int32) (σ1 : fr_S) (h : m_FR_does h0 x1 x2 x3 σ = some (r, σ1)) : Met l y_FR_does (Cond.code y_FR_does b_FR_does 5 (some .boolean) :: fr_W) ({ frames := 1, cells := 0, slots := 0, locals := 21 } : Room) (va_Pc [.ref h0, .int x1, .int x2, .int x3] (fr_B D T A σ)) (fr_Qi D T A r σ1) 0 0 A := by
  refine Met.ofW (cc := b_FR_does) (maxL := 5) (ret := (some .boolean)) (by decide) rfl ?_
  intro p e s m args below meth c s₁ B hml hv
  obtain ⟨rfl, hH, hK, hX⟩ := hv
  have C0 : fr_At p s m _ meth c "FetchRules" b_FR_does 5 (some .boolean) := fr_at B hml
  obtain ⟨hx, hb, hr, hml, hown, hts, hlocks⟩ := id C0
  have hS : va_S A s.heap s.heap [] := va_S.rf
  have hl := lv_entry ([.ref h0, .int x1, .int x2, .int x3]) (n := 5) (Nat.le_of_ble_eq_true rfl)
  rw [lg_entry_eq]
  generalize (lg_sl ([.ref h0, .int x1, .int x2, .int x3]) ++ List.replicate (5 - (lg_sl ([.ref h0, .int x1, .int x2, .int x3])).length) Slot.unset).toArray = ls at hl ⊢
  have hl : lv_has ls 5 [(0, .ref h0), (1, .int x1), (2, .int x2), (3, .int x3)] := hl
  unfold m_FR_does at h
  refine lv_aload_n hx hb d_FR_does_0 rfl (lv_at hl 0 rfl) ?_
  refine lv_iload_n hx hb d_FR_does_1 rfl (lv_at hl 1 rfl) ?_
  obtain ⟨u1, e1, h⟩ := fr_bind h
  obtain ⟨r2, e2, h⟩ := fr_bind h
  refine fr_calli (fr_V (As := [.int x1]) (rest := []) ⟨hx, hb, hml, hown, hts⟩ (c_FR_isPlace l D T A σ h0 x1 r2 e2) k_297 mv_FR_isPlace rfl rfl ⟨Nat.le_of_ble_eq_true rfl, Nat.le_of_ble_eq_true rfl⟩ (fr_preV hK hX hH e1 rfl _) rfl hl.1 rfl (Nat.le_of_ble_eq_true rfl) d_FR_does_2 ⟨Nat.zero_le _, Nat.zero_le _⟩) hS (fun H locs hH hS => ?_)
  refine lv_if_ne (tgt := 10) hx hb d_FR_does_5 (by decide) (fun c3 => ?_) (fun c3 => ?_)
  · replace h := fr_iff c3 h
    refine lv_aload_n hx hb d_FR_does_10 rfl (lv_at hl 0 rfl) ?_
    obtain ⟨q4, e4, h⟩ := fr_bind h
    refine fr_gP hx hb hts in_FR hown hK hH e4 rfl 3 (by decide) (hts _ k_242) (fun _ h9 => h9) rfl d_FR_does_11 ?_
    refine lv_iload_n hx hb d_FR_does_14 rfl (lv_at hl 1 rfl) ?_
    obtain ⟨q5, e5, h⟩ := fr_bind h
    refine fr_qld hx hb hK hH e5 (by decide) rfl d_FR_does_15 ?_
    refine lv_astore (lv' := [(4, .ref q5), (0, .ref h0), (1, .int x1), (2, .int x2), (3, .int x3)]) hx hb d_FR_does_16 hl (by decide) rfl (fun ls hl => ?_)
    refine lv_iload_n hx hb d_FR_does_18 rfl (lv_at hl 3 rfl) ?_
    by_cases c6 : x2 = 0
    · replace h := fr_ift c6 h
      refine lv_tableIn (tgt := 48) hx hb d_FR_does_19 (by rw [c6]; decide) (by rw [c6]; decide) (by rw [c6]; rfl) (by decide) ?_
      refine lv_aload hx hb d_FR_does_48 (lv_at hl 0 rfl) ?_
      refine lv_iload_n hx hb d_FR_does_50 rfl (lv_at hl 4 rfl) ?_
      refine lv_if_eq (tgt := 58) hx hb d_FR_does_51 (by decide) (fun c7 => ?_) (fun c7 => ?_)
      · replace h := fr_ift c7 h
        refine lv_iconst (v := 0) hx hb d_FR_does_58 (by decide) ?_
        obtain ⟨σ_8, e8, h⟩ := fr_bind h
        refine fr_putZ hx hb hts in_Place ty_Place tk_Place nm_Place hown hK hH hS e8 rfl 6 (by decide) (hts _ k_167) (fun _ h9 => h9) rfl (by decide +kernel) (fs_3_6 _ _ _) (Nat.le_of_ble_eq_true rfl) d_FR_does_59 (fun H locs hH hS => ?_)
        refine lv_iconst (v := 1) hx hb d_FR_does_62 (by decide) ?_
        exact fr_zret hx hb hr hlocks (Or.inr rfl) h hH hK hX hS d_FR_does_63
      · replace h := fr_iff c7 h
        refine lv_iconst (v := 1) hx hb d_FR_does_54 (by decide) ?_
        refine lv_goto (tgt := 59) hx hb d_FR_does_55 (by decide) ?_
        obtain ⟨σ_9, e9, h⟩ := fr_bind h
        refine fr_putZ hx hb hts in_Place ty_Place tk_Place nm_Place hown hK hH hS e9 rfl 6 (by decide) (hts _ k_167) (fun _ h9 => h9) rfl (by decide +kernel) (fs_3_6 _ _ _) (Nat.le_of_ble_eq_true rfl) d_FR_does_59 (fun H locs hH hS => ?_)
        refine lv_iconst (v := 1) hx hb d_FR_does_62 (by decide) ?_
        exact fr_zret hx hb hr hlocks (Or.inr rfl) h hH hK hX hS d_FR_does_63
    · replace h := fr_iff c6 h
      by_cases c10 : x2 = 1
      · replace h := fr_ift c10 h
        refine lv_tableIn (tgt := 64) hx hb d_FR_does_19 (by rw [c10]; decide) (by rw [c10]; decide) (by rw [c10]; rfl) (by decide) ?_
        refine lv_iload_n hx hb d_FR_does_64 rfl (lv_at hl 4 rfl) ?_
        refine lv_iconst (v := (-1)) hx hb d_FR_does_65 (by decide) ?_
        refine lv_icmp_eq (tgt := 79) hx hb d_FR_does_66 (by decide) (fun c11 => ?_) (fun c11 => ?_)
        · replace h := fr_ift c11 h
          refine lv_aload hx hb d_FR_does_79 (lv_at hl 0 rfl) ?_
          refine lv_iload_n hx hb d_FR_does_81 rfl (lv_at hl 4 rfl) ?_
          obtain ⟨σ_12, e12, h⟩ := fr_bind h
          refine fr_putI hx hb hts in_Place ty_Place tk_Place nm_Place hown hK hH hS e12 rfl 3 (by decide) (hts _ k_161) (fun _ h9 => h9) rfl (by decide +kernel) (fs_3_3 _ _ _) (Nat.le_of_ble_eq_true rfl) d_FR_does_82 (fun H locs hH hS => ?_)
          refine lv_iconst (v := 1) hx hb d_FR_does_85 (by decide) ?_
          exact fr_zret hx hb hr hlocks (Or.inr rfl) h hH hK hX hS d_FR_does_86
        · replace h := fr_iff c11 h
          refine lv_aload_n hx hb d_FR_does_69 rfl (lv_at hl 1 rfl) ?_
          refine lv_iload_n hx hb d_FR_does_70 rfl (lv_at hl 4 rfl) ?_
          obtain ⟨u13, e13, h⟩ := fr_bind h
          obtain ⟨r14, e14, h⟩ := fr_bind h
          refine fr_calli (fr_V (As := [.int x3]) (rest := []) ⟨hx, hb, hml, hown, hts⟩ (c_FR_isPlace l D T A σ h0 x3 r14 e14) k_297 mv_FR_isPlace rfl rfl ⟨Nat.le_of_ble_eq_true rfl, Nat.le_of_ble_eq_true rfl⟩ (fr_preV hK hX hH e13 rfl _) rfl hl.1 rfl (Nat.le_of_ble_eq_true rfl) d_FR_does_71 ⟨Nat.zero_le _, Nat.zero_le _⟩) hS (fun H locs hH hS => ?_)
          refine lv_if_ne (tgt := 79) hx hb d_FR_does_74 (by decide) (fun c15 => ?_) (fun c15 => ?_)
          · replace h := fr_iff c15 h
            refine lv_aload hx hb d_FR_does_79 (lv_at hl 0 rfl) ?_
            refine lv_iload_n hx hb d_FR_does_81 rfl (lv_at hl 4 rfl) ?_
            obtain ⟨σ_16, e16, h⟩ := fr_bind h
            refine fr_putI hx hb hts in_Place ty_Place tk_Place nm_Place hown hK hH hS e16 rfl 3 (by decide) (hts _ k_161) (fun _ h9 => h9) rfl (by decide +kernel) (fs_3_3 _ _ _) (Nat.le_of_ble_eq_true rfl) d_FR_does_82 (fun H locs hH hS => ?_)
            refine lv_iconst (v := 1) hx hb d_FR_does_85 (by decide) ?_
            exact fr_zret hx hb hr hlocks (Or.inr rfl) h hH hK hX hS d_FR_does_86
          · replace h := fr_ift c15 h
            refine lv_iconst (v := 0) hx hb d_FR_does_77 (by decide) ?_
            exact fr_zret hx hb hr hlocks (Or.inl rfl) h hH hK hX hS d_FR_does_78
      · replace h := fr_iff c10 h
        by_cases c17 : x2 = 2
        · replace h := fr_ift c17 h
          refine lv_tableIn (tgt := 87) hx hb d_FR_does_19 (by rw [c17]; decide) (by rw [c17]; decide) (by rw [c17]; rfl) (by decide) ?_
          refine lv_aload hx hb d_FR_does_87 (lv_at hl 0 rfl) ?_
          refine lv_iload_n hx hb d_FR_does_89 rfl (lv_at hl 4 rfl) ?_
          refine lv_if_eq (tgt := 97) hx hb d_FR_does_90 (by decide) (fun c18 => ?_) (fun c18 => ?_)
          · replace h := fr_ift c18 h
            refine lv_iconst (v := 0) hx hb d_FR_does_97 (by decide) ?_
            obtain ⟨σ_19, e19, h⟩ := fr_bind h
            refine fr_putZ hx hb hts in_Place ty_Place tk_Place nm_Place hown hK hH hS e19 rfl 7 (by decide) (hts _ k_169) (fun _ h9 => h9) rfl (by decide +kernel) (fs_3_7 _ _ _) (Nat.le_of_ble_eq_true rfl) d_FR_does_98 (fun H locs hH hS => ?_)
            refine lv_iconst (v := 1) hx hb d_FR_does_101 (by decide) ?_
            exact fr_zret hx hb hr hlocks (Or.inr rfl) h hH hK hX hS d_FR_does_102
          · replace h := fr_iff c18 h
            refine lv_iconst (v := 1) hx hb d_FR_does_93 (by decide) ?_
            refine lv_goto (tgt := 98) hx hb d_FR_does_94 (by decide) ?_
            obtain ⟨σ_20, e20, h⟩ := fr_bind h
            refine fr_putZ hx hb hts in_Place ty_Place tk_Place nm_Place hown hK hH hS e20 rfl 7 (by decide) (hts _ k_169) (fun _ h9 => h9) rfl (by decide +kernel) (fs_3_7 _ _ _) (Nat.le_of_ble_eq_true rfl) d_FR_does_98 (fun H locs hH hS => ?_)
            refine lv_iconst (v := 1) hx hb d_FR_does_101 (by decide) ?_
            exact fr_zret hx hb hr hlocks (Or.inr rfl) h hH hK hX hS d_FR_does_102
        · replace h := fr_iff c17 h
          by_cases c21 : x2 = 3
          · replace h := fr_ift c21 h
            refine lv_tableIn (tgt := 103) hx hb d_FR_does_19 (by rw [c21]; decide) (by rw [c21]; decide) (by rw [c21]; rfl) (by decide) ?_
            refine lv_aload hx hb d_FR_does_103 (lv_at hl 0 rfl) ?_
            refine lv_iload_n hx hb d_FR_does_105 rfl (lv_at hl 4 rfl) ?_
            refine lv_if_eq (tgt := 113) hx hb d_FR_does_106 (by decide) (fun c22 => ?_) (fun c22 => ?_)
            · replace h := fr_ift c22 h
              refine lv_iconst (v := 0) hx hb d_FR_does_113 (by decide) ?_
              obtain ⟨σ_23, e23, h⟩ := fr_bind h
              refine fr_putZ hx hb hts in_Place ty_Place tk_Place nm_Place hown hK hH hS e23 rfl 8 (by decide) (hts _ k_171) (fun _ h9 => h9) rfl (by decide +kernel) (fs_3_8 _ _ _) (Nat.le_of_ble_eq_true rfl) d_FR_does_114 (fun H locs hH hS => ?_)
              refine lv_iconst (v := 1) hx hb d_FR_does_117 (by decide) ?_
              exact fr_zret hx hb hr hlocks (Or.inr rfl) h hH hK hX hS d_FR_does_118
            · replace h := fr_iff c22 h
              refine lv_iconst (v := 1) hx hb d_FR_does_109 (by decide) ?_
              refine lv_goto (tgt := 114) hx hb d_FR_does_110 (by decide) ?_
              obtain ⟨σ_24, e24, h⟩ := fr_bind h
              refine fr_putZ hx hb hts in_Place ty_Place tk_Place nm_Place hown hK hH hS e24 rfl 8 (by decide) (hts _ k_171) (fun _ h9 => h9) rfl (by decide +kernel) (fs_3_8 _ _ _) (Nat.le_of_ble_eq_true rfl) d_FR_does_114 (fun H locs hH hS => ?_)
              refine lv_iconst (v := 1) hx hb d_FR_does_117 (by decide) ?_
              exact fr_zret hx hb hr hlocks (Or.inr rfl) h hH hK hX hS d_FR_does_118
          · replace h := fr_iff c21 h
            refine lv_tableOut (tgt := 119) hx hb d_FR_does_19 (by have z0 := lv_neT c6 (a := 0) (by decide); have z1 := lv_neT c10 (a := 1) (by decide); have z2 := lv_neT c17 (a := 2) (by decide); have z3 := lv_neT c21 (a := 3) (by decide); omega) (by decide) ?_
            refine lv_iconst (v := 0) hx hb d_FR_does_119 (by decide) ?_
            exact fr_zret hx hb hr hlocks (Or.inl rfl) h hH hK hX hS d_FR_does_120
  · replace h := fr_ift c3 h
    refine lv_iconst (v := 0) hx hb d_FR_does_8 (by decide) ?_
    exact fr_zret hx hb hr hlocks (Or.inl rfl) h hH hK hX hS d_FR_does_9
set_option maxHeartbeats 4000000 in
set_option maxRecDepth 100000 in
theorem c_FR_cut (l : Launch) (D : va_G) (T : Nat → ClassId) (A : Nat → Prop) (σ : fr_S) (h0 : Nat) (x1 : Int32) (x2 : Int32) (x3 : Int32) (r : Int32) (σ1 : fr_S) (h : m_FR_cut h0 x1 x2 x3 σ = some (r, σ1)) : Met l y_FR_cut (Cond.code y_FR_cut b_FR_cut 4 (some .boolean) :: fr_W) ({ frames := 1, cells := 0, slots := 0, locals := 21 } : Room) (va_Pc [.ref h0, .int x1, .int x2, .int x3] (fr_B D T A σ)) (fr_Qi D T A r σ1) 0 0 A := by
  refine Met.ofW (cc := b_FR_cut) (maxL := 4) (ret := (some .boolean)) (by decide) rfl ?_
  intro p e s m args below meth c s₁ B hml hv
  obtain ⟨rfl, hH, hK, hX⟩ := hv
  have C0 : fr_At p s m _ meth c "FetchRules" b_FR_cut 4 (some .boolean) := fr_at B hml
  obtain ⟨hx, hb, hr, hml, hown, hts, hlocks⟩ := id C0
  have hS : va_S A s.heap s.heap [] := va_S.rf
  have hl := lv_entry ([.ref h0, .int x1, .int x2, .int x3]) (n := 4) (Nat.le_of_ble_eq_true rfl)
  rw [lg_entry_eq]
  generalize (lg_sl ([.ref h0, .int x1, .int x2, .int x3]) ++ List.replicate (4 - (lg_sl ([.ref h0, .int x1, .int x2, .int x3])).length) Slot.unset).toArray = ls at hl ⊢
  have hl : lv_has ls 4 [(0, .ref h0), (1, .int x1), (2, .int x2), (3, .int x3)] := hl
  unfold m_FR_cut at h
  refine lv_aload_n hx hb d_FR_cut_0 rfl (lv_at hl 0 rfl) ?_
  refine lv_iload_n hx hb d_FR_cut_1 rfl (lv_at hl 1 rfl) ?_
  obtain ⟨u1, e1, h⟩ := fr_bind h
  obtain ⟨r2, e2, h⟩ := fr_bind h
  refine fr_calli (fr_V (As := [.int x1]) (rest := []) ⟨hx, hb, hml, hown, hts⟩ (c_FR_isPlace l D T A σ h0 x1 r2 e2) k_297 mv_FR_isPlace rfl rfl ⟨Nat.le_of_ble_eq_true rfl, Nat.le_of_ble_eq_true rfl⟩ (fr_preV hK hX hH e1 rfl _) rfl hl.1 rfl (Nat.le_of_ble_eq_true rfl) d_FR_cut_2 ⟨Nat.zero_le _, Nat.zero_le _⟩) hS (fun H locs hH hS => ?_)
  refine lv_if_eq (tgt := 28) hx hb d_FR_cut_5 (by decide) (fun c3 => ?_) (fun c3 => ?_)
  · replace h := fr_ift c3 h
    refine lv_iconst (v := 0) hx hb d_FR_cut_28 (by decide) ?_
    exact fr_zret hx hb hr hlocks (Or.inl rfl) h hH hK hX hS d_FR_cut_29
  · replace h := fr_iff c3 h
    refine lv_iload_n hx hb d_FR_cut_8 rfl (lv_at hl 2 rfl) ?_
    refine lv_if_lt (tgt := 28) hx hb d_FR_cut_9 (by decide) (fun c4 => ?_) (fun c4 => ?_)
    · replace h := fr_ift c4 h
      refine lv_iconst (v := 0) hx hb d_FR_cut_28 (by decide) ?_
      exact fr_zret hx hb hr hlocks (Or.inl rfl) h hH hK hX hS d_FR_cut_29
    · replace h := fr_iff c4 h
      refine lv_iload_n hx hb d_FR_cut_12 rfl (lv_at hl 2 rfl) ?_
      refine lv_bipush (v := 9) hx hb d_FR_cut_13 (by decide) ?_
      refine lv_icmp_gt (tgt := 28) hx hb d_FR_cut_15 (by decide) (fun c5 => ?_) (fun c5 => ?_)
      · replace h := fr_ift c5 h
        refine lv_iconst (v := 0) hx hb d_FR_cut_28 (by decide) ?_
        exact fr_zret hx hb hr hlocks (Or.inl rfl) h hH hK hX hS d_FR_cut_29
      · replace h := fr_iff c5 h
        refine lv_iload_n hx hb d_FR_cut_18 rfl (lv_at hl 3 rfl) ?_
        refine lv_if_lt (tgt := 28) hx hb d_FR_cut_19 (by decide) (fun c6 => ?_) (fun c6 => ?_)
        · replace h := fr_ift c6 h
          refine lv_iconst (v := 0) hx hb d_FR_cut_28 (by decide) ?_
          exact fr_zret hx hb hr hlocks (Or.inl rfl) h hH hK hX hS d_FR_cut_29
        · replace h := fr_iff c6 h
          refine lv_iload_n hx hb d_FR_cut_22 rfl (lv_at hl 3 rfl) ?_
          refine lv_bipush (v := 100) hx hb d_FR_cut_23 (by decide) ?_
          refine lv_icmp_le (tgt := 30) hx hb d_FR_cut_25 (by decide) (fun c7 => ?_) (fun c7 => ?_)
          · replace h := fr_ift c7 h
            refine lv_aload_n hx hb d_FR_cut_30 rfl (lv_at hl 0 rfl) ?_
            obtain ⟨q8, e8, h⟩ := fr_bind h
            refine fr_gP hx hb hts in_FR hown hK hH e8 rfl 3 (by decide) (hts _ k_242) (fun _ h9 => h9) rfl d_FR_cut_31 ?_
            refine lv_iload_n hx hb d_FR_cut_34 rfl (lv_at hl 1 rfl) ?_
            obtain ⟨q9, e9, h⟩ := fr_bind h
            refine fr_qld hx hb hK hH e9 (by decide) rfl d_FR_cut_35 ?_
            refine lv_iload_n hx hb d_FR_cut_36 rfl (lv_at hl 2 rfl) ?_
            obtain ⟨σ_10, e10, h⟩ := fr_bind h
            refine fr_putI hx hb hts in_Place ty_Place tk_Place nm_Place hown hK hH hS e10 rfl 4 (by decide) (hts _ k_163) (fun _ h9 => h9) rfl (by decide +kernel) (fs_3_4 _ _ _) (Nat.le_of_ble_eq_true rfl) d_FR_cut_37 (fun H locs hH hS => ?_)
            refine lv_aload_n hx hb d_FR_cut_40 rfl (lv_at hl 0 rfl) ?_
            obtain ⟨q11, e11, h⟩ := fr_bind h
            refine fr_gP hx hb hts in_FR hown hK hH e11 rfl 3 (by decide) (hts _ k_242) (fun _ h9 => h9) rfl d_FR_cut_41 ?_
            refine lv_iload_n hx hb d_FR_cut_44 rfl (lv_at hl 1 rfl) ?_
            obtain ⟨q12, e12, h⟩ := fr_bind h
            refine fr_qld hx hb hK hH e12 (by decide) rfl d_FR_cut_45 ?_
            refine lv_iload_n hx hb d_FR_cut_46 rfl (lv_at hl 3 rfl) ?_
            obtain ⟨σ_13, e13, h⟩ := fr_bind h
            refine fr_putI hx hb hts in_Place ty_Place tk_Place nm_Place hown hK hH hS e13 rfl 5 (by decide) (hts _ k_165) (fun _ h9 => h9) rfl (by decide +kernel) (fs_3_5 _ _ _) (Nat.le_of_ble_eq_true rfl) d_FR_cut_47 (fun H locs hH hS => ?_)
            refine lv_iconst (v := 1) hx hb d_FR_cut_50 (by decide) ?_
            exact fr_zret hx hb hr hlocks (Or.inr rfl) h hH hK hX hS d_FR_cut_51
          · replace h := fr_iff c7 h
            refine lv_iconst (v := 0) hx hb d_FR_cut_28 (by decide) ?_
            exact fr_zret hx hb hr hlocks (Or.inl rfl) h hH hK hX hS d_FR_cut_29
set_option maxHeartbeats 4000000 in
set_option maxRecDepth 100000 in
theorem w_Row_computeDigest_L4 {p : Program} {l : Launch} {e : Env} {s : State} {m : MethodId} {args : Array Value} {below : List Frame} {meth : Method} {c : Code} {D : va_G} {T : Nat → ClassId} {A : Nat → Prop} (C0 : fr_At p s m args meth c "FetchRules$Row" b_Row_computeDigest 4 (some .int)) (hK : va_K D vwCl (fr_tys T) s) (hX : fr_X s) :
    ∀ (n : Nat) (b0 : Nat) (y1 : Int32) (y2 : Int32) (σ : fr_S) (r : Int32), m_Row_computeDigest_L4 n b0 y1 y2 σ = some r → ∀ (H : Heap) (locs : List Loc), fr_H D T A σ H → va_S A s.heap H locs → ∀ (ls : Array Slot), lv_has ls 4 [(0, .ref b0), (1, .int y1), (2, .int y2)] → W p l e (headSpec (Cond.code y_Row_computeDigest b_Row_computeDigest 4 (some .int) :: fr_W) ({ frames := 0, cells := 0, slots := 0, locals := 0 } : Room)).room s m args below meth c H locs 0 0 (MQ below (fr_Qi D T A r σ) args s 0 0 A) (F0 m 4 ls []) := by
  obtain ⟨hx, hb, hr, hml, hown, hts, hlocks⟩ := id C0
  intro n
  induction n with
  | zero => intro b0 y1 y2 σ r h; cases h
  | succ n ih =>
    intro b0 y1 y2 σ r h H locs hH hS ls hl
    unfold m_Row_computeDigest_L4 at h
    refine lv_iload_n hx hb d_Row_computeDigest_4 rfl (lv_at hl 2 rfl) ?_
    refine lv_aload_n hx hb d_Row_computeDigest_5 rfl (lv_at hl 0 rfl) ?_
    obtain ⟨v1, e1, h⟩ := fr_bind h
    refine fr_gI hx hb hts in_Row hown hK hH e1 rfl 1 (by decide) (hts _ k_68) (fun _ h9 => h9) rfl d_Row_computeDigest_6 ?_
    refine lv_icmp_ge (tgt := 39) hx hb d_Row_computeDigest_9 (by decide) (fun c2 => ?_) (fun c2 => ?_)
    · replace h := fr_ift c2 h
      refine lv_iload_n hx hb d_Row_computeDigest_39 rfl (lv_at hl 1 rfl) ?_
      exact fr_iretO hx hb hr hlocks  h hH hK hX hS d_Row_computeDigest_40
    · replace h := fr_iff c2 h
      refine lv_iload_n hx hb d_Row_computeDigest_12 rfl (lv_at hl 1 rfl) ?_
      refine lv_aload_n hx hb d_Row_computeDigest_13 rfl (lv_at hl 0 rfl) ?_
      obtain ⟨q3, e3, h⟩ := fr_bind h
      refine fr_gP hx hb hts in_Row hown hK hH e3 rfl 0 (by decide) (hts _ k_67) (fun _ h9 => h9) rfl d_Row_computeDigest_14 ?_
      refine lv_iload_n hx hb d_Row_computeDigest_17 rfl (lv_at hl 2 rfl) ?_
      obtain ⟨v4, e4, h⟩ := fr_bind h
      refine fr_ild hx hb hK hH e4 d_Row_computeDigest_18 ?_
      refine lv_ixor hx hb d_Row_computeDigest_19 ?_
      refine lv_istore_n (lv' := [(3, .int (y1 ^^^ v4)), (0, .ref b0), (1, .int y1), (2, .int y2)]) hx hb d_Row_computeDigest_20 rfl hl (by decide) rfl (fun ls hl => ?_)
      refine lv_iload_n hx hb d_Row_computeDigest_21 rfl (lv_at hl 0 rfl) ?_
      refine lv_iconst (v := 5) hx hb d_Row_computeDigest_22 (by decide) ?_
      refine lv_ishl hx hb d_Row_computeDigest_23 ?_
      refine lv_iload_n hx hb d_Row_computeDigest_24 rfl (lv_at hl 0 rfl) ?_
      refine lv_bipush (v := 27) hx hb d_Row_computeDigest_25 (by decide) ?_
      refine lv_iushr (v := (fr_ushr (y1 ^^^ v4) 27)) hx hb d_Row_computeDigest_27 rfl ?_
      refine lv_ior hx hb d_Row_computeDigest_28 ?_
      refine lv_ldc (v := (-2048144777)) hx hb hown (hts _ k_321) d_Row_computeDigest_29 ?_
      refine lv_imul hx hb d_Row_computeDigest_31 ?_
      refine lv_istore_n (lv' := [(1, .int ((((y1 ^^^ v4) <<< (5 &&& 31)) ||| (fr_ushr (y1 ^^^ v4) 27)) * (-2048144777))), (3, .int (y1 ^^^ v4)), (0, .ref b0), (2, .int y2)]) hx hb d_Row_computeDigest_32 rfl hl (by decide) rfl (fun ls hl => ?_)
      refine lv_iinc (v := (y2 + 1)) (lv' := [(2, .int (y2 + 1)), (1, .int ((((y1 ^^^ v4) <<< (5 &&& 31)) ||| (fr_ushr (y1 ^^^ v4) 27)) * (-2048144777))), (3, .int (y1 ^^^ v4)), (0, .ref b0)]) hx hb d_Row_computeDigest_33 hl (k := 3) rfl rfl (by decide) rfl (fun ls hl => ?_)
      refine lv_goto (tgt := 4) hx hb d_Row_computeDigest_36 (by decide) ?_
      exact ih b0 ((((y1 ^^^ v4) <<< (5 &&& 31)) ||| (fr_ushr (y1 ^^^ v4) 27)) * (-2048144777)) (y2 + 1) σ r h _ _ hH hS ls (lv_sub hl [3, 1, 0] rfl)
set_option maxHeartbeats 4000000 in
set_option maxRecDepth 100000 in
theorem c_Row_computeDigest (l : Launch) (D : va_G) (T : Nat → ClassId) (A : Nat → Prop) (σ : fr_S) (h0 : Nat) (r : Int32) (h : m_Row_computeDigest h0 σ = some r) : Met l y_Row_computeDigest (Cond.code y_Row_computeDigest b_Row_computeDigest 4 (some .int) :: fr_W) ({ frames := 0, cells := 0, slots := 0, locals := 0 } : Room) (va_Pc [.ref h0] (fr_B D T A σ)) (fr_Qi D T A r σ) 0 0 A := by
  refine Met.ofW (cc := b_Row_computeDigest) (maxL := 4) (ret := (some .int)) (by decide) rfl ?_
  intro p e s m args below meth c s₁ B hml hv
  obtain ⟨rfl, hH, hK, hX⟩ := hv
  have C0 : fr_At p s m _ meth c "FetchRules$Row" b_Row_computeDigest 4 (some .int) := fr_at B hml
  obtain ⟨hx, hb, hr, hml, hown, hts, hlocks⟩ := id C0
  have hS : va_S A s.heap s.heap [] := va_S.rf
  have hl := lv_entry ([.ref h0]) (n := 4) (Nat.le_of_ble_eq_true rfl)
  rw [lg_entry_eq]
  generalize (lg_sl ([.ref h0]) ++ List.replicate (4 - (lg_sl ([.ref h0])).length) Slot.unset).toArray = ls at hl ⊢
  have hl : lv_has ls 4 [(0, .ref h0)] := hl
  unfold m_Row_computeDigest at h
  refine lv_iconst (v := 0) hx hb d_Row_computeDigest_0 (by decide) ?_
  refine lv_istore_n (lv' := [(1, .int 0), (0, .ref h0)]) hx hb d_Row_computeDigest_1 rfl hl (by decide) rfl (fun ls hl => ?_)
  refine lv_iconst (v := 0) hx hb d_Row_computeDigest_2 (by decide) ?_
  refine lv_istore_n (lv' := [(2, .int 0), (1, .int 0), (0, .ref h0)]) hx hb d_Row_computeDigest_3 rfl hl (by decide) rfl (fun ls hl => ?_)
  exact w_Row_computeDigest_L4 C0 hK hX 1000 h0 0 0 σ r h _ _ hH hS ls (lv_sub hl [2, 1, 0] rfl)
set_option maxHeartbeats 4000000 in
set_option maxRecDepth 100000 in
theorem c_FR_digest (l : Launch) (D : va_G) (T : Nat → ClassId) (A : Nat → Prop) (σ : fr_S) (h0 : Nat) (x1 : Int32) (r : Int32) (h : m_FR_digest h0 x1 σ = some r) : Met l y_FR_digest (Cond.code y_FR_digest b_FR_digest 2 (some .int) :: fr_W) ({ frames := 1, cells := 0, slots := 0, locals := 23 } : Room) (va_Pc [.ref h0, .int x1] (fr_B D T A σ)) (fr_Qi D T A r σ) 0 0 A := by
  refine Met.ofW (cc := b_FR_digest) (maxL := 2) (ret := (some .int)) (by decide) rfl ?_
  intro p e s m args below meth c s₁ B hml hv
  obtain ⟨rfl, hH, hK, hX⟩ := hv
  have C0 : fr_At p s m _ meth c "FetchRules" b_FR_digest 2 (some .int) := fr_at B hml
  obtain ⟨hx, hb, hr, hml, hown, hts, hlocks⟩ := id C0
  have hS : va_S A s.heap s.heap [] := va_S.rf
  have hl := lv_entry ([.ref h0, .int x1]) (n := 2) (Nat.le_of_ble_eq_true rfl)
  rw [lg_entry_eq]
  generalize (lg_sl ([.ref h0, .int x1]) ++ List.replicate (2 - (lg_sl ([.ref h0, .int x1])).length) Slot.unset).toArray = ls at hl ⊢
  have hl : lv_has ls 2 [(0, .ref h0), (1, .int x1)] := hl
  unfold m_FR_digest at h
  refine lv_aload_n hx hb d_FR_digest_0 rfl (lv_at hl 0 rfl) ?_
  refine lv_iload_n hx hb d_FR_digest_1 rfl (lv_at hl 1 rfl) ?_
  obtain ⟨u1, e1, h⟩ := fr_bind h
  obtain ⟨r2, e2, h⟩ := fr_bind h
  refine fr_calli (fr_V (As := [.int x1]) (rest := []) ⟨hx, hb, hml, hown, hts⟩ (c_FR_isPlace l D T A σ h0 x1 r2 e2) k_297 mv_FR_isPlace rfl rfl ⟨Nat.le_of_ble_eq_true rfl, Nat.le_of_ble_eq_true rfl⟩ (fr_preV hK hX hH e1 rfl _) rfl hl.1 rfl (Nat.le_of_ble_eq_true rfl) d_FR_digest_2 ⟨Nat.zero_le _, Nat.zero_le _⟩) hS (fun H locs hH hS => ?_)
  refine lv_if_eq (tgt := 23) hx hb d_FR_digest_5 (by decide) (fun c3 => ?_) (fun c3 => ?_)
  · replace h := fr_ift c3 h
    refine lv_iconst (v := 0) hx hb d_FR_digest_23 (by decide) ?_
    exact fr_iretO hx hb hr hlocks  h hH hK hX hS d_FR_digest_24
  · replace h := fr_iff c3 h
    refine lv_aload_n hx hb d_FR_digest_8 rfl (lv_at hl 0 rfl) ?_
    obtain ⟨q4, e4, h⟩ := fr_bind h
    refine fr_gP hx hb hts in_FR hown hK hH e4 rfl 3 (by decide) (hts _ k_242) (fun _ h9 => h9) rfl d_FR_digest_9 ?_
    refine lv_iload_n hx hb d_FR_digest_12 rfl (lv_at hl 1 rfl) ?_
    obtain ⟨q5, e5, h⟩ := fr_bind h
    refine fr_qld hx hb hK hH e5 (by decide) rfl d_FR_digest_13 ?_
    obtain ⟨q6, e6, h⟩ := fr_bind h
    refine fr_gP hx hb hts in_Place hown hK hH e6 rfl 0 (by decide) (hts _ k_155) (fun _ h9 => h9) rfl d_FR_digest_14 ?_
    obtain ⟨u7, e7, h⟩ := fr_bind h
    obtain ⟨r8, e8, h⟩ := fr_bind h
    refine fr_calli (fr_V (As := []) (rest := []) ⟨hx, hb, hml, hown, hts⟩ (c_Row_computeDigest l D T A σ q6 r8 e8) k_317 mv_Row_computeDigest rfl rfl ⟨Nat.le_of_ble_eq_true rfl, Nat.le_of_ble_eq_true rfl⟩ (fr_preV hK hX hH e7 rfl _) rfl hl.1 rfl (Nat.le_of_ble_eq_true rfl) d_FR_digest_17 ⟨Nat.zero_le _, Nat.zero_le _⟩) hS (fun H locs hH hS => ?_)
    refine lv_goto (tgt := 24) hx hb d_FR_digest_20 (by decide) ?_
    exact fr_iretO hx hb hr hlocks  h hH hK hX hS d_FR_digest_24
set_option maxHeartbeats 4000000 in
set_option maxRecDepth 100000 in
theorem c_FR_want (l : Launch) (D : va_G) (T : Nat → ClassId) (A : Nat → Prop) (σ : fr_S) (h0 : Nat) (x1 : Int32) (r : Int32) (σ1 : fr_S) (h : m_FR_want h0 x1 σ = some (r, σ1)) : Met l y_FR_want (Cond.code y_FR_want b_FR_want 2 (some .int) :: fr_W) ({ frames := 0, cells := 0, slots := 0, locals := 0 } : Room) (va_Pc [.ref h0, .int x1] (fr_B D T A σ)) (fr_Qi D T A r σ1) 0 0 A := by
  refine Met.ofW (cc := b_FR_want) (maxL := 2) (ret := (some .int)) (by decide) rfl ?_
  intro p e s m args below meth c s₁ B hml hv
  obtain ⟨rfl, hH, hK, hX⟩ := hv
  have C0 : fr_At p s m _ meth c "FetchRules" b_FR_want 2 (some .int) := fr_at B hml
  obtain ⟨hx, hb, hr, hml, hown, hts, hlocks⟩ := id C0
  have hS : va_S A s.heap s.heap [] := va_S.rf
  have hl := lv_entry ([.ref h0, .int x1]) (n := 2) (Nat.le_of_ble_eq_true rfl)
  rw [lg_entry_eq]
  generalize (lg_sl ([.ref h0, .int x1]) ++ List.replicate (2 - (lg_sl ([.ref h0, .int x1])).length) Slot.unset).toArray = ls at hl ⊢
  have hl : lv_has ls 2 [(0, .ref h0), (1, .int x1)] := hl
  unfold m_FR_want at h
  refine lv_aload_n hx hb d_FR_want_0 rfl (lv_at hl 0 rfl) ?_
  obtain ⟨v1, e1, h⟩ := fr_bind h
  refine fr_gI hx hb hts in_FR hown hK hH e1 rfl 6 (by decide) (hts _ k_245) (fun _ h9 => h9) rfl d_FR_want_1 ?_
  refine lv_bipush (v := 10) hx hb d_FR_want_4 (by decide) ?_
  refine lv_icmp_lt (tgt := 11) hx hb d_FR_want_6 (by decide) (fun c2 => ?_) (fun c2 => ?_)
  · replace h := fr_ift c2 h
    refine lv_aload_n hx hb d_FR_want_11 rfl (lv_at hl 0 rfl) ?_
    obtain ⟨q3, e3, h⟩ := fr_bind h
    refine fr_gP hx hb hts in_FR hown hK hH e3 rfl 5 (by decide) (hts _ k_244) (fun _ h9 => h9) rfl d_FR_want_12 ?_
    refine lv_aload_n hx hb d_FR_want_15 rfl (lv_at hl 0 rfl) ?_
    obtain ⟨v4, e4, h⟩ := fr_bind h
    refine fr_gI hx hb hts in_FR hown hK hH e4 rfl 6 (by decide) (hts _ k_245) (fun _ h9 => h9) rfl d_FR_want_16 ?_
    obtain ⟨q5, e5, h⟩ := fr_bind h
    refine fr_qld hx hb hK hH e5 (by decide) rfl d_FR_want_19 ?_
    refine lv_iload_n hx hb d_FR_want_20 rfl (lv_at hl 1 rfl) ?_
    obtain ⟨σ_6, e6, h⟩ := fr_bind h
    refine fr_putI hx hb hts in_Want ty_Want tk_Want nm_Want hown hK hH hS e6 rfl 3 (by decide) (hts _ k_209) (fun _ h9 => h9) rfl (by decide +kernel) (fs_7_3 _ _ _) (Nat.le_of_ble_eq_true rfl) d_FR_want_21 (fun H locs hH hS => ?_)
    refine lv_aload_n hx hb d_FR_want_24 rfl (lv_at hl 0 rfl) ?_
    refine lv_dup hx hb d_FR_want_25 rfl ?_
    obtain ⟨v7, e7, h⟩ := fr_bind h
    refine fr_gI hx hb hts in_FR hown hK hH e7 rfl 6 (by decide) (hts _ k_245) (fun _ h9 => h9) rfl d_FR_want_26 ?_
    refine lv_dup_x1 hx hb d_FR_want_29 rfl rfl ?_
    refine lv_iconst (v := 1) hx hb d_FR_want_30 (by decide) ?_
    refine lv_iadd hx hb d_FR_want_31 ?_
    obtain ⟨σ_8, e8, h⟩ := fr_bind h
    refine fr_putI hx hb hts in_FR ty_FR tk_FR nm_FR hown hK hH hS e8 rfl 6 (by decide) (hts _ k_245) (fun _ h9 => h9) rfl (by decide +kernel) (fs_1_6 _ _ _) (Nat.le_of_ble_eq_true rfl) d_FR_want_32 (fun H locs hH hS => ?_)
    exact fr_iret hx hb hr hlocks  h hH hK hX hS d_FR_want_35
  · replace h := fr_iff c2 h
    refine lv_iconst (v := (-1)) hx hb d_FR_want_9 (by decide) ?_
    exact fr_iret hx hb hr hlocks  h hH hK hX hS d_FR_want_10
