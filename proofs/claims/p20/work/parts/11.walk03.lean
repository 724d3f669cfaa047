set_option maxHeartbeats 4000000 in
set_option maxRecDepth 100000 in
theorem c_FR_checkDigest (l : Launch) (D : va_G) (T : Nat → ClassId) (A : Nat → Prop) (σ : fr_S) (h0 : Nat) (x1 : Int32) (σ1 : fr_S) (h : m_FR_checkDigest h0 x1 σ = some σ1) : Met l y_FR_checkDigest (Cond.code y_FR_checkDigest b_FR_checkDigest 5 none :: fr_W) ({ frames := 3, cells := 0, slots := 0, locals := 103 } : Room) (va_Pc [.ref h0, .int x1] (fr_B D T A σ)) (fr_Qv D T A σ1) 0 0 A := by
  refine Met.ofW (cc := b_FR_checkDigest) (maxL := 5) (ret := none) (by decide) rfl ?_
  intro p e s m args below meth c s₁ B hml hv
  obtain ⟨rfl, hH, hK, hX⟩ := hv
  have C0 : fr_At p s m _ meth c "FetchRules" b_FR_checkDigest 5 none := fr_at B hml
  obtain ⟨hx, hb, hr, hml, hown, hts, hlocks⟩ := id C0
  have hS : va_S A s.heap s.heap [] := va_S.rf
  have hl := lv_entry ([.ref h0, .int x1]) (n := 5) (Nat.le_of_ble_eq_true rfl)
  rw [lg_entry_eq]
  generalize (lg_sl ([.ref h0, .int x1]) ++ List.replicate (5 - (lg_sl ([.ref h0, .int x1])).length) Slot.unset).toArray = ls at hl ⊢
  have hl : lv_has ls 5 [(0, .ref h0), (1, .int x1)] := hl
  unfold m_FR_checkDigest at h
  refine lv_aload_n hx hb d_FR_checkDigest_0 rfl (lv_at hl 0 rfl) ?_
  obtain ⟨q1, e1, h⟩ := fr_bind h
  refine fr_gP hx hb hts in_FR hown hK hH e1 rfl 5 (by decide) (hts _ k_244) (fun _ h9 => h9) rfl d_FR_checkDigest_1 ?_
  refine lv_iload_n hx hb d_FR_checkDigest_4 rfl (lv_at hl 1 rfl) ?_
  obtain ⟨q2, e2, h⟩ := fr_bind h
  refine fr_qld hx hb hK hH e2 (by decide) rfl d_FR_checkDigest_5 ?_
  refine lv_astore_n (lv' := [(2, .ref q2), (0, .ref h0), (1, .int x1)]) hx hb d_FR_checkDigest_6 rfl hl (by decide) rfl (fun ls hl => ?_)
  refine lv_aload_n hx hb d_FR_checkDigest_7 rfl (lv_at hl 0 rfl) ?_
  obtain ⟨q3, e3, h⟩ := fr_bind h
  refine fr_gP hx hb hts in_Want hown hK hH e3 rfl 0 (by decide) (hts _ k_203) (fun _ h9 => h9) rfl d_FR_checkDigest_8 ?_
  obtain ⟨u4, e4, h⟩ := fr_bind h
  obtain ⟨r5, e5, h⟩ := fr_bind h
  refine fr_calli (fr_V (As := []) (rest := []) ⟨hx, hb, hml, hown, hts⟩ (c_Row_computeDigest l D T A σ q3 r5 e5) k_317 mv_Row_computeDigest rfl rfl ⟨Nat.le_of_ble_eq_true rfl, Nat.le_of_ble_eq_true rfl⟩ (fr_preV hK hX hH e4 rfl _) rfl hl.1 rfl (Nat.le_of_ble_eq_true rfl) d_FR_checkDigest_11 ⟨Nat.zero_le _, Nat.zero_le _⟩) hS (fun H locs hH hS => ?_)
  refine lv_istore_n (lv' := [(3, .int r5), (2, .ref q2), (0, .ref h0), (1, .int x1)]) hx hb d_FR_checkDigest_14 rfl hl (by decide) rfl (fun ls hl => ?_)
  refine lv_iload_n hx hb d_FR_checkDigest_15 rfl (lv_at hl 0 rfl) ?_
  refine lv_aload_n hx hb d_FR_checkDigest_16 rfl (lv_at hl 1 rfl) ?_
  obtain ⟨v6, e6, h⟩ := fr_bind h
  refine fr_gI hx hb hts in_Want hown hK hH e6 rfl 3 (by decide) (hts _ k_209) (fun _ h9 => h9) rfl d_FR_checkDigest_17 ?_
  refine lv_icmp_ne (tgt := 41) hx hb d_FR_checkDigest_20 (by decide) (fun c7 => ?_) (fun c7 => ?_)
  · replace h := fr_iff c7 h
    refine lv_aload_n hx hb d_FR_checkDigest_41 rfl (lv_at hl 1 rfl) ?_
    obtain ⟨u8, e8, h⟩ := fr_bind h
    obtain ⟨r9, e9, h⟩ := fr_bind h
    refine fr_calli (fr_V (As := []) (rest := []) ⟨hx, hb, hml, hown, hts⟩ (c_Want_currentPlace l D T A σ q2 r9 e9) k_385 mv_Want_currentPlace rfl rfl ⟨Nat.le_of_ble_eq_true rfl, Nat.le_of_ble_eq_true rfl⟩ (fr_preV hK hX hH e8 rfl _) rfl hl.1 rfl (Nat.le_of_ble_eq_true rfl) d_FR_checkDigest_42 ⟨Nat.zero_le _, Nat.zero_le _⟩) hS (fun H locs hH hS => ?_)
    refine lv_istore (lv' := [(4, .int r9), (3, .int r5), (2, .ref q2), (0, .ref h0), (1, .int x1)]) hx hb d_FR_checkDigest_45 hl (by decide) rfl (fun ls hl => ?_)
    refine lv_aload_n hx hb d_FR_checkDigest_47 rfl (lv_at hl 3 rfl) ?_
    refine lv_iload hx hb d_FR_checkDigest_48 (lv_at hl 0 rfl) ?_
    obtain ⟨u10, e10, h⟩ := fr_bind h
    obtain ⟨r11, e11, h⟩ := fr_bind h
    refine fr_calli (fr_V (As := [.int r9]) (rest := []) ⟨hx, hb, hml, hown, hts⟩ (c_FR_isPlace l D T A σ h0 r9 r11 e11) k_297 mv_FR_isPlace rfl rfl ⟨Nat.le_of_ble_eq_true rfl, Nat.le_of_ble_eq_true rfl⟩ (fr_preV hK hX hH e10 rfl _) rfl hl.1 rfl (Nat.le_of_ble_eq_true rfl) d_FR_checkDigest_50 ⟨Nat.zero_le _, Nat.zero_le _⟩) hS (fun H locs hH hS => ?_)
    refine lv_if_eq (tgt := 78) hx hb d_FR_checkDigest_53 (by decide) (fun c12 => ?_) (fun c12 => ?_)
    · replace h := fr_ift c12 h
      refine lv_aload_n hx hb d_FR_checkDigest_78 rfl (lv_at hl 3 rfl) ?_
      refine lv_aload_n hx hb d_FR_checkDigest_79 rfl (lv_at hl 2 rfl) ?_
      obtain ⟨u13, e13, h⟩ := fr_bind h
      obtain ⟨σ_14, e14, h⟩ := fr_bind h
      refine fr_callv (fr_V (As := [.ref q2]) (rest := []) ⟨hx, hb, hml, hown, hts⟩ (c_FR_giveUp l D T A σ h0 q2 σ_14 e14) k_405 mv_FR_giveUp rfl rfl ⟨Nat.le_of_ble_eq_true rfl, Nat.le_of_ble_eq_true rfl⟩ (fr_preV hK hX hH e13 rfl _) rfl hl.1 rfl (Nat.le_of_ble_eq_true rfl) d_FR_checkDigest_80 ⟨Nat.zero_le _, Nat.zero_le _⟩) hS (fun H locs hH hS => ?_)
      exact fr_vret hx hb hr hlocks h hH hK hX hS d_FR_checkDigest_83
    · replace h := fr_iff c12 h
      refine lv_aload_n hx hb d_FR_checkDigest_56 rfl (lv_at hl 3 rfl) ?_
      obtain ⟨q15, e15, h⟩ := fr_bind h
      refine fr_gP hx hb hts in_FR hown hK hH e15 rfl 3 (by decide) (hts _ k_242) (fun _ h9 => h9) rfl d_FR_checkDigest_57 ?_
      refine lv_iload hx hb d_FR_checkDigest_60 (lv_at hl 0 rfl) ?_
      obtain ⟨q16, e16, h⟩ := fr_bind h
      refine fr_qld hx hb hK hH e16 (by decide) rfl d_FR_checkDigest_62 ?_
      refine lv_iconst (v := 1) hx hb d_FR_checkDigest_63 (by decide) ?_
      obtain ⟨σ_17, e17, h⟩ := fr_bind h
      refine fr_putZ hx hb hts in_Place ty_Place tk_Place nm_Place hown hK hH hS e17 rfl 9 (by decide) (hts _ k_173) (fun _ h9 => h9) rfl (by decide +kernel) (fs_3_9 _ _ _) (Nat.le_of_ble_eq_true rfl) d_FR_checkDigest_64 (fun H locs hH hS => ?_)
      refine lv_aload_n hx hb d_FR_checkDigest_67 rfl (lv_at hl 3 rfl) ?_
      obtain ⟨q18, e18, h⟩ := fr_bind h
      refine fr_gP hx hb hts in_FR hown hK hH e18 rfl 8 (by decide) (hts _ k_247) (fun _ h9 => h9) rfl d_FR_checkDigest_68 ?_
      refine lv_iload_n hx hb d_FR_checkDigest_71 rfl (lv_at hl 4 rfl) ?_
      refine lv_iload hx hb d_FR_checkDigest_72 (lv_at hl 0 rfl) ?_
      refine lv_iload_n hx hb d_FR_checkDigest_74 rfl (lv_at hl 1 rfl) ?_
      obtain ⟨u19, e19, h⟩ := fr_bind h
      obtain ⟨σ_20, e20, h⟩ := fr_bind h
      refine fr_callv (fr_V (As := [.int x1, .int r9, .int r5]) (rest := []) ⟨hx, hb, hml, hown, hts⟩ (c_Tellings_tell l D T A σ_17 q18 x1 r9 r5 σ_20 e20) k_433 mv_Tellings_tell rfl rfl ⟨Nat.le_of_ble_eq_true rfl, Nat.le_of_ble_eq_true rfl⟩ (fr_preV hK hX hH e19 rfl _) rfl hl.1 rfl (Nat.le_of_ble_eq_true rfl) d_FR_checkDigest_75 ⟨Nat.zero_le _, Nat.zero_le _⟩) hS (fun H locs hH hS => ?_)
      refine lv_aload_n hx hb d_FR_checkDigest_78 rfl (lv_at hl 3 rfl) ?_
      refine lv_aload_n hx hb d_FR_checkDigest_79 rfl (lv_at hl 2 rfl) ?_
      obtain ⟨u21, e21, h⟩ := fr_bind h
      obtain ⟨σ_22, e22, h⟩ := fr_bind h
      refine fr_callv (fr_V (As := [.ref q2]) (rest := []) ⟨hx, hb, hml, hown, hts⟩ (c_FR_giveUp l D T A σ_20 h0 q2 σ_22 e22) k_405 mv_FR_giveUp rfl rfl ⟨Nat.le_of_ble_eq_true rfl, Nat.le_of_ble_eq_true rfl⟩ (fr_preV hK hX hH e21 rfl _) rfl hl.1 rfl (Nat.le_of_ble_eq_true rfl) d_FR_checkDigest_80 ⟨Nat.zero_le _, Nat.zero_le _⟩) hS (fun H locs hH hS => ?_)
      exact fr_vret hx hb hr hlocks h hH hK hX hS d_FR_checkDigest_83
  · replace h := fr_ift c7 h
    refine lv_aload_n hx hb d_FR_checkDigest_23 rfl (lv_at hl 1 rfl) ?_
    refine lv_iconst (v := 3) hx hb d_FR_checkDigest_24 (by decide) ?_
    obtain ⟨σ_23, e23, h⟩ := fr_bind h
    refine fr_putI hx hb hts in_Want ty_Want tk_Want nm_Want hown hK hH hS e23 rfl 4 (by decide) (hts _ k_211) (fun _ h9 => h9) rfl (by decide +kernel) (fs_7_4 _ _ _) (Nat.le_of_ble_eq_true rfl) d_FR_checkDigest_25 (fun H locs hH hS => ?_)
    refine lv_aload_n hx hb d_FR_checkDigest_28 rfl (lv_at hl 2 rfl) ?_
    obtain ⟨q24, e24, h⟩ := fr_bind h
    refine fr_gP hx hb hts in_FR hown hK hH e24 rfl 7 (by decide) (hts _ k_246) (fun _ h9 => h9) rfl d_FR_checkDigest_29 ?_
    refine lv_iload_n hx hb d_FR_checkDigest_32 rfl (lv_at hl 0 rfl) ?_
    refine lv_aload_n hx hb d_FR_checkDigest_33 rfl (lv_at hl 1 rfl) ?_
    obtain ⟨q25, e25, h⟩ := fr_bind h
    refine fr_gP hx hb hts in_Want hown hK hH e25 rfl 0 (by decide) (hts _ k_203) (fun _ h9 => h9) rfl d_FR_checkDigest_34 ?_
    obtain ⟨u26, e26, h⟩ := fr_bind h
    obtain ⟨σ_27, e27, h⟩ := fr_bind h
    refine fr_callv (fr_V (As := [.int r5, .ref q25]) (rest := []) ⟨hx, hb, hml, hown, hts⟩ (c_Store_keep l D T A σ_23 q24 r5 q25 σ_27 e27) k_427 mv_Store_keep rfl rfl ⟨Nat.le_of_ble_eq_true rfl, Nat.le_of_ble_eq_true rfl⟩ (fr_preV hK hX hH e26 rfl _) rfl hl.1 rfl (Nat.le_of_ble_eq_true rfl) d_FR_checkDigest_37 ⟨Nat.zero_le _, Nat.zero_le _⟩) hS (fun H locs hH hS => ?_)
    exact fr_vret hx hb hr hlocks h hH hK hX hS d_FR_checkDigest_40
set_option maxHeartbeats 4000000 in
set_option maxRecDepth 100000 in
theorem c_FR_falter (l : Launch) (D : va_G) (T : Nat → ClassId) (A : Nat → Prop) (σ : fr_S) (h0 : Nat) (a1 : Nat) (σ1 : fr_S) (h : m_FR_falter h0 a1 σ = some σ1) : Met l y_FR_falter (Cond.code y_FR_falter b_FR_falter 2 none :: fr_W) ({ frames := 3, cells := 0, slots := 0, locals := 65 } : Room) (va_Pc [.ref h0, .ref a1] (fr_B D T A σ)) (fr_Qv D T A σ1) 0 0 A := by
  refine Met.ofW (cc := b_FR_falter) (maxL := 2) (ret := none) (by decide) rfl ?_
  intro p e s m args below meth c s₁ B hml hv
  obtain ⟨rfl, hH, hK, hX⟩ := hv
  have C0 : fr_At p s m _ meth c "FetchRules" b_FR_falter 2 none := fr_at B hml
  obtain ⟨hx, hb, hr, hml, hown, hts, hlocks⟩ := id C0
  have hS : va_S A s.heap s.heap [] := va_S.rf
  have hl := lv_entry ([.ref h0, .ref a1]) (n := 2) (Nat.le_of_ble_eq_true rfl)
  rw [lg_entry_eq]
  generalize (lg_sl ([.ref h0, .ref a1]) ++ List.replicate (2 - (lg_sl ([.ref h0, .ref a1])).length) Slot.unset).toArray = ls at hl ⊢
  have hl : lv_has ls 2 [(0, .ref h0), (1, .ref a1)] := hl
  unfold m_FR_falter at h
  refine lv_aload_n hx hb d_FR_falter_0 rfl (lv_at hl 1 rfl) ?_
  obtain ⟨v1, e1, h⟩ := fr_bind h
  refine fr_gI hx hb hts in_Want hown hK hH e1 rfl 6 (by decide) (hts _ k_215) (fun _ h9 => h9) rfl d_FR_falter_1 ?_
  refine lv_aload_n hx hb d_FR_falter_4 rfl (lv_at hl 0 rfl) ?_
  obtain ⟨v2, e2, h⟩ := fr_bind h
  refine fr_gI hx hb hts in_FR hown hK hH e2 rfl 0 (by decide) (hts _ k_239) (fun _ h9 => h9) rfl d_FR_falter_5 ?_
  refine lv_icmp_lt (tgt := 17) hx hb d_FR_falter_8 (by decide) (fun c3 => ?_) (fun c3 => ?_)
  · replace h := fr_ift c3 h
    refine lv_aload_n hx hb d_FR_falter_17 rfl (lv_at hl 1 rfl) ?_
    refine lv_aload_n hx hb d_FR_falter_18 rfl (lv_at hl 0 rfl) ?_
    obtain ⟨v4, e4, h⟩ := fr_bind h
    refine fr_gI hx hb hts in_FR hown hK hH e4 rfl 13 (by decide) (hts _ k_252) (fun _ h9 => h9) rfl d_FR_falter_19 ?_
    refine lv_iconst (v := 1) hx hb d_FR_falter_22 (by decide) ?_
    refine lv_aload_n hx hb d_FR_falter_23 rfl (lv_at hl 1 rfl) ?_
    obtain ⟨v5, e5, h⟩ := fr_bind h
    refine fr_gI hx hb hts in_Want hown hK hH e5 rfl 6 (by decide) (hts _ k_215) (fun _ h9 => h9) rfl d_FR_falter_24 ?_
    refine lv_ishl hx hb d_FR_falter_27 ?_
    refine lv_iadd hx hb d_FR_falter_28 ?_
    obtain ⟨σ_6, e6, h⟩ := fr_bind h
    refine fr_putI hx hb hts in_Want ty_Want tk_Want nm_Want hown hK hH hS e6 rfl 7 (by decide) (hts _ k_217) (fun _ h9 => h9) rfl (by decide +kernel) (fs_7_7 _ _ _) (Nat.le_of_ble_eq_true rfl) d_FR_falter_29 (fun H locs hH hS => ?_)
    refine lv_aload_n hx hb d_FR_falter_32 rfl (lv_at hl 1 rfl) ?_
    refine lv_dup hx hb d_FR_falter_33 rfl ?_
    obtain ⟨v7, e7, h⟩ := fr_bind h
    refine fr_gI hx hb hts in_Want hown hK hH e7 rfl 6 (by decide) (hts _ k_215) (fun _ h9 => h9) rfl d_FR_falter_34 ?_
    refine lv_iconst (v := 1) hx hb d_FR_falter_37 (by decide) ?_
    refine lv_iadd hx hb d_FR_falter_38 ?_
    obtain ⟨σ_8, e8, h⟩ := fr_bind h
    refine fr_putI hx hb hts in_Want ty_Want tk_Want nm_Want hown hK hH hS e8 rfl 6 (by decide) (hts _ k_215) (fun _ h9 => h9) rfl (by decide +kernel) (fs_7_6 _ _ _) (Nat.le_of_ble_eq_true rfl) d_FR_falter_39 (fun H locs hH hS => ?_)
    refine lv_aload_n hx hb d_FR_falter_42 rfl (lv_at hl 1 rfl) ?_
    refine lv_iconst (v := 2) hx hb d_FR_falter_43 (by decide) ?_
    obtain ⟨σ_9, e9, h⟩ := fr_bind h
    refine fr_putI hx hb hts in_Want ty_Want tk_Want nm_Want hown hK hH hS e9 rfl 4 (by decide) (hts _ k_211) (fun _ h9 => h9) rfl (by decide +kernel) (fs_7_4 _ _ _) (Nat.le_of_ble_eq_true rfl) d_FR_falter_44 (fun H locs hH hS => ?_)
    exact fr_vret hx hb hr hlocks h hH hK hX hS d_FR_falter_47
  · replace h := fr_iff c3 h
    refine lv_aload_n hx hb d_FR_falter_11 rfl (lv_at hl 0 rfl) ?_
    refine lv_aload_n hx hb d_FR_falter_12 rfl (lv_at hl 1 rfl) ?_
    obtain ⟨u10, e10, h⟩ := fr_bind h
    obtain ⟨σ_11, e11, h⟩ := fr_bind h
    refine fr_callv (fr_V (As := [.ref a1]) (rest := []) ⟨hx, hb, hml, hown, hts⟩ (c_FR_giveUp l D T A σ h0 a1 σ_11 e11) k_405 mv_FR_giveUp rfl rfl ⟨Nat.le_of_ble_eq_true rfl, Nat.le_of_ble_eq_true rfl⟩ (fr_preV hK hX hH e10 rfl _) rfl hl.1 rfl (Nat.le_of_ble_eq_true rfl) d_FR_falter_13 ⟨Nat.zero_le _, Nat.zero_le _⟩) hS (fun H locs hH hS => ?_)
    exact fr_vret hx hb hr hlocks h hH hK hX hS d_FR_falter_16
set_option maxHeartbeats 4000000 in
set_option maxRecDepth 100000 in
theorem c_FR_takeTurn (l : Launch) (D : va_G) (T : Nat → ClassId) (A : Nat → Prop) (σ : fr_S) (h0 : Nat) (x1 : Int32) (σ1 : fr_S) (h : m_FR_takeTurn h0 x1 σ = some σ1) : Met l y_FR_takeTurn (Cond.code y_FR_takeTurn b_FR_takeTurn 6 none :: fr_W) ({ frames := 4, cells := 0, slots := 0, locals := 127 } : Room) (va_Pc [.ref h0, .int x1] (fr_B D T A σ)) (fr_Qv D T A σ1) 0 0 A := by
  refine Met.ofW (cc := b_FR_takeTurn) (maxL := 6) (ret := none) (by decide) rfl ?_
  intro p e s m args below meth c s₁ B hml hv
  obtain ⟨rfl, hH, hK, hX⟩ := hv
  have C0 : fr_At p s m _ meth c "FetchRules" b_FR_takeTurn 6 none := fr_at B hml
  obtain ⟨hx, hb, hr, hml, hown, hts, hlocks⟩ := id C0
  have hS : va_S A s.heap s.heap [] := va_S.rf
  have hl := lv_entry ([.ref h0, .int x1]) (n := 6) (Nat.le_of_ble_eq_true rfl)
  rw [lg_entry_eq]
  generalize (lg_sl ([.ref h0, .int x1]) ++ List.replicate (6 - (lg_sl ([.ref h0, .int x1])).length) Slot.unset).toArray = ls at hl ⊢
  have hl : lv_has ls 6 [(0, .ref h0), (1, .int x1)] := hl
  unfold m_FR_takeTurn at h
  refine lv_aload_n hx hb d_FR_takeTurn_0 rfl (lv_at hl 0 rfl) ?_
  obtain ⟨q1, e1, h⟩ := fr_bind h
  refine fr_gP hx hb hts in_FR hown hK hH e1 rfl 5 (by decide) (hts _ k_244) (fun _ h9 => h9) rfl d_FR_takeTurn_1 ?_
  refine lv_iload_n hx hb d_FR_takeTurn_4 rfl (lv_at hl 1 rfl) ?_
  obtain ⟨q2, e2, h⟩ := fr_bind h
  refine fr_qld hx hb hK hH e2 (by decide) rfl d_FR_takeTurn_5 ?_
  refine lv_astore_n (lv' := [(2, .ref q2), (0, .ref h0), (1, .int x1)]) hx hb d_FR_takeTurn_6 rfl hl (by decide) rfl (fun ls hl => ?_)
  refine lv_aload_n hx hb d_FR_takeTurn_7 rfl (lv_at hl 0 rfl) ?_
  refine lv_dup hx hb d_FR_takeTurn_8 rfl ?_
  obtain ⟨v3, e3, h⟩ := fr_bind h
  refine fr_gI hx hb hts in_Want hown hK hH e3 rfl 8 (by decide) (hts _ k_219) (fun _ h9 => h9) rfl d_FR_takeTurn_9 ?_
  refine lv_iconst (v := 1) hx hb d_FR_takeTurn_12 (by decide) ?_
  refine lv_iadd hx hb d_FR_takeTurn_13 ?_
  obtain ⟨σ_4, e4, h⟩ := fr_bind h
  refine fr_putI hx hb hts in_Want ty_Want tk_Want nm_Want hown hK hH hS e4 rfl 8 (by decide) (hts _ k_219) (fun _ h9 => h9) rfl (by decide +kernel) (fs_7_8 _ _ _) (Nat.le_of_ble_eq_true rfl) d_FR_takeTurn_14 (fun H locs hH hS => ?_)
  refine lv_aload_n hx hb d_FR_takeTurn_17 rfl (lv_at hl 1 rfl) ?_
  refine lv_aload_n hx hb d_FR_takeTurn_18 rfl (lv_at hl 0 rfl) ?_
  obtain ⟨u5, e5, h⟩ := fr_bind h
  obtain ⟨r6, e6, h⟩ := fr_bind h
  refine fr_calli (fr_V (As := []) (rest := [.ref h0]) ⟨hx, hb, hml, hown, hts⟩ (c_Want_currentPlace l D T A σ_4 q2 r6 e6) k_385 mv_Want_currentPlace rfl rfl ⟨Nat.le_of_ble_eq_true rfl, Nat.le_of_ble_eq_true rfl⟩ (fr_preV hK hX hH e5 rfl _) rfl hl.1 rfl (Nat.le_of_ble_eq_true rfl) d_FR_takeTurn_19 ⟨Nat.zero_le _, Nat.zero_le _⟩) hS (fun H locs hH hS => ?_)
  obtain ⟨u7, e7, h⟩ := fr_bind h
  obtain ⟨w8, e8, h⟩ := fr_bind h
  refine fr_calli (fr_V (As := [.int r6]) (rest := []) ⟨hx, hb, hml, hown, hts⟩ (c_FR_ask l D T A σ_4 h0 r6 w8.1 w8.2 e8) k_389 mv_FR_ask rfl rfl ⟨Nat.le_of_ble_eq_true rfl, Nat.le_of_ble_eq_true rfl⟩ (fr_preV hK hX hH e7 rfl _) rfl hl.1 rfl (Nat.le_of_ble_eq_true rfl) d_FR_takeTurn_22 ⟨Nat.zero_le _, Nat.zero_le _⟩) hS (fun H locs hH hS => ?_)
  refine lv_istore_n (lv' := [(3, .int w8.1), (2, .ref q2), (0, .ref h0), (1, .int x1)]) hx hb d_FR_takeTurn_25 rfl hl (by decide) rfl (fun ls hl => ?_)
  refine lv_iload_n hx hb d_FR_takeTurn_26 rfl (lv_at hl 0 rfl) ?_
  refine lv_iconst (v := (-1)) hx hb d_FR_takeTurn_27 (by decide) ?_
  refine lv_icmp_ne (tgt := 37) hx hb d_FR_takeTurn_28 (by decide) (fun c9 => ?_) (fun c9 => ?_)
  · replace h := fr_iff c9 h
    refine lv_aload_n hx hb d_FR_takeTurn_37 rfl (lv_at hl 2 rfl) ?_
    obtain ⟨q10, e10, h⟩ := fr_bind h
    refine fr_gP hx hb hts in_FR hown hK hH e10 rfl 3 (by decide) (hts _ k_242) (fun _ h9 => h9) rfl d_FR_takeTurn_38 ?_
    refine lv_iload_n hx hb d_FR_takeTurn_41 rfl (lv_at hl 0 rfl) ?_
    obtain ⟨q11, e11, h⟩ := fr_bind h
    refine fr_qld hx hb hK hH e11 (by decide) rfl d_FR_takeTurn_42 ?_
    refine lv_astore (lv' := [(4, .ref q11), (3, .int w8.1), (2, .ref q2), (0, .ref h0), (1, .int x1)]) hx hb d_FR_takeTurn_43 hl (by decide) rfl (fun ls hl => ?_)
    refine lv_aload hx hb d_FR_takeTurn_45 (lv_at hl 0 rfl) ?_
    refine lv_aload_n hx hb d_FR_takeTurn_47 rfl (lv_at hl 2 rfl) ?_
    obtain ⟨q12, e12, h⟩ := fr_bind h
    refine fr_gP hx hb hts in_Want hown hK hH e12 rfl 0 (by decide) (hts _ k_203) (fun _ h9 => h9) rfl d_FR_takeTurn_48 ?_
    obtain ⟨u13, e13, h⟩ := fr_bind h
    obtain ⟨w14, e14, h⟩ := fr_bind h
    refine fr_calli (fr_V (As := [.ref q12]) (rest := []) ⟨hx, hb, hml, hown, hts⟩ (c_Place_giveTo l D T A w8.2 q11 q12 w14.1 w14.2 e14) k_409 mv_Place_giveTo rfl rfl ⟨Nat.le_of_ble_eq_true rfl, Nat.le_of_ble_eq_true rfl⟩ (fr_preV hK hX hH e13 rfl _) rfl hl.1 rfl (Nat.le_of_ble_eq_true rfl) d_FR_takeTurn_51 ⟨Nat.zero_le _, Nat.zero_le _⟩) hS (fun H locs hH hS => ?_)
    refine lv_istore (lv' := [(5, .int w14.1), (4, .ref q11), (3, .int w8.1), (2, .ref q2), (0, .ref h0), (1, .int x1)]) hx hb d_FR_takeTurn_54 hl (by decide) rfl (fun ls hl => ?_)
    refine lv_aload_n hx hb d_FR_takeTurn_56 rfl (lv_at hl 3 rfl) ?_
    obtain ⟨q15, e15, h⟩ := fr_bind h
    refine fr_gP hx hb hts in_Want hown hK hH e15 rfl 0 (by decide) (hts _ k_203) (fun _ h9 => h9) rfl d_FR_takeTurn_57 ?_
    obtain ⟨v16, e16, h⟩ := fr_bind h
    refine fr_gI hx hb hts in_Row hown hK hH e16 rfl 1 (by decide) (hts _ k_71) (fun _ h9 => h9) rfl d_FR_takeTurn_60 ?_
    refine lv_aload hx hb d_FR_takeTurn_63 (lv_at hl 1 rfl) ?_
    obtain ⟨q17, e17, h⟩ := fr_bind h
    refine fr_gP hx hb hts in_Place hown hK hH e17 rfl 0 (by decide) (hts _ k_155) (fun _ h9 => h9) rfl d_FR_takeTurn_65 ?_
    obtain ⟨v18, e18, h⟩ := fr_bind h
    refine fr_gI hx hb hts in_Row hown hK hH e18 rfl 1 (by decide) (hts _ k_71) (fun _ h9 => h9) rfl d_FR_takeTurn_68 ?_
    refine lv_icmp_lt (tgt := 82) hx hb d_FR_takeTurn_71 (by decide) (fun c19 => ?_) (fun c19 => ?_)
    · replace h := fr_ift c19 h
      refine lv_iload hx hb d_FR_takeTurn_82 (lv_at hl 0 rfl) ?_
      refine lv_if_eq (tgt := 92) hx hb d_FR_takeTurn_84 (by decide) (fun c20 => ?_) (fun c20 => ?_)
      · replace h := fr_ift c20 h
        exact fr_vret hx hb hr hlocks h hH hK hX hS d_FR_takeTurn_92
      · replace h := fr_iff c20 h
        refine lv_aload_n hx hb d_FR_takeTurn_87 rfl (lv_at hl 4 rfl) ?_
        refine lv_aload_n hx hb d_FR_takeTurn_88 rfl (lv_at hl 3 rfl) ?_
        obtain ⟨u21, e21, h⟩ := fr_bind h
        obtain ⟨σ_22, e22, h⟩ := fr_bind h
        refine fr_callv (fr_V (As := [.ref q2]) (rest := []) ⟨hx, hb, hml, hown, hts⟩ (c_FR_falter l D T A w14.2 h0 q2 σ_22 e22) k_437 mv_FR_falter rfl rfl ⟨Nat.le_of_ble_eq_true rfl, Nat.le_of_ble_eq_true rfl⟩ (fr_preV hK hX hH e21 rfl _) rfl hl.1 rfl (Nat.le_of_ble_eq_true rfl) d_FR_takeTurn_89 ⟨Nat.zero_le _, Nat.zero_le _⟩) hS (fun H locs hH hS => ?_)
        exact fr_vret hx hb hr hlocks h hH hK hX hS d_FR_takeTurn_92
    · replace h := fr_iff c19 h
      refine lv_aload_n hx hb d_FR_takeTurn_74 rfl (lv_at hl 4 rfl) ?_
      refine lv_iload_n hx hb d_FR_takeTurn_75 rfl (lv_at hl 5 rfl) ?_
      obtain ⟨u23, e23, h⟩ := fr_bind h
      obtain ⟨σ_24, e24, h⟩ := fr_bind h
      refine fr_callv (fr_V (As := [.int x1]) (rest := []) ⟨hx, hb, hml, hown, hts⟩ (c_FR_checkDigest l D T A w14.2 h0 x1 σ_24 e24) k_423 mv_FR_checkDigest rfl rfl ⟨Nat.le_of_ble_eq_true rfl, Nat.le_of_ble_eq_true rfl⟩ (fr_preV hK hX hH e23 rfl _) rfl hl.1 rfl (Nat.le_of_ble_eq_true rfl) d_FR_takeTurn_76 ⟨Nat.zero_le _, Nat.zero_le _⟩) hS (fun H locs hH hS => ?_)
      refine lv_goto (tgt := 92) hx hb d_FR_takeTurn_79 (by decide) ?_
      exact fr_vret hx hb hr hlocks h hH hK hX hS d_FR_takeTurn_92
  · replace h := fr_ift c9 h
    refine lv_aload_n hx hb d_FR_takeTurn_31 rfl (lv_at hl 2 rfl) ?_
    refine lv_aload_n hx hb d_FR_takeTurn_32 rfl (lv_at hl 1 rfl) ?_
    obtain ⟨u25, e25, h⟩ := fr_bind h
    obtain ⟨σ_26, e26, h⟩ := fr_bind h
    refine fr_callv (fr_V (As := [.ref q2]) (rest := []) ⟨hx, hb, hml, hown, hts⟩ (c_FR_giveUp l D T A w8.2 h0 q2 σ_26 e26) k_405 mv_FR_giveUp rfl rfl ⟨Nat.le_of_ble_eq_true rfl, Nat.le_of_ble_eq_true rfl⟩ (fr_preV hK hX hH e25 rfl _) rfl hl.1 rfl (Nat.le_of_ble_eq_true rfl) d_FR_takeTurn_33 ⟨Nat.zero_le _, Nat.zero_le _⟩) hS (fun H locs hH hS => ?_)
    exact fr_vret hx hb hr hlocks h hH hK hX hS d_FR_takeTurn_36
set_option maxHeartbeats 4000000 in
set_option maxRecDepth 100000 in
theorem w_FR_moveClock_L12 {p : Program} {l : Launch} {e : Env} {s : State} {m : MethodId} {args : Array Value} {below : List Frame} {meth : Method} {c : Code} {D : va_G} {T : Nat → ClassId} {A : Nat → Prop} (C0 : fr_At p s m args meth c "FetchRules" b_FR_moveClock 3 none) (hK : va_K D vwCl (fr_tys T) s) (hX : fr_X s) :
    ∀ (n : Nat) (b0 : Nat) (y1 : Int32) (σ : fr_S) (σ1 : fr_S), m_FR_moveClock_L12 n b0 y1 σ = some σ1 → ∀ (H : Heap) (locs : List Loc), fr_H D T A σ H → va_S A s.heap H locs → ∀ (ls : Array Slot), lv_has ls 3 [(0, .ref b0), (1, .int y1)] → W p l e (headSpec (Cond.code y_FR_moveClock b_FR_moveClock 3 none :: fr_W) ({ frames := 5, cells := 0, slots := 0, locals := 152 } : Room)).room s m args below meth c H locs 0 0 (MQ below (fr_Qv D T A σ1) args s 0 0 A) (F0 m 12 ls []) := by
  obtain ⟨hx, hb, hr, hml, hown, hts, hlocks⟩ := id C0
  intro n
  induction n with
  | zero => intro b0 y1 σ σ1 h; cases h
  | succ n ih =>
    intro b0 y1 σ σ1 h H locs hH hS ls hl
    unfold m_FR_moveClock_L12 at h
    refine lv_iload_n hx hb d_FR_moveClock_12 rfl (lv_at hl 1 rfl) ?_
    refine lv_aload_n hx hb d_FR_moveClock_13 rfl (lv_at hl 0 rfl) ?_
    obtain ⟨v3, e3, h⟩ := fr_bind h
    refine fr_gI hx hb hts in_FR hown hK hH e3 rfl 6 (by decide) (hts _ k_245) (fun _ h9 => h9) rfl d_FR_moveClock_14 ?_
    refine lv_icmp_ge (tgt := 70) hx hb d_FR_moveClock_17 (by decide) (fun c4 => ?_) (fun c4 => ?_)
    · replace h := fr_ift c4 h
      exact fr_vret hx hb hr hlocks h hH hK hX hS d_FR_moveClock_70
    · replace h := fr_iff c4 h
      refine lv_aload_n hx hb d_FR_moveClock_20 rfl (lv_at hl 0 rfl) ?_
      obtain ⟨q5, e5, h⟩ := fr_bind h
      refine fr_gP hx hb hts in_FR hown hK hH e5 rfl 5 (by decide) (hts _ k_244) (fun _ h9 => h9) rfl d_FR_moveClock_21 ?_
      refine lv_iload_n hx hb d_FR_moveClock_24 rfl (lv_at hl 1 rfl) ?_
      obtain ⟨q6, e6, h⟩ := fr_bind h
      refine fr_qld hx hb hK hH e6 (by decide) rfl d_FR_moveClock_25 ?_
      refine lv_astore_n (lv' := [(2, .ref q6), (0, .ref b0), (1, .int y1)]) hx hb d_FR_moveClock_26 rfl hl (by decide) rfl (fun ls hl => ?_)
      refine lv_aload_n hx hb d_FR_moveClock_27 rfl (lv_at hl 0 rfl) ?_
      obtain ⟨v7, e7, h⟩ := fr_bind h
      refine fr_gI hx hb hts in_Want hown hK hH e7 rfl 4 (by decide) (hts _ k_211) (fun _ h9 => h9) rfl d_FR_moveClock_28 ?_
      refine lv_iconst (v := 2) hx hb d_FR_moveClock_31 (by decide) ?_
      refine lv_icmp_ne (tgt := 51) hx hb d_FR_moveClock_32 (by decide) (fun c8 => ?_) (fun c8 => ?_)
      · replace h := fr_iff c8 h
        refine lv_aload_n hx hb d_FR_moveClock_51 rfl (lv_at hl 0 rfl) ?_
        obtain ⟨v9, e9, h⟩ := fr_bind h
        refine fr_gI hx hb hts in_Want hown hK hH e9 rfl 4 (by decide) (hts _ k_211) (fun _ h9 => h9) rfl d_FR_moveClock_52 ?_
        refine lv_iconst (v := 1) hx hb d_FR_moveClock_55 (by decide) ?_
        refine lv_icmp_ne (tgt := 64) hx hb d_FR_moveClock_56 (by decide) (fun c10 => ?_) (fun c10 => ?_)
        · replace h := fr_iff c10 h
          refine lv_iinc (v := (y1 + 1)) (lv' := [(1, .int (y1 + 1)), (2, .ref q6), (0, .ref b0)]) hx hb d_FR_moveClock_64 hl (k := 2) rfl rfl (by decide) rfl (fun ls hl => ?_)
          refine lv_goto (tgt := 12) hx hb d_FR_moveClock_67 (by decide) ?_
          exact ih b0 (y1 + 1) σ σ1 h _ _ hH hS ls (lv_sub hl [2, 0] rfl)
        · replace h := fr_ift c10 h
          refine lv_aload_n hx hb d_FR_moveClock_59 rfl (lv_at hl 1 rfl) ?_
          refine lv_iload_n hx hb d_FR_moveClock_60 rfl (lv_at hl 2 rfl) ?_
          obtain ⟨u11, e11, h⟩ := fr_bind h
          obtain ⟨σ_12, e12, h⟩ := fr_bind h
          refine fr_callv (fr_V (As := [.int y1]) (rest := []) ⟨hx, hb, hml, hown, hts⟩ (c_FR_takeTurn l D T A σ b0 y1 σ_12 e12) k_381 mv_FR_takeTurn rfl rfl ⟨Nat.le_of_ble_eq_true rfl, Nat.le_of_ble_eq_true rfl⟩ (fr_preV hK hX hH e11 rfl _) rfl hl.1 rfl (Nat.le_of_ble_eq_true rfl) d_FR_moveClock_61 ⟨Nat.zero_le _, Nat.zero_le _⟩) hS (fun H locs hH hS => ?_)
          refine lv_iinc (v := (y1 + 1)) (lv' := [(1, .int (y1 + 1)), (2, .ref q6), (0, .ref b0)]) hx hb d_FR_moveClock_64 hl (k := 2) rfl rfl (by decide) rfl (fun ls hl => ?_)
          refine lv_goto (tgt := 12) hx hb d_FR_moveClock_67 (by decide) ?_
          exact ih b0 (y1 + 1) σ_12 σ1 h _ _ hH hS ls (lv_sub hl [2, 0] rfl)
      · replace h := fr_ift c8 h
        refine lv_aload_n hx hb d_FR_moveClock_35 rfl (lv_at hl 0 rfl) ?_
        obtain ⟨v13, e13, h⟩ := fr_bind h
        refine fr_gI hx hb hts in_Want hown hK hH e13 rfl 7 (by decide) (hts _ k_217) (fun _ h9 => h9) rfl d_FR_moveClock_36 ?_
        refine lv_aload_n hx hb d_FR_moveClock_39 rfl (lv_at hl 1 rfl) ?_
        obtain ⟨v14, e14, h⟩ := fr_bind h
        refine fr_gI hx hb hts in_FR hown hK hH e14 rfl 13 (by decide) (hts _ k_252) (fun _ h9 => h9) rfl d_FR_moveClock_40 ?_
        refine lv_icmp_gt (tgt := 51) hx hb d_FR_moveClock_43 (by decide) (fun c15 => ?_) (fun c15 => ?_)
        · replace h := fr_ift c15 h
          refine lv_aload_n hx hb d_FR_moveClock_51 rfl (lv_at hl 0 rfl) ?_
          obtain ⟨v16, e16, h⟩ := fr_bind h
          refine fr_gI hx hb hts in_Want hown hK hH e16 rfl 4 (by decide) (hts _ k_211) (fun _ h9 => h9) rfl d_FR_moveClock_52 ?_
          refine lv_iconst (v := 1) hx hb d_FR_moveClock_55 (by decide) ?_
          refine lv_icmp_ne (tgt := 64) hx hb d_FR_moveClock_56 (by decide) (fun c17 => ?_) (fun c17 => ?_)
          · replace h := fr_iff c17 h
            refine lv_iinc (v := (y1 + 1)) (lv' := [(1, .int (y1 + 1)), (2, .ref q6), (0, .ref b0)]) hx hb d_FR_moveClock_64 hl (k := 2) rfl rfl (by decide) rfl (fun ls hl => ?_)
            refine lv_goto (tgt := 12) hx hb d_FR_moveClock_67 (by decide) ?_
            exact ih b0 (y1 + 1) σ σ1 h _ _ hH hS ls (lv_sub hl [2, 0] rfl)
          · replace h := fr_ift c17 h
            refine lv_aload_n hx hb d_FR_moveClock_59 rfl (lv_at hl 1 rfl) ?_
            refine lv_iload_n hx hb d_FR_moveClock_60 rfl (lv_at hl 2 rfl) ?_
            obtain ⟨u18, e18, h⟩ := fr_bind h
            obtain ⟨σ_19, e19, h⟩ := fr_bind h
            refine fr_callv (fr_V (As := [.int y1]) (rest := []) ⟨hx, hb, hml, hown, hts⟩ (c_FR_takeTurn l D T A σ b0 y1 σ_19 e19) k_381 mv_FR_takeTurn rfl rfl ⟨Nat.le_of_ble_eq_true rfl, Nat.le_of_ble_eq_true rfl⟩ (fr_preV hK hX hH e18 rfl _) rfl hl.1 rfl (Nat.le_of_ble_eq_true rfl) d_FR_moveClock_61 ⟨Nat.zero_le _, Nat.zero_le _⟩) hS (fun H locs hH hS => ?_)
            refine lv_iinc (v := (y1 + 1)) (lv' := [(1, .int (y1 + 1)), (2, .ref q6), (0, .ref b0)]) hx hb d_FR_moveClock_64 hl (k := 2) rfl rfl (by decide) rfl (fun ls hl => ?_)
            refine lv_goto (tgt := 12) hx hb d_FR_moveClock_67 (by decide) ?_
            exact ih b0 (y1 + 1) σ_19 σ1 h _ _ hH hS ls (lv_sub hl [2, 0] rfl)
        · replace h := fr_iff c15 h
          refine lv_aload_n hx hb d_FR_moveClock_46 rfl (lv_at hl 0 rfl) ?_
          refine lv_iconst (v := 1) hx hb d_FR_moveClock_47 (by decide) ?_
          obtain ⟨σ_20, e20, h⟩ := fr_bind h
          refine fr_putI hx hb hts in_Want ty_Want tk_Want nm_Want hown hK hH hS e20 rfl 4 (by decide) (hts _ k_211) (fun _ h9 => h9) rfl (by decide +kernel) (fs_7_4 _ _ _) (Nat.le_of_ble_eq_true rfl) d_FR_moveClock_48 (fun H locs hH hS => ?_)
          refine lv_aload_n hx hb d_FR_moveClock_51 rfl (lv_at hl 0 rfl) ?_
          obtain ⟨v21, e21, h⟩ := fr_bind h
          refine fr_gI hx hb hts in_Want hown hK hH e21 rfl 4 (by decide) (hts _ k_211) (fun _ h9 => h9) rfl d_FR_moveClock_52 ?_
          refine lv_iconst (v := 1) hx hb d_FR_moveClock_55 (by decide) ?_
          refine lv_icmp_ne (tgt := 64) hx hb d_FR_moveClock_56 (by decide) (fun c22 => ?_) (fun c22 => ?_)
          · replace h := fr_iff c22 h
            refine lv_iinc (v := (y1 + 1)) (lv' := [(1, .int (y1 + 1)), (2, .ref q6), (0, .ref b0)]) hx hb d_FR_moveClock_64 hl (k := 2) rfl rfl (by decide) rfl (fun ls hl => ?_)
            refine lv_goto (tgt := 12) hx hb d_FR_moveClock_67 (by decide) ?_
            exact ih b0 (y1 + 1) σ_20 σ1 h _ _ hH hS ls (lv_sub hl [2, 0] rfl)
          · replace h := fr_ift c22 h
            refine lv_aload_n hx hb d_FR_moveClock_59 rfl (lv_at hl 1 rfl) ?_
            refine lv_iload_n hx hb d_FR_moveClock_60 rfl (lv_at hl 2 rfl) ?_
            obtain ⟨u23, e23, h⟩ := fr_bind h
            obtain ⟨σ_24, e24, h⟩ := fr_bind h
            refine fr_callv (fr_V (As := [.int y1]) (rest := []) ⟨hx, hb, hml, hown, hts⟩ (c_FR_takeTurn l D T A σ_20 b0 y1 σ_24 e24) k_381 mv_FR_takeTurn rfl rfl ⟨Nat.le_of_ble_eq_true rfl, Nat.le_of_ble_eq_true rfl⟩ (fr_preV hK hX hH e23 rfl _) rfl hl.1 rfl (Nat.le_of_ble_eq_true rfl) d_FR_moveClock_61 ⟨Nat.zero_le _, Nat.zero_le _⟩) hS (fun H locs hH hS => ?_)
            refine lv_iinc (v := (y1 + 1)) (lv' := [(1, .int (y1 + 1)), (2, .ref q6), (0, .ref b0)]) hx hb d_FR_moveClock_64 hl (k := 2) rfl rfl (by decide) rfl (fun ls hl => ?_)
            refine lv_goto (tgt := 12) hx hb d_FR_moveClock_67 (by decide) ?_
            exact ih b0 (y1 + 1) σ_24 σ1 h _ _ hH hS ls (lv_sub hl [2, 0] rfl)
set_option maxHeartbeats 4000000 in
set_option maxRecDepth 100000 in
theorem c_FR_moveClock (l : Launch) (D : va_G) (T : Nat → ClassId) (A : Nat → Prop) (σ : fr_S) (h0 : Nat) (σ1 : fr_S) (h : m_FR_moveClock h0 σ = some σ1) : Met l y_FR_moveClock (Cond.code y_FR_moveClock b_FR_moveClock 3 none :: fr_W) ({ frames := 5, cells := 0, slots := 0, locals := 152 } : Room) (va_Pc [.ref h0] (fr_B D T A σ)) (fr_Qv D T A σ1) 0 0 A := by
  refine Met.ofW (cc := b_FR_moveClock) (maxL := 3) (ret := none) (by decide) rfl ?_
  intro p e s m args below meth c s₁ B hml hv
  obtain ⟨rfl, hH, hK, hX⟩ := hv
  have C0 : fr_At p s m _ meth c "FetchRules" b_FR_moveClock 3 none := fr_at B hml
  obtain ⟨hx, hb, hr, hml, hown, hts, hlocks⟩ := id C0
  have hS : va_S A s.heap s.heap [] := va_S.rf
  have hl := lv_entry ([.ref h0]) (n := 3) (Nat.le_of_ble_eq_true rfl)
  rw [lg_entry_eq]
  generalize (lg_sl ([.ref h0]) ++ List.replicate (3 - (lg_sl ([.ref h0])).length) Slot.unset).toArray = ls at hl ⊢
  have hl : lv_has ls 3 [(0, .ref h0)] := hl
  unfold m_FR_moveClock at h
  refine lv_aload_n hx hb d_FR_moveClock_0 rfl (lv_at hl 0 rfl) ?_
  refine lv_dup hx hb d_FR_moveClock_1 rfl ?_
  obtain ⟨v1, e1, h⟩ := fr_bind h
  refine fr_gI hx hb hts in_FR hown hK hH e1 rfl 13 (by decide) (hts _ k_252) (fun _ h9 => h9) rfl d_FR_moveClock_2 ?_
  refine lv_iconst (v := 1) hx hb d_FR_moveClock_5 (by decide) ?_
  refine lv_iadd hx hb d_FR_moveClock_6 ?_
  obtain ⟨σ_2, e2, h⟩ := fr_bind h
  refine fr_putI hx hb hts in_FR ty_FR tk_FR nm_FR hown hK hH hS e2 rfl 13 (by decide) (hts _ k_252) (fun _ h9 => h9) rfl (by decide +kernel) (fs_1_13 _ _ _) (Nat.le_of_ble_eq_true rfl) d_FR_moveClock_7 (fun H locs hH hS => ?_)
  refine lv_iconst (v := 0) hx hb d_FR_moveClock_10 (by decide) ?_
  refine lv_istore_n (lv' := [(1, .int 0), (0, .ref h0)]) hx hb d_FR_moveClock_11 rfl hl (by decide) rfl (fun ls hl => ?_)
  exact w_FR_moveClock_L12 C0 hK hX 1000 h0 0 σ_2 σ1 h _ _ hH hS ls (lv_sub hl [1, 0] rfl)
set_option maxHeartbeats 4000000 in
set_option maxRecDepth 100000 in
theorem w_FR_countBusy_L4 {p : Program} {l : Launch} {e : Env} {s : State} {m : MethodId} {args : Array Value} {below : List Frame} {meth : Method} {c : Code} {D : va_G} {T : Nat → ClassId} {A : Nat → Prop} (C0 : fr_At p s m args meth c "FetchRules" b_FR_countBusy 3 (some .int)) (hK : va_K D vwCl (fr_tys T) s) (hX : fr_X s) :
    ∀ (n : Nat) (b0 : Nat) (y1 : Int32) (y2 : Int32) (σ : fr_S) (r : Int32), m_FR_countBusy_L4 n b0 y1 y2 σ = some r → ∀ (H : Heap) (locs : List Loc), fr_H D T A σ H → va_S A s.heap H locs → ∀ (ls : Array Slot), lv_has ls 3 [(0, .ref b0), (1, .int y1), (2, .int y2)] → W p l e (headSpec (Cond.code y_FR_countBusy b_FR_countBusy 3 (some .int) :: fr_W) ({ frames := 1, cells := 0, slots := 0, locals := 20 } : Room)).room s m args below meth c H locs 0 0 (MQ below (fr_Qi D T A r σ) args s 0 0 A) (F0 m 4 ls []) := by
  obtain ⟨hx, hb, hr, hml, hown, hts, hlocks⟩ := id C0
  intro n
  induction n with
  | zero => intro b0 y1 y2 σ r h; cases h
  | succ n ih =>
    intro b0 y1 y2 σ r h H locs hH hS ls hl
    unfold m_FR_countBusy_L4 at h
    refine lv_iload_n hx hb d_FR_countBusy_4 rfl (lv_at hl 2 rfl) ?_
    refine lv_aload_n hx hb d_FR_countBusy_5 rfl (lv_at hl 0 rfl) ?_
    obtain ⟨v1, e1, h⟩ := fr_bind h
    refine fr_gI hx hb hts in_FR hown hK hH e1 rfl 6 (by decide) (hts _ k_245) (fun _ h9 => h9) rfl d_FR_countBusy_6 ?_
    refine lv_icmp_ge (tgt := 33) hx hb d_FR_countBusy_9 (by decide) (fun c2 => ?_) (fun c2 => ?_)
    · replace h := fr_ift c2 h
      refine lv_iload_n hx hb d_FR_countBusy_33 rfl (lv_at hl 1 rfl) ?_
      exact fr_iretO hx hb hr hlocks  h hH hK hX hS d_FR_countBusy_34
    · replace h := fr_iff c2 h
      refine lv_aload_n hx hb d_FR_countBusy_12 rfl (lv_at hl 0 rfl) ?_
      obtain ⟨q3, e3, h⟩ := fr_bind h
      refine fr_gP hx hb hts in_FR hown hK hH e3 rfl 5 (by decide) (hts _ k_244) (fun _ h9 => h9) rfl d_FR_countBusy_13 ?_
      refine lv_iload_n hx hb d_FR_countBusy_16 rfl (lv_at hl 2 rfl) ?_
      obtain ⟨q4, e4, h⟩ := fr_bind h
      refine fr_qld hx hb hK hH e4 (by decide) rfl d_FR_countBusy_17 ?_
      obtain ⟨u5, e5, h⟩ := fr_bind h
      obtain ⟨r6, e6, h⟩ := fr_bind h
      refine fr_calli (fr_V (As := []) (rest := []) ⟨hx, hb, hml, hown, hts⟩ (c_Want_isBusy l D T A σ q4 r6 e6) k_346 mv_Want_isBusy rfl rfl ⟨Nat.le_of_ble_eq_true rfl, Nat.le_of_ble_eq_true rfl⟩ (fr_preV hK hX hH e5 rfl _) rfl hl.1 rfl (Nat.le_of_ble_eq_true rfl) d_FR_countBusy_18 ⟨Nat.zero_le _, Nat.zero_le _⟩) hS (fun H locs hH hS => ?_)
      refine lv_if_eq (tgt := 27) hx hb d_FR_countBusy_21 (by decide) (fun c7 => ?_) (fun c7 => ?_)
      · replace h := fr_ift c7 h
        refine lv_iinc (v := (y2 + 1)) (lv' := [(2, .int (y2 + 1)), (0, .ref b0), (1, .int y1)]) hx hb d_FR_countBusy_27 hl (k := 2) rfl rfl (by decide) rfl (fun ls hl => ?_)
        refine lv_goto (tgt := 4) hx hb d_FR_countBusy_30 (by decide) ?_
        exact ih b0 y1 (y2 + 1) σ r h _ _ hH hS ls (lv_sub hl [1, 2, 0] rfl)
      · replace h := fr_iff c7 h
        refine lv_iinc (v := (y1 + 1)) (lv' := [(1, .int (y1 + 1)), (0, .ref b0), (2, .int y2)]) hx hb d_FR_countBusy_24 hl (k := 1) rfl rfl (by decide) rfl (fun ls hl => ?_)
        refine lv_iinc (v := (y2 + 1)) (lv' := [(2, .int (y2 + 1)), (1, .int (y1 + 1)), (0, .ref b0)]) hx hb d_FR_countBusy_27 hl (k := 2) rfl rfl (by decide) rfl (fun ls hl => ?_)
        refine lv_goto (tgt := 4) hx hb d_FR_countBusy_30 (by decide) ?_
        exact ih b0 (y1 + 1) (y2 + 1) σ r h _ _ hH hS ls (lv_sub hl [2, 1, 0] rfl)
set_option maxHeartbeats 4000000 in
set_option maxRecDepth 100000 in
theorem c_FR_countBusy (l : Launch) (D : va_G) (T : Nat → ClassId) (A : Nat → Prop) (σ : fr_S) (h0 : Nat) (r : Int32) (h : m_FR_countBusy h0 σ = some r) : Met l y_FR_countBusy (Cond.code y_FR_countBusy b_FR_countBusy 3 (some .int) :: fr_W) ({ frames := 1, cells := 0, slots := 0, locals := 20 } : Room) (va_Pc [.ref h0] (fr_B D T A σ)) (fr_Qi D T A r σ) 0 0 A := by
  refine Met.ofW (cc := b_FR_countBusy) (maxL := 3) (ret := (some .int)) (by decide) rfl ?_
  intro p e s m args below meth c s₁ B hml hv
  obtain ⟨rfl, hH, hK, hX⟩ := hv
  have C0 : fr_At p s m _ meth c "FetchRules" b_FR_countBusy 3 (some .int) := fr_at B hml
  obtain ⟨hx, hb, hr, hml, hown, hts, hlocks⟩ := id C0
  have hS : va_S A s.heap s.heap [] := va_S.rf
  have hl := lv_entry ([.ref h0]) (n := 3) (Nat.le_of_ble_eq_true rfl)
  rw [lg_entry_eq]
  generalize (lg_sl ([.ref h0]) ++ List.replicate (3 - (lg_sl ([.ref h0])).length) Slot.unset).toArray = ls at hl ⊢
  have hl : lv_has ls 3 [(0, .ref h0)] := hl
  unfold m_FR_countBusy at h
  refine lv_iconst (v := 0) hx hb d_FR_countBusy_0 (by decide) ?_
  refine lv_istore_n (lv' := [(1, .int 0), (0, .ref h0)]) hx hb d_FR_countBusy_1 rfl hl (by decide) rfl (fun ls hl => ?_)
  refine lv_iconst (v := 0) hx hb d_FR_countBusy_2 (by decide) ?_
  refine lv_istore_n (lv' := [(2, .int 0), (1, .int 0), (0, .ref h0)]) hx hb d_FR_countBusy_3 rfl hl (by decide) rfl (fun ls hl => ?_)
  exact w_FR_countBusy_L4 C0 hK hX 1000 h0 0 0 σ r h _ _ hH hS ls (lv_sub hl [2, 1, 0] rfl)
set_option maxHeartbeats 4000000 in
set_option maxRecDepth 100000 in
theorem w_FR_tick_L14 {p : Program} {l : Launch} {e : Env} {s : State} {m : MethodId} {args : Array Value} {below : List Frame} {meth : Method} {c : Code} {D : va_G} {T : Nat → ClassId} {A : Nat → Prop} (C0 : fr_At p s m args meth c "FetchRules" b_FR_tick 3 (some .int)) (hK : va_K D vwCl (fr_tys T) s) (hX : fr_X s) :
    ∀ (n : Nat) (b0 : Nat) (y1 : Int32) (y2 : Int32) (σ : fr_S) (r : Int32) (σ1 : fr_S), m_FR_tick_L14 n b0 y1 y2 σ = some (r, σ1) → ∀ (H : Heap) (locs : List Loc), fr_H D T A σ H → va_S A s.heap H locs → ∀ (ls : Array Slot), lv_has ls 3 [(0, .ref b0), (1, .int y1), (2, .int y2)] → W p l e (headSpec (Cond.code y_FR_tick b_FR_tick 3 (some .int) :: fr_W) ({ frames := 6, cells := 0, slots := 0, locals := 174 } : Room)).room s m args below meth c H locs 0 0 (MQ below (fr_Qi D T A r σ1) args s 0 0 A) (F0 m 14 ls []) := by
  obtain ⟨hx, hb, hr, hml, hown, hts, hlocks⟩ := id C0
  intro n
  induction n with
  | zero => intro b0 y1 y2 σ r σ1 h; cases h
  | succ n ih =>
    intro b0 y1 y2 σ r σ1 h H locs hH hS ls hl
    unfold m_FR_tick_L14 at h
    refine lv_iload_n hx hb d_FR_tick_14 rfl (lv_at hl 2 rfl) ?_
    refine lv_iload_n hx hb d_FR_tick_15 rfl (lv_at hl 1 rfl) ?_
    refine lv_icmp_ge (tgt := 29) hx hb d_FR_tick_16 (by decide) (fun c3 => ?_) (fun c3 => ?_)
    · replace h := fr_ift c3 h
      refine lv_aload_n hx hb d_FR_tick_29 rfl (lv_at hl 0 rfl) ?_
      obtain ⟨u4, e4, h⟩ := fr_bind h
      obtain ⟨r5, e5, h⟩ := fr_bind h
      refine fr_calli (fr_V (As := []) (rest := []) ⟨hx, hb, hml, hown, hts⟩ (c_FR_countBusy l D T A σ b0 r5 e5) k_441 mv_FR_countBusy rfl rfl ⟨Nat.le_of_ble_eq_true rfl, Nat.le_of_ble_eq_true rfl⟩ (fr_preV hK hX hH e4 rfl _) rfl hl.1 rfl (Nat.le_of_ble_eq_true rfl) d_FR_tick_30 ⟨Nat.zero_le _, Nat.zero_le _⟩) hS (fun H locs hH hS => ?_)
      exact fr_iret hx hb hr hlocks  h hH hK hX hS d_FR_tick_33
    · replace h := fr_iff c3 h
      refine lv_aload_n hx hb d_FR_tick_19 rfl (lv_at hl 0 rfl) ?_
      obtain ⟨u6, e6, h⟩ := fr_bind h
      obtain ⟨σ_7, e7, h⟩ := fr_bind h
      refine fr_callv (fr_V (As := []) (rest := []) ⟨hx, hb, hml, hown, hts⟩ (c_FR_moveClock l D T A σ b0 σ_7 e7) k_377 mv_FR_moveClock rfl rfl ⟨Nat.le_of_ble_eq_true rfl, Nat.le_of_ble_eq_true rfl⟩ (fr_preV hK hX hH e6 rfl _) rfl hl.1 rfl (Nat.le_of_ble_eq_true rfl) d_FR_tick_20 ⟨Nat.zero_le _, Nat.zero_le _⟩) hS (fun H locs hH hS => ?_)
      refine lv_iinc (v := (y2 + 1)) (lv' := [(2, .int (y2 + 1)), (0, .ref b0), (1, .int y1)]) hx hb d_FR_tick_23 hl (k := 2) rfl rfl (by decide) rfl (fun ls hl => ?_)
      refine lv_goto (tgt := 14) hx hb d_FR_tick_26 (by decide) ?_
      exact ih b0 y1 (y2 + 1) σ_7 r σ1 h _ _ hH hS ls (lv_sub hl [1, 2, 0] rfl)
set_option maxHeartbeats 4000000 in
set_option maxRecDepth 100000 in
theorem c_FR_tick (l : Launch) (D : va_G) (T : Nat → ClassId) (A : Nat → Prop) (σ : fr_S) (h0 : Nat) (x1 : Int32) (r : Int32) (σ1 : fr_S) (h : m_FR_tick h0 x1 σ = some (r, σ1)) : Met l y_FR_tick (Cond.code y_FR_tick b_FR_tick 3 (some .int) :: fr_W) ({ frames := 6, cells := 0, slots := 0, locals := 174 } : Room) (va_Pc [.ref h0, .int x1] (fr_B D T A σ)) (fr_Qi D T A r σ1) 0 0 A := by
  refine Met.ofW (cc := b_FR_tick) (maxL := 3) (ret := (some .int)) (by decide) rfl ?_
  intro p e s m args below meth c s₁ B hml hv
  obtain ⟨rfl, hH, hK, hX⟩ := hv
  have C0 : fr_At p s m _ meth c "FetchRules" b_FR_tick 3 (some .int) := fr_at B hml
  obtain ⟨hx, hb, hr, hml, hown, hts, hlocks⟩ := id C0
  have hS : va_S A s.heap s.heap [] := va_S.rf
  have hl := lv_entry ([.ref h0, .int x1]) (n := 3) (Nat.le_of_ble_eq_true rfl)
  rw [lg_entry_eq]
  generalize (lg_sl ([.ref h0, .int x1]) ++ List.replicate (3 - (lg_sl ([.ref h0, .int x1])).length) Slot.unset).toArray = ls at hl ⊢
  have hl : lv_has ls 3 [(0, .ref h0), (1, .int x1)] := hl
  unfold m_FR_tick at h
  refine lv_iload_n hx hb d_FR_tick_0 rfl (lv_at hl 1 rfl) ?_
  refine lv_if_lt (tgt := 10) hx hb d_FR_tick_1 (by decide) (fun c1 => ?_) (fun c1 => ?_)
  · replace h := fr_ift c1 h
    refine lv_iconst (v := (-1)) hx hb d_FR_tick_10 (by decide) ?_
    exact fr_iret hx hb hr hlocks  h hH hK hX hS d_FR_tick_11
  · replace h := fr_iff c1 h
    refine lv_iload_n hx hb d_FR_tick_4 rfl (lv_at hl 1 rfl) ?_
    refine lv_bipush (v := 50) hx hb d_FR_tick_5 (by decide) ?_
    refine lv_icmp_le (tgt := 12) hx hb d_FR_tick_7 (by decide) (fun c2 => ?_) (fun c2 => ?_)
    · replace h := fr_ift c2 h
      refine lv_iconst (v := 0) hx hb d_FR_tick_12 (by decide) ?_
      refine lv_istore_n (lv' := [(2, .int 0), (0, .ref h0), (1, .int x1)]) hx hb d_FR_tick_13 rfl hl (by decide) rfl (fun ls hl => ?_)
      exact w_FR_tick_L14 C0 hK hX 1000 h0 x1 0 σ r σ1 h _ _ hH hS ls (lv_sub hl [1, 2, 0] rfl)
    · replace h := fr_iff c2 h
      refine lv_iconst (v := (-1)) hx hb d_FR_tick_10 (by decide) ?_
      exact fr_iret hx hb hr hlocks  h hH hK hX hS d_FR_tick_11
set_option maxHeartbeats 4000000 in
set_option maxRecDepth 100000 in
theorem c_FR_about (l : Launch) (D : va_G) (T : Nat → ClassId) (A : Nat → Prop) (σ : fr_S) (h0 : Nat) (x1 : Int32) (x2 : Int32) (r : Int32) (h : m_FR_about h0 x1 x2 σ = some r) : Met l y_FR_about (Cond.code y_FR_about b_FR_about 4 (some .int) :: fr_W) ({ frames := 1, cells := 0, slots := 0, locals := 21 } : Room) (va_Pc [.ref h0, .int x1, .int x2] (fr_B D T A σ)) (fr_Qi D T A r σ) 0 0 A := by
  refine Met.ofW (cc := b_FR_about) (maxL := 4) (ret := (some .int)) (by decide) rfl ?_
  intro p e s m args below meth c s₁ B hml hv
  obtain ⟨rfl, hH, hK, hX⟩ := hv
  have C0 : fr_At p s m _ meth c "FetchRules" b_FR_about 4 (some .int) := fr_at B hml
  obtain ⟨hx, hb, hr, hml, hown, hts, hlocks⟩ := id C0
  have hS : va_S A s.heap s.heap [] := va_S.rf
  have hl := lv_entry ([.ref h0, .int x1, .int x2]) (n := 4) (Nat.le_of_ble_eq_true rfl)
  rw [lg_entry_eq]
  generalize (lg_sl ([.ref h0, .int x1, .int x2]) ++ List.replicate (4 - (lg_sl ([.ref h0, .int x1, .int x2])).length) Slot.unset).toArray = ls at hl ⊢
  have hl : lv_has ls 4 [(0, .ref h0), (1, .int x1), (2, .int x2)] := hl
  unfold m_FR_about at h
  refine lv_aload_n hx hb d_FR_about_0 rfl (lv_at hl 0 rfl) ?_
  refine lv_iload_n hx hb d_FR_about_1 rfl (lv_at hl 1 rfl) ?_
  obtain ⟨u1, e1, h⟩ := fr_bind h
  obtain ⟨r2, e2, h⟩ := fr_bind h
  refine fr_calli (fr_V (As := [.int x1]) (rest := []) ⟨hx, hb, hml, hown, hts⟩ (c_FR_isWant l D T A σ h0 x1 r2 e2) k_330 mv_FR_isWant rfl rfl ⟨Nat.le_of_ble_eq_true rfl, Nat.le_of_ble_eq_true rfl⟩ (fr_preV hK hX hH e1 rfl _) rfl hl.1 rfl (Nat.le_of_ble_eq_true rfl) d_FR_about_2 ⟨Nat.zero_le _, Nat.zero_le _⟩) hS (fun H locs hH hS => ?_)
  refine lv_if_ne (tgt := 10) hx hb d_FR_about_5 (by decide) (fun c3 => ?_) (fun c3 => ?_)
  · replace h := fr_iff c3 h
    refine lv_aload_n hx hb d_FR_about_10 rfl (lv_at hl 0 rfl) ?_
    obtain ⟨q4, e4, h⟩ := fr_bind h
    refine fr_gP hx hb hts in_FR hown hK hH e4 rfl 5 (by decide) (hts _ k_244) (fun _ h9 => h9) rfl d_FR_about_11 ?_
    refine lv_iload_n hx hb d_FR_about_14 rfl (lv_at hl 1 rfl) ?_
    obtain ⟨q5, e5, h⟩ := fr_bind h
    refine fr_qld hx hb hK hH e5 (by decide) rfl d_FR_about_15 ?_
    refine lv_astore_n (lv' := [(3, .ref q5), (0, .ref h0), (1, .int x1), (2, .int x2)]) hx hb d_FR_about_16 rfl hl (by decide) rfl (fun ls hl => ?_)
    refine lv_iload_n hx hb d_FR_about_17 rfl (lv_at hl 3 rfl) ?_
    by_cases c6 : x2 = 0
    · replace h := fr_ift c6 h
      refine lv_tableIn (tgt := 52) hx hb d_FR_about_18 (by rw [c6]; decide) (by rw [c6]; decide) (by rw [c6]; rfl) (by decide) ?_
      refine lv_aload_n hx hb d_FR_about_52 rfl (lv_at hl 0 rfl) ?_
      obtain ⟨v7, e7, h⟩ := fr_bind h
      refine fr_gI hx hb hts in_Want hown hK hH e7 rfl 4 (by decide) (hts _ k_211) (fun _ h9 => h9) rfl d_FR_about_53 ?_
      exact fr_iretO hx hb hr hlocks  h hH hK hX hS d_FR_about_56
    · replace h := fr_iff c6 h
      by_cases c8 : x2 = 1
      · replace h := fr_ift c8 h
        refine lv_tableIn (tgt := 57) hx hb d_FR_about_18 (by rw [c8]; decide) (by rw [c8]; decide) (by rw [c8]; rfl) (by decide) ?_
        refine lv_aload_n hx hb d_FR_about_57 rfl (lv_at hl 0 rfl) ?_
        obtain ⟨u9, e9, h⟩ := fr_bind h
        obtain ⟨r10, e10, h⟩ := fr_bind h
        refine fr_calli (fr_V (As := []) (rest := []) ⟨hx, hb, hml, hown, hts⟩ (c_Want_isBusy l D T A σ q5 r10 e10) k_346 mv_Want_isBusy rfl rfl ⟨Nat.le_of_ble_eq_true rfl, Nat.le_of_ble_eq_true rfl⟩ (fr_preV hK hX hH e9 rfl _) rfl hl.1 rfl (Nat.le_of_ble_eq_true rfl) d_FR_about_58 ⟨Nat.zero_le _, Nat.zero_le _⟩) hS (fun H locs hH hS => ?_)
        refine lv_if_eq (tgt := 71) hx hb d_FR_about_61 (by decide) (fun c11 => ?_) (fun c11 => ?_)
        · replace h := fr_ift c11 h
          refine lv_iconst (v := (-1)) hx hb d_FR_about_71 (by decide) ?_
          exact fr_iretO hx hb hr hlocks  h hH hK hX hS d_FR_about_72
        · replace h := fr_iff c11 h
          refine lv_aload_n hx hb d_FR_about_64 rfl (lv_at hl 0 rfl) ?_
          obtain ⟨u12, e12, h⟩ := fr_bind h
          obtain ⟨r13, e13, h⟩ := fr_bind h
          refine fr_calli (fr_V (As := []) (rest := []) ⟨hx, hb, hml, hown, hts⟩ (c_Want_currentPlace l D T A σ q5 r13 e13) k_385 mv_Want_currentPlace rfl rfl ⟨Nat.le_of_ble_eq_true rfl, Nat.le_of_ble_eq_true rfl⟩ (fr_preV hK hX hH e12 rfl _) rfl hl.1 rfl (Nat.le_of_ble_eq_true rfl) d_FR_about_65 ⟨Nat.zero_le _, Nat.zero_le _⟩) hS (fun H locs hH hS => ?_)
          refine lv_goto (tgt := 72) hx hb d_FR_about_68 (by decide) ?_
          exact fr_iretO hx hb hr hlocks  h hH hK hX hS d_FR_about_72
      · replace h := fr_iff c8 h
        by_cases c14 : x2 = 2
        · replace h := fr_ift c14 h
          refine lv_tableIn (tgt := 73) hx hb d_FR_about_18 (by rw [c14]; decide) (by rw [c14]; decide) (by rw [c14]; rfl) (by decide) ?_
          refine lv_aload_n hx hb d_FR_about_73 rfl (lv_at hl 0 rfl) ?_
          obtain ⟨q15, e15, h⟩ := fr_bind h
          refine fr_gP hx hb hts in_Want hown hK hH e15 rfl 0 (by decide) (hts _ k_203) (fun _ h9 => h9) rfl d_FR_about_74 ?_
          obtain ⟨v16, e16, h⟩ := fr_bind h
          refine fr_gI hx hb hts in_Row hown hK hH e16 rfl 1 (by decide) (hts _ k_71) (fun _ h9 => h9) rfl d_FR_about_77 ?_
          exact fr_iretO hx hb hr hlocks  h hH hK hX hS d_FR_about_80
        · replace h := fr_iff c14 h
          by_cases c17 : x2 = 3
          · replace h := fr_ift c17 h
            refine lv_tableIn (tgt := 81) hx hb d_FR_about_18 (by rw [c17]; decide) (by rw [c17]; decide) (by rw [c17]; rfl) (by decide) ?_
            refine lv_aload_n hx hb d_FR_about_81 rfl (lv_at hl 0 rfl) ?_
            obtain ⟨v18, e18, h⟩ := fr_bind h
            refine fr_gI hx hb hts in_Want hown hK hH e18 rfl 4 (by decide) (hts _ k_211) (fun _ h9 => h9) rfl d_FR_about_82 ?_
            refine lv_iconst (v := 2) hx hb d_FR_about_85 (by decide) ?_
            refine lv_icmp_ne (tgt := 96) hx hb d_FR_about_86 (by decide) (fun c19 => ?_) (fun c19 => ?_)
            · replace h := fr_iff c19 h
              refine lv_iconst (v := (-1)) hx hb d_FR_about_96 (by decide) ?_
              exact fr_iretO hx hb hr hlocks  h hH hK hX hS d_FR_about_97
            · replace h := fr_ift c19 h
              refine lv_aload_n hx hb d_FR_about_89 rfl (lv_at hl 0 rfl) ?_
              obtain ⟨v20, e20, h⟩ := fr_bind h
              refine fr_gI hx hb hts in_Want hown hK hH e20 rfl 7 (by decide) (hts _ k_217) (fun _ h9 => h9) rfl d_FR_about_90 ?_
              refine lv_goto (tgt := 97) hx hb d_FR_about_93 (by decide) ?_
              exact fr_iretO hx hb hr hlocks  h hH hK hX hS d_FR_about_97
          · replace h := fr_iff c17 h
            by_cases c21 : x2 = 4
            · replace h := fr_ift c21 h
              refine lv_tableIn (tgt := 98) hx hb d_FR_about_18 (by rw [c21]; decide) (by rw [c21]; decide) (by rw [c21]; rfl) (by decide) ?_
              refine lv_aload_n hx hb d_FR_about_98 rfl (lv_at hl 0 rfl) ?_
              obtain ⟨v22, e22, h⟩ := fr_bind h
              refine fr_gI hx hb hts in_Want hown hK hH e22 rfl 8 (by decide) (hts _ k_219) (fun _ h9 => h9) rfl d_FR_about_99 ?_
              exact fr_iretO hx hb hr hlocks  h hH hK hX hS d_FR_about_102
            · replace h := fr_iff c21 h
              refine lv_tableOut (tgt := 103) hx hb d_FR_about_18 (by have z0 := lv_neT c6 (a := 0) (by decide); have z1 := lv_neT c8 (a := 1) (by decide); have z2 := lv_neT c14 (a := 2) (by decide); have z3 := lv_neT c17 (a := 3) (by decide); have z4 := lv_neT c21 (a := 4) (by decide); omega) (by decide) ?_
              refine lv_iconst (v := (-1)) hx hb d_FR_about_103 (by decide) ?_
              exact fr_iretO hx hb hr hlocks  h hH hK hX hS d_FR_about_104
  · replace h := fr_ift c3 h
    refine lv_iconst (v := (-1)) hx hb d_FR_about_8 (by decide) ?_
    exact fr_iretO hx hb hr hlocks  h hH hK hX hS d_FR_about_9
set_option maxHeartbeats 4000000 in
set_option maxRecDepth 100000 in
theorem c_FR_byteOf (l : Launch) (D : va_G) (T : Nat → ClassId) (A : Nat → Prop) (σ : fr_S) (h0 : Nat) (x1 : Int32) (x2 : Int32) (r : Int32) (h : m_FR_byteOf h0 x1 x2 σ = some r) : Met l y_FR_byteOf (Cond.code y_FR_byteOf b_FR_byteOf 3 (some .int) :: fr_W) ({ frames := 1, cells := 0, slots := 0, locals := 21 } : Room) (va_Pc [.ref h0, .int x1, .int x2] (fr_B D T A σ)) (fr_Qi D T A r σ) 0 0 A := by
  refine Met.ofW (cc := b_FR_byteOf) (maxL := 3) (ret := (some .int)) (by decide) rfl ?_
  intro p e s m args below meth c s₁ B hml hv
  obtain ⟨rfl, hH, hK, hX⟩ := hv
  have C0 : fr_At p s m _ meth c "FetchRules" b_FR_byteOf 3 (some .int) := fr_at B hml
  obtain ⟨hx, hb, hr, hml, hown, hts, hlocks⟩ := id C0
  have hS : va_S A s.heap s.heap [] := va_S.rf
  have hl := lv_entry ([.ref h0, .int x1, .int x2]) (n := 3) (Nat.le_of_ble_eq_true rfl)
  rw [lg_entry_eq]
  generalize (lg_sl ([.ref h0, .int x1, .int x2]) ++ List.replicate (3 - (lg_sl ([.ref h0, .int x1, .int x2])).length) Slot.unset).toArray = ls at hl ⊢
  have hl : lv_has ls 3 [(0, .ref h0), (1, .int x1), (2, .int x2)] := hl
  unfold m_FR_byteOf at h
  refine lv_aload_n hx hb d_FR_byteOf_0 rfl (lv_at hl 0 rfl) ?_
  refine lv_iload_n hx hb d_FR_byteOf_1 rfl (lv_at hl 1 rfl) ?_
  obtain ⟨u1, e1, h⟩ := fr_bind h
  obtain ⟨r2, e2, h⟩ := fr_bind h
  refine fr_calli (fr_V (As := [.int x1]) (rest := []) ⟨hx, hb, hml, hown, hts⟩ (c_FR_isWant l D T A σ h0 x1 r2 e2) k_330 mv_FR_isWant rfl rfl ⟨Nat.le_of_ble_eq_true rfl, Nat.le_of_ble_eq_true rfl⟩ (fr_preV hK hX hH e1 rfl _) rfl hl.1 rfl (Nat.le_of_ble_eq_true rfl) d_FR_byteOf_2 ⟨Nat.zero_le _, Nat.zero_le _⟩) hS (fun H locs hH hS => ?_)
  refine lv_if_eq (tgt := 24) hx hb d_FR_byteOf_5 (by decide) (fun c3 => ?_) (fun c3 => ?_)
  · replace h := fr_ift c3 h
    refine lv_iconst (v := (-1)) hx hb d_FR_byteOf_24 (by decide) ?_
    exact fr_iretO hx hb hr hlocks  h hH hK hX hS d_FR_byteOf_25
  · replace h := fr_iff c3 h
    refine lv_aload_n hx hb d_FR_byteOf_8 rfl (lv_at hl 0 rfl) ?_
    obtain ⟨q4, e4, h⟩ := fr_bind h
    refine fr_gP hx hb hts in_FR hown hK hH e4 rfl 5 (by decide) (hts _ k_244) (fun _ h9 => h9) rfl d_FR_byteOf_9 ?_
    refine lv_iload_n hx hb d_FR_byteOf_12 rfl (lv_at hl 1 rfl) ?_
    obtain ⟨q5, e5, h⟩ := fr_bind h
    refine fr_qld hx hb hK hH e5 (by decide) rfl d_FR_byteOf_13 ?_
    obtain ⟨q6, e6, h⟩ := fr_bind h
    refine fr_gP hx hb hts in_Want hown hK hH e6 rfl 0 (by decide) (hts _ k_203) (fun _ h9 => h9) rfl d_FR_byteOf_14 ?_
    refine lv_iload_n hx hb d_FR_byteOf_17 rfl (lv_at hl 2 rfl) ?_
    obtain ⟨u7, e7, h⟩ := fr_bind h
    obtain ⟨r8, e8, h⟩ := fr_bind h
    refine fr_calli (fr_V (As := [.int x2]) (rest := []) ⟨hx, hb, hml, hown, hts⟩ (c_Row_at l D T A σ q6 x2 r8 e8) k_453 mv_Row_at rfl rfl ⟨Nat.le_of_ble_eq_true rfl, Nat.le_of_ble_eq_true rfl⟩ (fr_preV hK hX hH e7 rfl _) rfl hl.1 rfl (Nat.le_of_ble_eq_true rfl) d_FR_byteOf_18 ⟨Nat.zero_le _, Nat.zero_le _⟩) hS (fun H locs hH hS => ?_)
    refine lv_goto (tgt := 25) hx hb d_FR_byteOf_21 (by decide) ?_
    exact fr_iretO hx hb hr hlocks  h hH hK hX hS d_FR_byteOf_25
