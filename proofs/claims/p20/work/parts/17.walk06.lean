set_option maxHeartbeats 4000000 in
set_option maxRecDepth 100000 in
theorem c_Md_unpack (l : Launch) (D : va_G) (T : Nat → ClassId) (A : Nat → Prop) (σ : fr_S) (h0 : Nat) (x1 : Int32) (x2 : Int32) (r : Int32) (σ1 : fr_S) (h : m_Md_unpack h0 x1 x2 σ = some (r, σ1)) : Met l y_Md_unpack (Cond.code y_Md_unpack b_Md_unpack 4 (some .int) :: fr_W) ({ frames := 3, cells := 0, slots := 0, locals := 83 } : Room) (va_Pc [.ref h0, .int x1, .int x2] (fr_B D T A σ)) (fr_Qi D T A r σ1) 0 0 A := by
  refine Met.ofW (cc := b_Md_unpack) (maxL := 4) (ret := (some .int)) (by decide) rfl ?_
  intro p e s m args below meth c s₁ B hml hv
  obtain ⟨rfl, hH, hK, hX⟩ := hv
  have C0 : fr_At p s m _ meth c "FetchRulesModel" b_Md_unpack 4 (some .int) := fr_at B hml
  obtain ⟨hx, hb, hr, hml, hown, hts, hlocks⟩ := id C0
  have hS : va_S A s.heap s.heap [] := va_S.rf
  have hl := lv_entry ([.ref h0, .int x1, .int x2]) (n := 4) (Nat.le_of_ble_eq_true rfl)
  rw [lg_entry_eq]
  generalize (lg_sl ([.ref h0, .int x1, .int x2]) ++ List.replicate (4 - (lg_sl ([.ref h0, .int x1, .int x2])).length) Slot.unset).toArray = ls at hl ⊢
  have hl : lv_has ls 4 [(0, .ref h0), (1, .int x1), (2, .int x2)] := hl
  unfold m_Md_unpack at h
  refine lv_aload_n hx hb d_Md_unpack_0 rfl (lv_at hl 0 rfl) ?_
  refine lv_iconst (v := 0) hx hb d_Md_unpack_1 (by decide) ?_
  obtain ⟨σ_1, e1, h⟩ := fr_bind h
  refine fr_putI hx hb hts in_Md ty_Md tk_Md nm_Md hown hK hH hS e1 rfl 1 (by decide) (hts _ k_541) (fun _ h9 => h9) rfl (by decide +kernel) (fs_0_1 _ _ _) (Nat.le_of_ble_eq_true rfl) d_Md_unpack_2 (fun H locs hH hS => ?_)
  refine lv_aload_n hx hb d_Md_unpack_5 rfl (lv_at hl 0 rfl) ?_
  refine lv_iload_n hx hb d_Md_unpack_6 rfl (lv_at hl 1 rfl) ?_
  obtain ⟨u2, e2, h⟩ := fr_bind h
  obtain ⟨r3, e3, h⟩ := fr_bind h
  refine fr_calli (fr_V (As := [.int x1]) (rest := []) ⟨hx, hb, hml, hown, hts⟩ (c_Md_isWant l D T A σ_1 h0 x1 r3 e3) k_714 mv_Md_isWant rfl rfl ⟨Nat.le_of_ble_eq_true rfl, Nat.le_of_ble_eq_true rfl⟩ (fr_preV hK hX hH e2 rfl _) rfl hl.1 rfl (Nat.le_of_ble_eq_true rfl) d_Md_unpack_7 ⟨Nat.zero_le _, Nat.zero_le _⟩) hS (fun H locs hH hS => ?_)
  refine lv_if_eq (tgt := 32) hx hb d_Md_unpack_10 (by decide) (fun c4 => ?_) (fun c4 => ?_)
  · replace h := fr_ift c4 h
    refine lv_sipush (v := (-1000)) hx hb d_Md_unpack_32 (by decide) ?_
    exact fr_iret hx hb hr hlocks  h hH hK hX hS d_Md_unpack_35
  · replace h := fr_iff c4 h
    refine lv_aload_n hx hb d_Md_unpack_13 rfl (lv_at hl 0 rfl) ?_
    obtain ⟨q5, e5, h⟩ := fr_bind h
    refine fr_gP hx hb hts in_Md hown hK hH e5 rfl 25 (by decide) (hts _ k_565) (fun _ h9 => h9) rfl d_Md_unpack_14 ?_
    refine lv_iload_n hx hb d_Md_unpack_17 rfl (lv_at hl 1 rfl) ?_
    obtain ⟨v6, e6, h⟩ := fr_bind h
    refine fr_ild hx hb hK hH e6 d_Md_unpack_18 ?_
    refine lv_iconst (v := 3) hx hb d_Md_unpack_19 (by decide) ?_
    refine lv_icmp_ne (tgt := 32) hx hb d_Md_unpack_20 (by decide) (fun c7 => ?_) (fun c7 => ?_)
    · replace h := fr_iff c7 h
      refine lv_sipush (v := (-1000)) hx hb d_Md_unpack_32 (by decide) ?_
      exact fr_iret hx hb hr hlocks  h hH hK hX hS d_Md_unpack_35
    · replace h := fr_ift c7 h
      refine lv_iload_n hx hb d_Md_unpack_23 rfl (lv_at hl 2 rfl) ?_
      refine lv_if_lt (tgt := 32) hx hb d_Md_unpack_24 (by decide) (fun c8 => ?_) (fun c8 => ?_)
      · replace h := fr_ift c8 h
        refine lv_sipush (v := (-1000)) hx hb d_Md_unpack_32 (by decide) ?_
        exact fr_iret hx hb hr hlocks  h hH hK hX hS d_Md_unpack_35
      · replace h := fr_iff c8 h
        refine lv_iload_n hx hb d_Md_unpack_27 rfl (lv_at hl 2 rfl) ?_
        refine lv_iconst (v := 5) hx hb d_Md_unpack_28 (by decide) ?_
        refine lv_icmp_le (tgt := 36) hx hb d_Md_unpack_29 (by decide) (fun c9 => ?_) (fun c9 => ?_)
        · replace h := fr_ift c9 h
          refine lv_aload_n hx hb d_Md_unpack_36 rfl (lv_at hl 0 rfl) ?_
          refine lv_iload_n hx hb d_Md_unpack_37 rfl (lv_at hl 1 rfl) ?_
          refine lv_iload_n hx hb d_Md_unpack_38 rfl (lv_at hl 2 rfl) ?_
          refine lv_iconst (v := 0) hx hb d_Md_unpack_39 (by decide) ?_
          obtain ⟨u10, e10, h⟩ := fr_bind h
          obtain ⟨w11, e11, h⟩ := fr_bind h
          refine fr_calli (fr_V (As := [.int x1, .int x2, .int 0]) (rest := []) ⟨hx, hb, hml, hown, hts⟩ (c_Md_read l D T A σ_1 h0 x1 x2 0 w11.1 w11.2 e11) k_790 mv_Md_read rfl rfl ⟨Nat.le_of_ble_eq_true rfl, Nat.le_of_ble_eq_true rfl⟩ (fr_preV hK hX hH e10 rfl _) rfl hl.1 rfl (Nat.le_of_ble_eq_true rfl) d_Md_unpack_40 ⟨Nat.zero_le _, Nat.zero_le _⟩) hS (fun H locs hH hS => ?_)
          refine lv_istore_n (lv' := [(3, .int w11.1), (0, .ref h0), (1, .int x1), (2, .int x2)]) hx hb d_Md_unpack_43 rfl hl (by decide) rfl (fun ls hl => ?_)
          refine lv_iload_n hx hb d_Md_unpack_44 rfl (lv_at hl 0 rfl) ?_
          refine lv_iconst (v := (-1)) hx hb d_Md_unpack_45 (by decide) ?_
          refine lv_icmp_eq (tgt := 53) hx hb d_Md_unpack_46 (by decide) (fun c12 => ?_) (fun c12 => ?_)
          · replace h := fr_ift c12 h
            refine lv_aload_n hx hb d_Md_unpack_53 rfl (lv_at hl 1 rfl) ?_
            refine lv_iconst (v := 0) hx hb d_Md_unpack_54 (by decide) ?_
            obtain ⟨σ_13, e13, h⟩ := fr_bind h
            refine fr_putI hx hb hts in_Md ty_Md tk_Md nm_Md hown hK hH hS e13 rfl 39 (by decide) (hts _ k_579) (fun _ h9 => h9) rfl (by decide +kernel) (fs_0_39 _ _ _) (Nat.le_of_ble_eq_true rfl) d_Md_unpack_55 (fun H locs hH hS => ?_)
            refine lv_aload_n hx hb d_Md_unpack_58 rfl (lv_at hl 1 rfl) ?_
            refine lv_iload_n hx hb d_Md_unpack_59 rfl (lv_at hl 2 rfl) ?_
            refine lv_iload_n hx hb d_Md_unpack_60 rfl (lv_at hl 3 rfl) ?_
            refine lv_iconst (v := 1) hx hb d_Md_unpack_61 (by decide) ?_
            obtain ⟨u14, e14, h⟩ := fr_bind h
            obtain ⟨w15, e15, h⟩ := fr_bind h
            refine fr_calli (fr_V (As := [.int x1, .int x2, .int 1]) (rest := []) ⟨hx, hb, hml, hown, hts⟩ (c_Md_read l D T A σ_13 h0 x1 x2 1 w15.1 w15.2 e15) k_790 mv_Md_read rfl rfl ⟨Nat.le_of_ble_eq_true rfl, Nat.le_of_ble_eq_true rfl⟩ (fr_preV hK hX hH e14 rfl _) rfl hl.1 rfl (Nat.le_of_ble_eq_true rfl) d_Md_unpack_62 ⟨Nat.zero_le _, Nat.zero_le _⟩) hS (fun H locs hH hS => ?_)
            refine lv_pop hx hb d_Md_unpack_65 rfl ?_
            refine lv_aload_n hx hb d_Md_unpack_66 rfl (lv_at hl 1 rfl) ?_
            obtain ⟨v16, e16, h⟩ := fr_bind h
            refine fr_gI hx hb hts in_Md hown hK hH e16 rfl 39 (by decide) (hts _ k_579) (fun _ h9 => h9) rfl d_Md_unpack_67 ?_
            exact fr_iret hx hb hr hlocks  h hH hK hX hS d_Md_unpack_70
          · replace h := fr_iff c12 h
            refine lv_iconst (v := (-1)) hx hb d_Md_unpack_49 (by decide) ?_
            refine lv_iload_n hx hb d_Md_unpack_50 rfl (lv_at hl 0 rfl) ?_
            refine lv_isub hx hb d_Md_unpack_51 ?_
            exact fr_iret hx hb hr hlocks  h hH hK hX hS d_Md_unpack_52
        · replace h := fr_iff c9 h
          refine lv_sipush (v := (-1000)) hx hb d_Md_unpack_32 (by decide) ?_
          exact fr_iret hx hb hr hlocks  h hH hK hX hS d_Md_unpack_35
set_option maxHeartbeats 4000000 in
set_option maxRecDepth 100000 in
theorem c_Md_file (l : Launch) (D : va_G) (T : Nat → ClassId) (A : Nat → Prop) (σ : fr_S) (h0 : Nat) (x1 : Int32) (x2 : Int32) (r : Int32) (σ1 : fr_S) (h : m_Md_file h0 x1 x2 σ = some (r, σ1)) : Met l y_Md_file (Cond.code y_Md_file b_Md_file 3 (some .int) :: fr_W) ({ frames := 0, cells := 0, slots := 0, locals := 0 } : Room) (va_Pc [.ref h0, .int x1, .int x2] (fr_B D T A σ)) (fr_Qi D T A r σ1) 0 0 A := by
  refine Met.ofW (cc := b_Md_file) (maxL := 3) (ret := (some .int)) (by decide) rfl ?_
  intro p e s m args below meth c s₁ B hml hv
  obtain ⟨rfl, hH, hK, hX⟩ := hv
  have C0 : fr_At p s m _ meth c "FetchRulesModel" b_Md_file 3 (some .int) := fr_at B hml
  obtain ⟨hx, hb, hr, hml, hown, hts, hlocks⟩ := id C0
  have hS : va_S A s.heap s.heap [] := va_S.rf
  have hl := lv_entry ([.ref h0, .int x1, .int x2]) (n := 3) (Nat.le_of_ble_eq_true rfl)
  rw [lg_entry_eq]
  generalize (lg_sl ([.ref h0, .int x1, .int x2]) ++ List.replicate (3 - (lg_sl ([.ref h0, .int x1, .int x2])).length) Slot.unset).toArray = ls at hl ⊢
  have hl : lv_has ls 3 [(0, .ref h0), (1, .int x1), (2, .int x2)] := hl
  unfold m_Md_file at h
  refine lv_aload_n hx hb d_Md_file_0 rfl (lv_at hl 0 rfl) ?_
  refine lv_iconst (v := 0) hx hb d_Md_file_1 (by decide) ?_
  obtain ⟨σ_1, e1, h⟩ := fr_bind h
  refine fr_putI hx hb hts in_Md ty_Md tk_Md nm_Md hown hK hH hS e1 rfl 1 (by decide) (hts _ k_541) (fun _ h9 => h9) rfl (by decide +kernel) (fs_0_1 _ _ _) (Nat.le_of_ble_eq_true rfl) d_Md_file_2 (fun H locs hH hS => ?_)
  refine lv_iload_n hx hb d_Md_file_5 rfl (lv_at hl 1 rfl) ?_
  refine lv_if_lt (tgt := 17) hx hb d_Md_file_6 (by decide) (fun c2 => ?_) (fun c2 => ?_)
  · replace h := fr_ift c2 h
    refine lv_iconst (v := (-1)) hx hb d_Md_file_17 (by decide) ?_
    exact fr_iret hx hb hr hlocks  h hH hK hX hS d_Md_file_18
  · replace h := fr_iff c2 h
    refine lv_iload_n hx hb d_Md_file_9 rfl (lv_at hl 1 rfl) ?_
    refine lv_aload_n hx hb d_Md_file_10 rfl (lv_at hl 0 rfl) ?_
    obtain ⟨v3, e3, h⟩ := fr_bind h
    refine fr_gI hx hb hts in_Md hown hK hH e3 rfl 39 (by decide) (hts _ k_579) (fun _ h9 => h9) rfl d_Md_file_11 ?_
    refine lv_icmp_lt (tgt := 19) hx hb d_Md_file_14 (by decide) (fun c4 => ?_) (fun c4 => ?_)
    · replace h := fr_ift c4 h
      refine lv_iload_n hx hb d_Md_file_19 rfl (lv_at hl 2 rfl) ?_
      refine lv_if_ne (tgt := 32) hx hb d_Md_file_20 (by decide) (fun c5 => ?_) (fun c5 => ?_)
      · replace h := fr_iff c5 h
        refine lv_iload_n hx hb d_Md_file_32 rfl (lv_at hl 2 rfl) ?_
        refine lv_iconst (v := 1) hx hb d_Md_file_33 (by decide) ?_
        refine lv_icmp_ne (tgt := 46) hx hb d_Md_file_34 (by decide) (fun c6 => ?_) (fun c6 => ?_)
        · replace h := fr_iff c6 h
          refine lv_iload_n hx hb d_Md_file_46 rfl (lv_at hl 2 rfl) ?_
          refine lv_iconst (v := 2) hx hb d_Md_file_47 (by decide) ?_
          refine lv_icmp_ne (tgt := 60) hx hb d_Md_file_48 (by decide) (fun c7 => ?_) (fun c7 => ?_)
          · replace h := fr_iff c7 h
            refine lv_iload_n hx hb d_Md_file_60 rfl (lv_at hl 2 rfl) ?_
            refine lv_iconst (v := 3) hx hb d_Md_file_61 (by decide) ?_
            refine lv_icmp_ne (tgt := 74) hx hb d_Md_file_62 (by decide) (fun c8 => ?_) (fun c8 => ?_)
            · replace h := fr_iff c8 h
              refine lv_iconst (v := (-1)) hx hb d_Md_file_74 (by decide) ?_
              exact fr_iret hx hb hr hlocks  h hH hK hX hS d_Md_file_75
            · replace h := fr_ift c8 h
              refine lv_aload_n hx hb d_Md_file_65 rfl (lv_at hl 0 rfl) ?_
              obtain ⟨q9, e9, h⟩ := fr_bind h
              refine fr_gP hx hb hts in_Md hown hK hH e9 rfl 43 (by decide) (hts _ k_583) (fun _ h9 => h9) rfl d_Md_file_66 ?_
              refine lv_iload_n hx hb d_Md_file_69 rfl (lv_at hl 1 rfl) ?_
              obtain ⟨v10, e10, h⟩ := fr_bind h
              refine fr_ild hx hb hK hH e10 d_Md_file_70 ?_
              refine lv_goto (tgt := 75) hx hb d_Md_file_71 (by decide) ?_
              exact fr_iret hx hb hr hlocks  h hH hK hX hS d_Md_file_75
          · replace h := fr_ift c7 h
            refine lv_aload_n hx hb d_Md_file_51 rfl (lv_at hl 0 rfl) ?_
            obtain ⟨q11, e11, h⟩ := fr_bind h
            refine fr_gP hx hb hts in_Md hown hK hH e11 rfl 42 (by decide) (hts _ k_582) (fun _ h9 => h9) rfl d_Md_file_52 ?_
            refine lv_iload_n hx hb d_Md_file_55 rfl (lv_at hl 1 rfl) ?_
            obtain ⟨v12, e12, h⟩ := fr_bind h
            refine fr_ild hx hb hK hH e12 d_Md_file_56 ?_
            refine lv_goto (tgt := 75) hx hb d_Md_file_57 (by decide) ?_
            exact fr_iret hx hb hr hlocks  h hH hK hX hS d_Md_file_75
        · replace h := fr_ift c6 h
          refine lv_aload_n hx hb d_Md_file_37 rfl (lv_at hl 0 rfl) ?_
          obtain ⟨q13, e13, h⟩ := fr_bind h
          refine fr_gP hx hb hts in_Md hown hK hH e13 rfl 41 (by decide) (hts _ k_581) (fun _ h9 => h9) rfl d_Md_file_38 ?_
          refine lv_iload_n hx hb d_Md_file_41 rfl (lv_at hl 1 rfl) ?_
          obtain ⟨v14, e14, h⟩ := fr_bind h
          refine fr_ild hx hb hK hH e14 d_Md_file_42 ?_
          refine lv_goto (tgt := 75) hx hb d_Md_file_43 (by decide) ?_
          exact fr_iret hx hb hr hlocks  h hH hK hX hS d_Md_file_75
      · replace h := fr_ift c5 h
        refine lv_aload_n hx hb d_Md_file_23 rfl (lv_at hl 0 rfl) ?_
        obtain ⟨q15, e15, h⟩ := fr_bind h
        refine fr_gP hx hb hts in_Md hown hK hH e15 rfl 40 (by decide) (hts _ k_580) (fun _ h9 => h9) rfl d_Md_file_24 ?_
        refine lv_iload_n hx hb d_Md_file_27 rfl (lv_at hl 1 rfl) ?_
        obtain ⟨v16, e16, h⟩ := fr_bind h
        refine fr_ild hx hb hK hH e16 d_Md_file_28 ?_
        refine lv_goto (tgt := 75) hx hb d_Md_file_29 (by decide) ?_
        exact fr_iret hx hb hr hlocks  h hH hK hX hS d_Md_file_75
    · replace h := fr_iff c4 h
      refine lv_iconst (v := (-1)) hx hb d_Md_file_17 (by decide) ?_
      exact fr_iret hx hb hr hlocks  h hH hK hX hS d_Md_file_18
