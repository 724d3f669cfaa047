set_option maxHeartbeats 4000000 in
set_option maxRecDepth 100000 in
theorem c_Md_isPlace (l : Launch) (D : va_G) (T : Nat → ClassId) (A : Nat → Prop) (σ : fr_S) (h0 : Nat) (x1 : Int32) (r : Int32) (h : m_Md_isPlace h0 x1 σ = some r) : Met l y_Md_isPlace (Cond.code y_Md_isPlace b_Md_isPlace 2 (some .boolean) :: fr_W) ({ frames := 0, cells := 0, slots := 0, locals := 0 } : Room) (va_Pc [.ref h0, .int x1] (fr_B D T A σ)) (fr_Qi D T A r σ) 0 0 A := by
  refine Met.ofW (cc := b_Md_isPlace) (maxL := 2) (ret := (some .boolean)) (by decide) rfl ?_
  intro p e s m args below meth c s₁ B hml hv
  obtain ⟨rfl, hH, hK, hX⟩ := hv
  have C0 : fr_At p s m _ meth c "FetchRulesModel" b_Md_isPlace 2 (some .boolean) := fr_at B hml
  obtain ⟨hx, hb, hr, hml, hown, hts, hlocks⟩ := id C0
  have hS : va_S A s.heap s.heap [] := va_S.rf
  have hl := lv_entry ([.ref h0, .int x1]) (n := 2) (Nat.le_of_ble_eq_true rfl)
  rw [lg_entry_eq]
  generalize (lg_sl ([.ref h0, .int x1]) ++ List.replicate (2 - (lg_sl ([.ref h0, .int x1])).length) Slot.unset).toArray = ls at hl ⊢
  have hl : lv_has ls 2 [(0, .ref h0), (1, .int x1)] := hl
  unfold m_Md_isPlace at h
  refine lv_iload_n hx hb d_Md_isPlace_0 rfl (lv_at hl 1 rfl) ?_
  refine lv_if_lt (tgt := 16) hx hb d_Md_isPlace_1 (by decide) (fun c1 => ?_) (fun c1 => ?_)
  · replace h := fr_ift c1 h
    refine lv_iconst (v := 0) hx hb d_Md_isPlace_16 (by decide) ?_
    exact fr_zretO hx hb hr hlocks (Or.inl rfl) h hH hK hX hS d_Md_isPlace_17
  · replace h := fr_iff c1 h
    refine lv_iload_n hx hb d_Md_isPlace_4 rfl (lv_at hl 1 rfl) ?_
    refine lv_aload_n hx hb d_Md_isPlace_5 rfl (lv_at hl 0 rfl) ?_
    obtain ⟨v2, e2, h⟩ := fr_bind h
    refine fr_gI hx hb hts in_Md hown hK hH e2 rfl 6 (by decide) (hts _ k_546) (fun _ h9 => h9) rfl d_Md_isPlace_6 ?_
    refine lv_icmp_ge (tgt := 16) hx hb d_Md_isPlace_9 (by decide) (fun c3 => ?_) (fun c3 => ?_)
    · replace h := fr_ift c3 h
      refine lv_iconst (v := 0) hx hb d_Md_isPlace_16 (by decide) ?_
      exact fr_zretO hx hb hr hlocks (Or.inl rfl) h hH hK hX hS d_Md_isPlace_17
    · replace h := fr_iff c3 h
      refine lv_iconst (v := 1) hx hb d_Md_isPlace_12 (by decide) ?_
      refine lv_goto (tgt := 17) hx hb d_Md_isPlace_13 (by decide) ?_
      exact fr_zretO hx hb hr hlocks (Or.inr rfl) h hH hK hX hS d_Md_isPlace_17
set_option maxHeartbeats 4000000 in
set_option maxRecDepth 100000 in
theorem c_Md_isWant (l : Launch) (D : va_G) (T : Nat → ClassId) (A : Nat → Prop) (σ : fr_S) (h0 : Nat) (x1 : Int32) (r : Int32) (h : m_Md_isWant h0 x1 σ = some r) : Met l y_Md_isWant (Cond.code y_Md_isWant b_Md_isWant 2 (some .boolean) :: fr_W) ({ frames := 0, cells := 0, slots := 0, locals := 0 } : Room) (va_Pc [.ref h0, .int x1] (fr_B D T A σ)) (fr_Qi D T A r σ) 0 0 A := by
  refine Met.ofW (cc := b_Md_isWant) (maxL := 2) (ret := (some .boolean)) (by decide) rfl ?_
  intro p e s m args below meth c s₁ B hml hv
  obtain ⟨rfl, hH, hK, hX⟩ := hv
  have C0 : fr_At p s m _ meth c "FetchRulesModel" b_Md_isWant 2 (some .boolean) := fr_at B hml
  obtain ⟨hx, hb, hr, hml, hown, hts, hlocks⟩ := id C0
  have hS : va_S A s.heap s.heap [] := va_S.rf
  have hl := lv_entry ([.ref h0, .int x1]) (n := 2) (Nat.le_of_ble_eq_true rfl)
  rw [lg_entry_eq]
  generalize (lg_sl ([.ref h0, .int x1]) ++ List.replicate (2 - (lg_sl ([.ref h0, .int x1])).length) Slot.unset).toArray = ls at hl ⊢
  have hl : lv_has ls 2 [(0, .ref h0), (1, .int x1)] := hl
  unfold m_Md_isWant at h
  refine lv_iload_n hx hb d_Md_isWant_0 rfl (lv_at hl 1 rfl) ?_
  refine lv_if_lt (tgt := 16) hx hb d_Md_isWant_1 (by decide) (fun c1 => ?_) (fun c1 => ?_)
  · replace h := fr_ift c1 h
    refine lv_iconst (v := 0) hx hb d_Md_isWant_16 (by decide) ?_
    exact fr_zretO hx hb hr hlocks (Or.inl rfl) h hH hK hX hS d_Md_isWant_17
  · replace h := fr_iff c1 h
    refine lv_iload_n hx hb d_Md_isWant_4 rfl (lv_at hl 1 rfl) ?_
    refine lv_aload_n hx hb d_Md_isWant_5 rfl (lv_at hl 0 rfl) ?_
    obtain ⟨v2, e2, h⟩ := fr_bind h
    refine fr_gI hx hb hts in_Md hown hK hH e2 rfl 7 (by decide) (hts _ k_547) (fun _ h9 => h9) rfl d_Md_isWant_6 ?_
    refine lv_icmp_ge (tgt := 16) hx hb d_Md_isWant_9 (by decide) (fun c3 => ?_) (fun c3 => ?_)
    · replace h := fr_ift c3 h
      refine lv_iconst (v := 0) hx hb d_Md_isWant_16 (by decide) ?_
      exact fr_zretO hx hb hr hlocks (Or.inl rfl) h hH hK hX hS d_Md_isWant_17
    · replace h := fr_iff c3 h
      refine lv_iconst (v := 1) hx hb d_Md_isWant_12 (by decide) ?_
      refine lv_goto (tgt := 17) hx hb d_Md_isWant_13 (by decide) ?_
      exact fr_zretO hx hb hr hlocks (Or.inr rfl) h hH hK hX hS d_Md_isWant_17
set_option maxHeartbeats 4000000 in
set_option maxRecDepth 100000 in
theorem c_Md_credential (l : Launch) (D : va_G) (T : Nat → ClassId) (A : Nat → Prop) (σ : fr_S) (h0 : Nat) (x1 : Int32) (x2 : Int32) (r : Int32) (σ1 : fr_S) (h : m_Md_credential h0 x1 x2 σ = some (r, σ1)) : Met l y_Md_credential (Cond.code y_Md_credential b_Md_credential 3 (some .boolean) :: fr_W) ({ frames := 0, cells := 0, slots := 0, locals := 0 } : Room) (va_Pc [.ref h0, .int x1, .int x2] (fr_B D T A σ)) (fr_Qi D T A r σ1) 0 0 A := by
  refine Met.ofW (cc := b_Md_credential) (maxL := 3) (ret := (some .boolean)) (by decide) rfl ?_
  intro p e s m args below meth c s₁ B hml hv
  obtain ⟨rfl, hH, hK, hX⟩ := hv
  have C0 : fr_At p s m _ meth c "FetchRulesModel" b_Md_credential 3 (some .boolean) := fr_at B hml
  obtain ⟨hx, hb, hr, hml, hown, hts, hlocks⟩ := id C0
  have hS : va_S A s.heap s.heap [] := va_S.rf
  have hl := lv_entry ([.ref h0, .int x1, .int x2]) (n := 3) (Nat.le_of_ble_eq_true rfl)
  rw [lg_entry_eq]
  generalize (lg_sl ([.ref h0, .int x1, .int x2]) ++ List.replicate (3 - (lg_sl ([.ref h0, .int x1, .int x2])).length) Slot.unset).toArray = ls at hl ⊢
  have hl : lv_has ls 3 [(0, .ref h0), (1, .int x1), (2, .int x2)] := hl
  unfold m_Md_credential at h
  refine lv_aload_n hx hb d_Md_credential_0 rfl (lv_at hl 0 rfl) ?_
  refine lv_iconst (v := 0) hx hb d_Md_credential_1 (by decide) ?_
  obtain ⟨σ_1, e1, h⟩ := fr_bind h
  refine fr_putI hx hb hts in_Md ty_Md tk_Md nm_Md hown hK hH hS e1 rfl 1 (by decide) (hts _ k_541) (fun _ h9 => h9) rfl (by decide +kernel) (fs_0_1 _ _ _) (Nat.le_of_ble_eq_true rfl) d_Md_credential_2 (fun H locs hH hS => ?_)
  refine lv_iload_n hx hb d_Md_credential_5 rfl (lv_at hl 1 rfl) ?_
  refine lv_if_lt (tgt := 15) hx hb d_Md_credential_6 (by decide) (fun c2 => ?_) (fun c2 => ?_)
  · replace h := fr_ift c2 h
    refine lv_iconst (v := 0) hx hb d_Md_credential_15 (by decide) ?_
    exact fr_zret hx hb hr hlocks (Or.inl rfl) h hH hK hX hS d_Md_credential_16
  · replace h := fr_iff c2 h
    refine lv_iload_n hx hb d_Md_credential_9 rfl (lv_at hl 1 rfl) ?_
    refine lv_bipush (v := 8) hx hb d_Md_credential_10 (by decide) ?_
    refine lv_icmp_lt (tgt := 17) hx hb d_Md_credential_12 (by decide) (fun c3 => ?_) (fun c3 => ?_)
    · replace h := fr_ift c3 h
      refine lv_aload_n hx hb d_Md_credential_17 rfl (lv_at hl 0 rfl) ?_
      obtain ⟨q4, e4, h⟩ := fr_bind h
      refine fr_gP hx hb hts in_Md hown hK hH e4 rfl 4 (by decide) (hts _ k_544) (fun _ h9 => h9) rfl d_Md_credential_18 ?_
      refine lv_iload_n hx hb d_Md_credential_21 rfl (lv_at hl 1 rfl) ?_
      refine lv_iload_n hx hb d_Md_credential_22 rfl (lv_at hl 2 rfl) ?_
      obtain ⟨σ_5, e5, h⟩ := fr_bind h
      refine fr_zst hx hb hK hH hS e5 d_Md_credential_23 (fun H locs hH hS => ?_)
      refine lv_iconst (v := 1) hx hb d_Md_credential_24 (by decide) ?_
      exact fr_zret hx hb hr hlocks (Or.inr rfl) h hH hK hX hS d_Md_credential_25
    · replace h := fr_iff c3 h
      refine lv_iconst (v := 0) hx hb d_Md_credential_15 (by decide) ?_
      exact fr_zret hx hb hr hlocks (Or.inl rfl) h hH hK hX hS d_Md_credential_16
set_option maxHeartbeats 4000000 in
set_option maxRecDepth 100000 in
theorem c_Md_place (l : Launch) (D : va_G) (T : Nat → ClassId) (A : Nat → Prop) (σ : fr_S) (h0 : Nat) (x1 : Int32) (x2 : Int32) (r : Int32) (σ1 : fr_S) (h : m_Md_place h0 x1 x2 σ = some (r, σ1)) : Met l y_Md_place (Cond.code y_Md_place b_Md_place 3 (some .int) :: fr_W) ({ frames := 0, cells := 0, slots := 0, locals := 0 } : Room) (va_Pc [.ref h0, .int x1, .int x2] (fr_B D T A σ)) (fr_Qi D T A r σ1) 0 0 A := by
  refine Met.ofW (cc := b_Md_place) (maxL := 3) (ret := (some .int)) (by decide) rfl ?_
  intro p e s m args below meth c s₁ B hml hv
  obtain ⟨rfl, hH, hK, hX⟩ := hv
  have C0 : fr_At p s m _ meth c "FetchRulesModel" b_Md_place 3 (some .int) := fr_at B hml
  obtain ⟨hx, hb, hr, hml, hown, hts, hlocks⟩ := id C0
  have hS : va_S A s.heap s.heap [] := va_S.rf
  have hl := lv_entry ([.ref h0, .int x1, .int x2]) (n := 3) (Nat.le_of_ble_eq_true rfl)
  rw [lg_entry_eq]
  generalize (lg_sl ([.ref h0, .int x1, .int x2]) ++ List.replicate (3 - (lg_sl ([.ref h0, .int x1, .int x2])).length) Slot.unset).toArray = ls at hl ⊢
  have hl : lv_has ls 3 [(0, .ref h0), (1, .int x1), (2, .int x2)] := hl
  unfold m_Md_place at h
  refine lv_aload_n hx hb d_Md_place_0 rfl (lv_at hl 0 rfl) ?_
  refine lv_iconst (v := 0) hx hb d_Md_place_1 (by decide) ?_
  obtain ⟨σ_1, e1, h⟩ := fr_bind h
  refine fr_putI hx hb hts in_Md ty_Md tk_Md nm_Md hown hK hH hS e1 rfl 1 (by decide) (hts _ k_541) (fun _ h9 => h9) rfl (by decide +kernel) (fs_0_1 _ _ _) (Nat.le_of_ble_eq_true rfl) d_Md_place_2 (fun H locs hH hS => ?_)
  refine lv_aload_n hx hb d_Md_place_5 rfl (lv_at hl 0 rfl) ?_
  obtain ⟨v2, e2, h⟩ := fr_bind h
  refine fr_gI hx hb hts in_Md hown hK hH e2 rfl 6 (by decide) (hts _ k_546) (fun _ h9 => h9) rfl d_Md_place_6 ?_
  refine lv_bipush (v := 16) hx hb d_Md_place_9 (by decide) ?_
  refine lv_icmp_eq (tgt := 35) hx hb d_Md_place_11 (by decide) (fun c3 => ?_) (fun c3 => ?_)
  · replace h := fr_ift c3 h
    refine lv_iconst (v := (-1)) hx hb d_Md_place_35 (by decide) ?_
    exact fr_iret hx hb hr hlocks  h hH hK hX hS d_Md_place_36
  · replace h := fr_iff c3 h
    refine lv_iload_n hx hb d_Md_place_14 rfl (lv_at hl 1 rfl) ?_
    refine lv_if_lt (tgt := 35) hx hb d_Md_place_15 (by decide) (fun c4 => ?_) (fun c4 => ?_)
    · replace h := fr_ift c4 h
      refine lv_iconst (v := (-1)) hx hb d_Md_place_35 (by decide) ?_
      exact fr_iret hx hb hr hlocks  h hH hK hX hS d_Md_place_36
    · replace h := fr_iff c4 h
      refine lv_iload_n hx hb d_Md_place_18 rfl (lv_at hl 1 rfl) ?_
      refine lv_bipush (v := 8) hx hb d_Md_place_19 (by decide) ?_
      refine lv_icmp_ge (tgt := 35) hx hb d_Md_place_21 (by decide) (fun c5 => ?_) (fun c5 => ?_)
      · replace h := fr_ift c5 h
        refine lv_iconst (v := (-1)) hx hb d_Md_place_35 (by decide) ?_
        exact fr_iret hx hb hr hlocks  h hH hK hX hS d_Md_place_36
      · replace h := fr_iff c5 h
        refine lv_iload_n hx hb d_Md_place_24 rfl (lv_at hl 2 rfl) ?_
        refine lv_iconst (v := 1) hx hb d_Md_place_25 (by decide) ?_
        refine lv_icmp_lt (tgt := 35) hx hb d_Md_place_26 (by decide) (fun c6 => ?_) (fun c6 => ?_)
        · replace h := fr_ift c6 h
          refine lv_iconst (v := (-1)) hx hb d_Md_place_35 (by decide) ?_
          exact fr_iret hx hb hr hlocks  h hH hK hX hS d_Md_place_36
        · replace h := fr_iff c6 h
          refine lv_iload_n hx hb d_Md_place_29 rfl (lv_at hl 2 rfl) ?_
          refine lv_bipush (v := 50) hx hb d_Md_place_30 (by decide) ?_
          refine lv_icmp_le (tgt := 37) hx hb d_Md_place_32 (by decide) (fun c7 => ?_) (fun c7 => ?_)
          · replace h := fr_ift c7 h
            refine lv_aload_n hx hb d_Md_place_37 rfl (lv_at hl 0 rfl) ?_
            obtain ⟨q8, e8, h⟩ := fr_bind h
            refine fr_gP hx hb hts in_Md hown hK hH e8 rfl 11 (by decide) (hts _ k_551) (fun _ h9 => h9) rfl d_Md_place_38 ?_
            refine lv_aload_n hx hb d_Md_place_41 rfl (lv_at hl 0 rfl) ?_
            obtain ⟨v9, e9, h⟩ := fr_bind h
            refine fr_gI hx hb hts in_Md hown hK hH e9 rfl 6 (by decide) (hts _ k_546) (fun _ h9 => h9) rfl d_Md_place_42 ?_
            refine lv_iload_n hx hb d_Md_place_45 rfl (lv_at hl 1 rfl) ?_
            obtain ⟨σ_10, e10, h⟩ := fr_bind h
            refine fr_ist hx hb hK hH hS e10 d_Md_place_46 (fun H locs hH hS => ?_)
            refine lv_aload_n hx hb d_Md_place_47 rfl (lv_at hl 0 rfl) ?_
            obtain ⟨q11, e11, h⟩ := fr_bind h
            refine fr_gP hx hb hts in_Md hown hK hH e11 rfl 12 (by decide) (hts _ k_552) (fun _ h9 => h9) rfl d_Md_place_48 ?_
            refine lv_aload_n hx hb d_Md_place_51 rfl (lv_at hl 0 rfl) ?_
            obtain ⟨v12, e12, h⟩ := fr_bind h
            refine fr_gI hx hb hts in_Md hown hK hH e12 rfl 6 (by decide) (hts _ k_546) (fun _ h9 => h9) rfl d_Md_place_52 ?_
            refine lv_iload_n hx hb d_Md_place_55 rfl (lv_at hl 2 rfl) ?_
            obtain ⟨σ_13, e13, h⟩ := fr_bind h
            refine fr_ist hx hb hK hH hS e13 d_Md_place_56 (fun H locs hH hS => ?_)
            refine lv_aload_n hx hb d_Md_place_57 rfl (lv_at hl 0 rfl) ?_
            obtain ⟨q14, e14, h⟩ := fr_bind h
            refine fr_gP hx hb hts in_Md hown hK hH e14 rfl 14 (by decide) (hts _ k_554) (fun _ h9 => h9) rfl d_Md_place_58 ?_
            refine lv_aload_n hx hb d_Md_place_61 rfl (lv_at hl 0 rfl) ?_
            obtain ⟨v15, e15, h⟩ := fr_bind h
            refine fr_gI hx hb hts in_Md hown hK hH e15 rfl 6 (by decide) (hts _ k_546) (fun _ h9 => h9) rfl d_Md_place_62 ?_
            refine lv_iconst (v := (-1)) hx hb d_Md_place_65 (by decide) ?_
            obtain ⟨σ_16, e16, h⟩ := fr_bind h
            refine fr_ist hx hb hK hH hS e16 d_Md_place_66 (fun H locs hH hS => ?_)
            refine lv_aload_n hx hb d_Md_place_67 rfl (lv_at hl 0 rfl) ?_
            refine lv_dup hx hb d_Md_place_68 rfl ?_
            obtain ⟨v17, e17, h⟩ := fr_bind h
            refine fr_gI hx hb hts in_Md hown hK hH e17 rfl 6 (by decide) (hts _ k_546) (fun _ h9 => h9) rfl d_Md_place_69 ?_
            refine lv_iconst (v := 1) hx hb d_Md_place_72 (by decide) ?_
            refine lv_iadd hx hb d_Md_place_73 ?_
            obtain ⟨σ_18, e18, h⟩ := fr_bind h
            refine fr_putI hx hb hts in_Md ty_Md tk_Md nm_Md hown hK hH hS e18 rfl 6 (by decide) (hts _ k_546) (fun _ h9 => h9) rfl (by decide +kernel) (fs_0_6 _ _ _) (Nat.le_of_ble_eq_true rfl) d_Md_place_74 (fun H locs hH hS => ?_)
            refine lv_aload_n hx hb d_Md_place_77 rfl (lv_at hl 0 rfl) ?_
            obtain ⟨v19, e19, h⟩ := fr_bind h
            refine fr_gI hx hb hts in_Md hown hK hH e19 rfl 6 (by decide) (hts _ k_546) (fun _ h9 => h9) rfl d_Md_place_78 ?_
            refine lv_iconst (v := 1) hx hb d_Md_place_81 (by decide) ?_
            refine lv_isub hx hb d_Md_place_82 ?_
            exact fr_iret hx hb hr hlocks  h hH hK hX hS d_Md_place_83
          · replace h := fr_iff c7 h
            refine lv_iconst (v := (-1)) hx hb d_Md_place_35 (by decide) ?_
            exact fr_iret hx hb hr hlocks  h hH hK hX hS d_Md_place_36
set_option maxHeartbeats 4000000 in
set_option maxRecDepth 100000 in
theorem w_Md_content_L48 {p : Program} {l : Launch} {e : Env} {s : State} {m : MethodId} {args : Array Value} {below : List Frame} {meth : Method} {c : Code} {D : va_G} {T : Nat → ClassId} {A : Nat → Prop} (C0 : fr_At p s m args meth c "FetchRulesModel" b_Md_content 6 (some .boolean)) (hK : va_K D vwCl (fr_tys T) s) (hX : fr_X s) :
    ∀ (n : Nat) (b0 : Nat) (y1 : Int32) (y2 : Int64) (y5 : Int32) (σ : fr_S) (r : Int32) (σ1 : fr_S), m_Md_content_L48 n b0 y1 y2 y5 σ = some (r, σ1) → ∀ (H : Heap) (locs : List Loc), fr_H D T A σ H → va_S A s.heap H locs → ∀ (ls : Array Slot), lv_has ls 6 [(0, .ref b0), (1, .int y1), (2, .long y2), (5, .int y5)] → W p l e (headSpec (Cond.code y_Md_content b_Md_content 6 (some .boolean) :: fr_W) ({ frames := 1, cells := 0, slots := 0, locals := 21 } : Room)).room s m args below meth c H locs 0 0 (MQ below (fr_Qi D T A r σ1) args s 0 0 A) (F0 m 48 ls []) := by
  obtain ⟨hx, hb, hr, hml, hown, hts, hlocks⟩ := id C0
  intro n
  induction n with
  | zero => intro b0 y1 y2 y5 σ r σ1 h; cases h
  | succ n ih =>
    intro b0 y1 y2 y5 σ r σ1 h H locs hH hS ls hl
    unfold m_Md_content_L48 at h
    refine lv_iload hx hb d_Md_content_48 (lv_at hl 3 rfl) ?_
    refine lv_if_lt (tgt := 97) hx hb d_Md_content_50 (by decide) (fun c10 => ?_) (fun c10 => ?_)
    · replace h := fr_ift c10 h
      refine lv_iconst (v := 1) hx hb d_Md_content_97 (by decide) ?_
      exact fr_zret hx hb hr hlocks (Or.inr rfl) h hH hK hX hS d_Md_content_98
    · replace h := fr_iff c10 h
      refine lv_aload_n hx hb d_Md_content_53 rfl (lv_at hl 0 rfl) ?_
      obtain ⟨q11, e11, h⟩ := fr_bind h
      refine fr_gP hx hb hts in_Md hown hK hH e11 rfl 17 (by decide) (hts _ k_557) (fun _ h9 => h9) rfl d_Md_content_54 ?_
      refine lv_bipush (v := 100) hx hb d_Md_content_57 (by decide) ?_
      refine lv_iload_n hx hb d_Md_content_59 rfl (lv_at hl 1 rfl) ?_
      refine lv_imul hx hb d_Md_content_60 ?_
      refine lv_aload_n hx hb d_Md_content_61 rfl (lv_at hl 0 rfl) ?_
      obtain ⟨q12, e12, h⟩ := fr_bind h
      refine fr_gP hx hb hts in_Md hown hK hH e12 rfl 13 (by decide) (hts _ k_553) (fun _ h9 => h9) rfl d_Md_content_62 ?_
      refine lv_iload_n hx hb d_Md_content_65 rfl (lv_at hl 1 rfl) ?_
      obtain ⟨v13, e13, h⟩ := fr_bind h
      refine fr_ild hx hb hK hH e13 d_Md_content_66 ?_
      refine lv_iadd hx hb d_Md_content_67 ?_
      refine lv_lload_n hx hb d_Md_content_68 rfl (lv_at hl 2 rfl) ?_
      refine lv_bipush (v := 8) hx hb d_Md_content_69 (by decide) ?_
      refine lv_iload hx hb d_Md_content_71 (lv_at hl 3 rfl) ?_
      refine lv_imul hx hb d_Md_content_73 ?_
      refine lv_lshr (v := (y2 >>> ((8 * y5).toInt64 &&& 63))) hx hb d_Md_content_74 rfl ?_
      refine lv_ldc2 (v := (255)) hx hb hown (hts _ k_689) d_Md_content_75 ?_
      refine lv_land hx hb d_Md_content_78 ?_
      refine lv_l2i (v := ((y2 >>> ((8 * y5).toInt64 &&& 63)) &&& (255)).toInt32) hx hb d_Md_content_79 rfl ?_
      obtain ⟨σ_14, e14, h⟩ := fr_bind h
      refine fr_ist hx hb hK hH hS e14 d_Md_content_80 (fun H locs hH hS => ?_)
      refine lv_aload_n hx hb d_Md_content_81 rfl (lv_at hl 0 rfl) ?_
      obtain ⟨q15, e15, h⟩ := fr_bind h
      refine fr_gP hx hb hts in_Md hown hK hH e15 rfl 13 (by decide) (hts _ k_553) (fun _ h9 => h9) rfl d_Md_content_82 ?_
      refine lv_iload_n hx hb d_Md_content_85 rfl (lv_at hl 1 rfl) ?_
      refine lv_dup2_11 hx hb d_Md_content_86 rfl rfl ?_
      obtain ⟨v16, e16, h⟩ := fr_bind h
      refine fr_ild hx hb hK hH e16 d_Md_content_87 ?_
      refine lv_iconst (v := 1) hx hb d_Md_content_88 (by decide) ?_
      refine lv_iadd hx hb d_Md_content_89 ?_
      obtain ⟨σ_17, e17, h⟩ := fr_bind h
      refine fr_ist hx hb hK hH hS e17 d_Md_content_90 (fun H locs hH hS => ?_)
      refine lv_iinc (v := (y5 + (-1))) (lv' := [(5, .int (y5 + (-1))), (0, .ref b0), (1, .int y1), (2, .long y2)]) hx hb d_Md_content_91 hl (k := 3) rfl rfl (by decide) rfl (fun ls hl => ?_)
      refine lv_goto (tgt := 48) hx hb d_Md_content_94 (by decide) ?_
      exact ih b0 y1 y2 (y5 + (-1)) σ_17 r σ1 h _ _ hH hS ls (lv_sub hl [1, 2, 3, 0] rfl)
set_option maxHeartbeats 4000000 in
set_option maxRecDepth 100000 in
theorem c_Md_content (l : Launch) (D : va_G) (T : Nat → ClassId) (A : Nat → Prop) (σ : fr_S) (h0 : Nat) (x1 : Int32) (x2 : Int64) (x4 : Int32) (r : Int32) (σ1 : fr_S) (h : m_Md_content h0 x1 x2 x4 σ = some (r, σ1)) : Met l y_Md_content (Cond.code y_Md_content b_Md_content 6 (some .boolean) :: fr_W) ({ frames := 1, cells := 0, slots := 0, locals := 21 } : Room) (va_Pc [.ref h0, .int x1, .long x2, .int x4] (fr_B D T A σ)) (fr_Qi D T A r σ1) 0 0 A := by
  refine Met.ofW (cc := b_Md_content) (maxL := 6) (ret := (some .boolean)) (by decide) rfl ?_
  intro p e s m args below meth c s₁ B hml hv
  obtain ⟨rfl, hH, hK, hX⟩ := hv
  have C0 : fr_At p s m _ meth c "FetchRulesModel" b_Md_content 6 (some .boolean) := fr_at B hml
  obtain ⟨hx, hb, hr, hml, hown, hts, hlocks⟩ := id C0
  have hS : va_S A s.heap s.heap [] := va_S.rf
  have hl := lv_entry ([.ref h0, .int x1, .long x2, .int x4]) (n := 6) (Nat.le_of_ble_eq_true rfl)
  rw [lg_entry_eq]
  generalize (lg_sl ([.ref h0, .int x1, .long x2, .int x4]) ++ List.replicate (6 - (lg_sl ([.ref h0, .int x1, .long x2, .int x4])).length) Slot.unset).toArray = ls at hl ⊢
  have hl : lv_has ls 6 [(0, .ref h0), (1, .int x1), (2, .long x2), (4, .int x4)] := hl
  unfold m_Md_content at h
  refine lv_aload_n hx hb d_Md_content_0 rfl (lv_at hl 0 rfl) ?_
  refine lv_iconst (v := 0) hx hb d_Md_content_1 (by decide) ?_
  obtain ⟨σ_1, e1, h⟩ := fr_bind h
  refine fr_putI hx hb hts in_Md ty_Md tk_Md nm_Md hown hK hH hS e1 rfl 1 (by decide) (hts _ k_541) (fun _ h9 => h9) rfl (by decide +kernel) (fs_0_1 _ _ _) (Nat.le_of_ble_eq_true rfl) d_Md_content_2 (fun H locs hH hS => ?_)
  refine lv_aload_n hx hb d_Md_content_5 rfl (lv_at hl 0 rfl) ?_
  refine lv_iload_n hx hb d_Md_content_6 rfl (lv_at hl 1 rfl) ?_
  obtain ⟨u2, e2, h⟩ := fr_bind h
  obtain ⟨r3, e3, h⟩ := fr_bind h
  refine fr_calli (fr_V (As := [.int x1]) (rest := []) ⟨hx, hb, hml, hown, hts⟩ (c_Md_isPlace l D T A σ_1 h0 x1 r3 e3) k_685 mv_Md_isPlace rfl rfl ⟨Nat.le_of_ble_eq_true rfl, Nat.le_of_ble_eq_true rfl⟩ (fr_preV hK hX hH e2 rfl _) rfl hl.1 rfl (Nat.le_of_ble_eq_true rfl) d_Md_content_7 ⟨Nat.zero_le _, Nat.zero_le _⟩) hS (fun H locs hH hS => ?_)
  refine lv_if_eq (tgt := 40) hx hb d_Md_content_10 (by decide) (fun c4 => ?_) (fun c4 => ?_)
  · replace h := fr_ift c4 h
    refine lv_iconst (v := 0) hx hb d_Md_content_40 (by decide) ?_
    exact fr_zret hx hb hr hlocks (Or.inl rfl) h hH hK hX hS d_Md_content_41
  · replace h := fr_iff c4 h
    refine lv_iload hx hb d_Md_content_13 (lv_at hl 3 rfl) ?_
    refine lv_iconst (v := 1) hx hb d_Md_content_15 (by decide) ?_
    refine lv_icmp_lt (tgt := 40) hx hb d_Md_content_16 (by decide) (fun c5 => ?_) (fun c5 => ?_)
    · replace h := fr_ift c5 h
      refine lv_iconst (v := 0) hx hb d_Md_content_40 (by decide) ?_
      exact fr_zret hx hb hr hlocks (Or.inl rfl) h hH hK hX hS d_Md_content_41
    · replace h := fr_iff c5 h
      refine lv_iload hx hb d_Md_content_19 (lv_at hl 3 rfl) ?_
      refine lv_bipush (v := 8) hx hb d_Md_content_21 (by decide) ?_
      refine lv_icmp_gt (tgt := 40) hx hb d_Md_content_23 (by decide) (fun c6 => ?_) (fun c6 => ?_)
      · replace h := fr_ift c6 h
        refine lv_iconst (v := 0) hx hb d_Md_content_40 (by decide) ?_
        exact fr_zret hx hb hr hlocks (Or.inl rfl) h hH hK hX hS d_Md_content_41
      · replace h := fr_iff c6 h
        refine lv_aload_n hx hb d_Md_content_26 rfl (lv_at hl 0 rfl) ?_
        obtain ⟨q7, e7, h⟩ := fr_bind h
        refine fr_gP hx hb hts in_Md hown hK hH e7 rfl 13 (by decide) (hts _ k_553) (fun _ h9 => h9) rfl d_Md_content_27 ?_
        refine lv_iload_n hx hb d_Md_content_30 rfl (lv_at hl 1 rfl) ?_
        obtain ⟨v8, e8, h⟩ := fr_bind h
        refine fr_ild hx hb hK hH e8 d_Md_content_31 ?_
        refine lv_iload hx hb d_Md_content_32 (lv_at hl 3 rfl) ?_
        refine lv_iadd hx hb d_Md_content_34 ?_
        refine lv_bipush (v := 100) hx hb d_Md_content_35 (by decide) ?_
        refine lv_icmp_le (tgt := 42) hx hb d_Md_content_37 (by decide) (fun c9 => ?_) (fun c9 => ?_)
        · replace h := fr_ift c9 h
          refine lv_iload hx hb d_Md_content_42 (lv_at hl 3 rfl) ?_
          refine lv_iconst (v := 1) hx hb d_Md_content_44 (by decide) ?_
          refine lv_isub hx hb d_Md_content_45 ?_
          refine lv_istore (lv' := [(5, .int (x4 - 1)), (0, .ref h0), (1, .int x1), (2, .long x2), (4, .int x4)]) hx hb d_Md_content_46 hl (by decide) rfl (fun ls hl => ?_)
          exact w_Md_content_L48 C0 hK hX 1000 h0 x1 x2 (x4 - 1) σ_1 r σ1 h _ _ hH hS ls (lv_sub hl [1, 2, 3, 0] rfl)
        · replace h := fr_iff c9 h
          refine lv_iconst (v := 0) hx hb d_Md_content_40 (by decide) ?_
          exact fr_zret hx hb hr hlocks (Or.inl rfl) h hH hK hX hS d_Md_content_41
set_option maxHeartbeats 4000000 in
set_option maxRecDepth 100000 in
theorem w_Md_does_B93 {p : Program} {l : Launch} {e : Env} {s : State} {m : MethodId} {args : Array Value} {below : List Frame} {meth : Method} {c : Code} {D : va_G} {T : Nat → ClassId} {A : Nat → Prop} (C0 : fr_At p s m args meth c "FetchRulesModel" b_Md_does 4 (some .boolean)) (hK : va_K D vwCl (fr_tys T) s) (hX : fr_X s) (b0 : Nat) (y1 : Int32) (y2 : Int32) (y3 : Int32) (σ : fr_S) (r : Int32) (σ1 : fr_S) (h : m_Md_does_B93 b0 y1 y2 y3 σ = some (r, σ1)) (H : Heap) (locs : List Loc) (hH : fr_H D T A σ H) (hS : va_S A s.heap H locs) (ls : Array Slot) (hl : lv_has ls 4 [(0, .ref b0), (1, .int y1), (2, .int y2), (3, .int y3)]) : W p l e (headSpec (Cond.code y_Md_does b_Md_does 4 (some .boolean) :: fr_W) ({ frames := 1, cells := 0, slots := 0, locals := 21 } : Room)).room s m args below meth c H locs 0 0 (MQ below (fr_Qi D T A r σ1) args s 0 0 A) (F0 m 93 ls []) := by
  obtain ⟨hx, hb, hr, hml, hown, hts, hlocks⟩ := id C0
  unfold m_Md_does_B93 at h
  refine lv_iload_n hx hb d_Md_does_93 rfl (lv_at hl 2 rfl) ?_
  refine lv_iconst (v := 3) hx hb d_Md_does_94 (by decide) ?_
  refine lv_icmp_ne (tgt := 113) hx hb d_Md_does_95 (by decide) (fun c25 => ?_) (fun c25 => ?_)
  · replace h := fr_iff c25 h
    refine lv_iconst (v := 1) hx hb d_Md_does_113 (by decide) ?_
    exact fr_zret hx hb hr hlocks (Or.inr rfl) h hH hK hX hS d_Md_does_114
  · replace h := fr_ift c25 h
    refine lv_aload_n hx hb d_Md_does_98 rfl (lv_at hl 0 rfl) ?_
    obtain ⟨q26, e26, h⟩ := fr_bind h
    refine fr_gP hx hb hts in_Md hown hK hH e26 rfl 20 (by decide) (hts _ k_560) (fun _ h9 => h9) rfl d_Md_does_99 ?_
    refine lv_iload_n hx hb d_Md_does_102 rfl (lv_at hl 1 rfl) ?_
    refine lv_iload_n hx hb d_Md_does_103 rfl (lv_at hl 3 rfl) ?_
    refine lv_if_eq (tgt := 111) hx hb d_Md_does_104 (by decide) (fun c27 => ?_) (fun c27 => ?_)
    · replace h := fr_ift c27 h
      refine lv_iconst (v := 0) hx hb d_Md_does_111 (by decide) ?_
      obtain ⟨σ_28, e28, h⟩ := fr_bind h
      refine fr_zst hx hb hK hH hS e28 d_Md_does_112 (fun H locs hH hS => ?_)
      refine lv_iconst (v := 1) hx hb d_Md_does_113 (by decide) ?_
      exact fr_zret hx hb hr hlocks (Or.inr rfl) h hH hK hX hS d_Md_does_114
    · replace h := fr_iff c27 h
      refine lv_iconst (v := 1) hx hb d_Md_does_107 (by decide) ?_
      refine lv_goto (tgt := 112) hx hb d_Md_does_108 (by decide) ?_
      obtain ⟨σ_29, e29, h⟩ := fr_bind h
      refine fr_zst hx hb hK hH hS e29 d_Md_does_112 (fun H locs hH hS => ?_)
      refine lv_iconst (v := 1) hx hb d_Md_does_113 (by decide) ?_
      exact fr_zret hx hb hr hlocks (Or.inr rfl) h hH hK hX hS d_Md_does_114
set_option maxHeartbeats 4000000 in
set_option maxRecDepth 100000 in
theorem w_Md_does_B73 {p : Program} {l : Launch} {e : Env} {s : State} {m : MethodId} {args : Array Value} {below : List Frame} {meth : Method} {c : Code} {D : va_G} {T : Nat → ClassId} {A : Nat → Prop} (C0 : fr_At p s m args meth c "FetchRulesModel" b_Md_does 4 (some .boolean)) (hK : va_K D vwCl (fr_tys T) s) (hX : fr_X s) (b0 : Nat) (y1 : Int32) (y2 : Int32) (y3 : Int32) (σ : fr_S) (r : Int32) (σ1 : fr_S) (h : m_Md_does_B73 b0 y1 y2 y3 σ = some (r, σ1)) (H : Heap) (locs : List Loc) (hH : fr_H D T A σ H) (hS : va_S A s.heap H locs) (ls : Array Slot) (hl : lv_has ls 4 [(0, .ref b0), (1, .int y1), (2, .int y2), (3, .int y3)]) : W p l e (headSpec (Cond.code y_Md_does b_Md_does 4 (some .boolean) :: fr_W) ({ frames := 1, cells := 0, slots := 0, locals := 21 } : Room)).room s m args below meth c H locs 0 0 (MQ below (fr_Qi D T A r σ1) args s 0 0 A) (F0 m 73 ls []) := by
  obtain ⟨hx, hb, hr, hml, hown, hts, hlocks⟩ := id C0
  unfold m_Md_does_B73 at h
  refine lv_iload_n hx hb d_Md_does_73 rfl (lv_at hl 2 rfl) ?_
  refine lv_iconst (v := 2) hx hb d_Md_does_74 (by decide) ?_
  refine lv_icmp_ne (tgt := 93) hx hb d_Md_does_75 (by decide) (fun c20 => ?_) (fun c20 => ?_)
  · replace h := fr_iff c20 h
    exact w_Md_does_B93 C0 hK hX b0 y1 y2 y3 σ r σ1 h _ _ hH hS ls (lv_sub hl [0, 1, 2, 3] rfl)
  · replace h := fr_ift c20 h
    refine lv_aload_n hx hb d_Md_does_78 rfl (lv_at hl 0 rfl) ?_
    obtain ⟨q21, e21, h⟩ := fr_bind h
    refine fr_gP hx hb hts in_Md hown hK hH e21 rfl 19 (by decide) (hts _ k_559) (fun _ h9 => h9) rfl d_Md_does_79 ?_
    refine lv_iload_n hx hb d_Md_does_82 rfl (lv_at hl 1 rfl) ?_
    refine lv_iload_n hx hb d_Md_does_83 rfl (lv_at hl 3 rfl) ?_
    refine lv_if_eq (tgt := 91) hx hb d_Md_does_84 (by decide) (fun c22 => ?_) (fun c22 => ?_)
    · replace h := fr_ift c22 h
      refine lv_iconst (v := 0) hx hb d_Md_does_91 (by decide) ?_
      obtain ⟨σ_23, e23, h⟩ := fr_bind h
      refine fr_zst hx hb hK hH hS e23 d_Md_does_92 (fun H locs hH hS => ?_)
      exact w_Md_does_B93 C0 hK hX b0 y1 y2 y3 σ_23 r σ1 h _ _ hH hS ls (lv_sub hl [0, 1, 2, 3] rfl)
    · replace h := fr_iff c22 h
      refine lv_iconst (v := 1) hx hb d_Md_does_87 (by decide) ?_
      refine lv_goto (tgt := 92) hx hb d_Md_does_88 (by decide) ?_
      obtain ⟨σ_24, e24, h⟩ := fr_bind h
      refine fr_zst hx hb hK hH hS e24 d_Md_does_92 (fun H locs hH hS => ?_)
      exact w_Md_does_B93 C0 hK hX b0 y1 y2 y3 σ_24 r σ1 h _ _ hH hS ls (lv_sub hl [0, 1, 2, 3] rfl)
set_option maxHeartbeats 4000000 in
set_option maxRecDepth 100000 in
theorem w_Md_does_B61 {p : Program} {l : Launch} {e : Env} {s : State} {m : MethodId} {args : Array Value} {below : List Frame} {meth : Method} {c : Code} {D : va_G} {T : Nat → ClassId} {A : Nat → Prop} (C0 : fr_At p s m args meth c "FetchRulesModel" b_Md_does 4 (some .boolean)) (hK : va_K D vwCl (fr_tys T) s) (hX : fr_X s) (b0 : Nat) (y1 : Int32) (y2 : Int32) (y3 : Int32) (σ : fr_S) (r : Int32) (σ1 : fr_S) (h : m_Md_does_B61 b0 y1 y2 y3 σ = some (r, σ1)) (H : Heap) (locs : List Loc) (hH : fr_H D T A σ H) (hS : va_S A s.heap H locs) (ls : Array Slot) (hl : lv_has ls 4 [(0, .ref b0), (1, .int y1), (2, .int y2), (3, .int y3)]) : W p l e (headSpec (Cond.code y_Md_does b_Md_does 4 (some .boolean) :: fr_W) ({ frames := 1, cells := 0, slots := 0, locals := 21 } : Room)).room s m args below meth c H locs 0 0 (MQ below (fr_Qi D T A r σ1) args s 0 0 A) (F0 m 61 ls []) := by
  obtain ⟨hx, hb, hr, hml, hown, hts, hlocks⟩ := id C0
  unfold m_Md_does_B61 at h
  refine lv_iload_n hx hb d_Md_does_61 rfl (lv_at hl 2 rfl) ?_
  refine lv_iconst (v := 1) hx hb d_Md_does_62 (by decide) ?_
  refine lv_icmp_ne (tgt := 73) hx hb d_Md_does_63 (by decide) (fun c17 => ?_) (fun c17 => ?_)
  · replace h := fr_iff c17 h
    exact w_Md_does_B73 C0 hK hX b0 y1 y2 y3 σ r σ1 h _ _ hH hS ls (lv_sub hl [0, 1, 2, 3] rfl)
  · replace h := fr_ift c17 h
    refine lv_aload_n hx hb d_Md_does_66 rfl (lv_at hl 0 rfl) ?_
    obtain ⟨q18, e18, h⟩ := fr_bind h
    refine fr_gP hx hb hts in_Md hown hK hH e18 rfl 14 (by decide) (hts _ k_554) (fun _ h9 => h9) rfl d_Md_does_67 ?_
    refine lv_iload_n hx hb d_Md_does_70 rfl (lv_at hl 1 rfl) ?_
    refine lv_iload_n hx hb d_Md_does_71 rfl (lv_at hl 3 rfl) ?_
    obtain ⟨σ_19, e19, h⟩ := fr_bind h
    refine fr_ist hx hb hK hH hS e19 d_Md_does_72 (fun H locs hH hS => ?_)
    exact w_Md_does_B73 C0 hK hX b0 y1 y2 y3 σ_19 r σ1 h _ _ hH hS ls (lv_sub hl [0, 1, 2, 3] rfl)
set_option maxHeartbeats 4000000 in
set_option maxRecDepth 100000 in
theorem w_Md_does_B42 {p : Program} {l : Launch} {e : Env} {s : State} {m : MethodId} {args : Array Value} {below : List Frame} {meth : Method} {c : Code} {D : va_G} {T : Nat → ClassId} {A : Nat → Prop} (C0 : fr_At p s m args meth c "FetchRulesModel" b_Md_does 4 (some .boolean)) (hK : va_K D vwCl (fr_tys T) s) (hX : fr_X s) (b0 : Nat) (y1 : Int32) (y2 : Int32) (y3 : Int32) (σ : fr_S) (r : Int32) (σ1 : fr_S) (h : m_Md_does_B42 b0 y1 y2 y3 σ = some (r, σ1)) (H : Heap) (locs : List Loc) (hH : fr_H D T A σ H) (hS : va_S A s.heap H locs) (ls : Array Slot) (hl : lv_has ls 4 [(0, .ref b0), (1, .int y1), (2, .int y2), (3, .int y3)]) : W p l e (headSpec (Cond.code y_Md_does b_Md_does 4 (some .boolean) :: fr_W) ({ frames := 1, cells := 0, slots := 0, locals := 21 } : Room)).room s m args below meth c H locs 0 0 (MQ below (fr_Qi D T A r σ1) args s 0 0 A) (F0 m 42 ls []) := by
  obtain ⟨hx, hb, hr, hml, hown, hts, hlocks⟩ := id C0
  unfold m_Md_does_B42 at h
  refine lv_iload_n hx hb d_Md_does_42 rfl (lv_at hl 2 rfl) ?_
  refine lv_if_ne (tgt := 61) hx hb d_Md_does_43 (by decide) (fun c12 => ?_) (fun c12 => ?_)
  · replace h := fr_iff c12 h
    exact w_Md_does_B61 C0 hK hX b0 y1 y2 y3 σ r σ1 h _ _ hH hS ls (lv_sub hl [0, 1, 2, 3] rfl)
  · replace h := fr_ift c12 h
    refine lv_aload_n hx hb d_Md_does_46 rfl (lv_at hl 0 rfl) ?_
    obtain ⟨q13, e13, h⟩ := fr_bind h
    refine fr_gP hx hb hts in_Md hown hK hH e13 rfl 18 (by decide) (hts _ k_558) (fun _ h9 => h9) rfl d_Md_does_47 ?_
    refine lv_iload_n hx hb d_Md_does_50 rfl (lv_at hl 1 rfl) ?_
    refine lv_iload_n hx hb d_Md_does_51 rfl (lv_at hl 3 rfl) ?_
    refine lv_if_eq (tgt := 59) hx hb d_Md_does_52 (by decide) (fun c14 => ?_) (fun c14 => ?_)
    · replace h := fr_ift c14 h
      refine lv_iconst (v := 0) hx hb d_Md_does_59 (by decide) ?_
      obtain ⟨σ_15, e15, h⟩ := fr_bind h
      refine fr_zst hx hb hK hH hS e15 d_Md_does_60 (fun H locs hH hS => ?_)
      exact w_Md_does_B61 C0 hK hX b0 y1 y2 y3 σ_15 r σ1 h _ _ hH hS ls (lv_sub hl [0, 1, 2, 3] rfl)
    · replace h := fr_iff c14 h
      refine lv_iconst (v := 1) hx hb d_Md_does_55 (by decide) ?_
      refine lv_goto (tgt := 60) hx hb d_Md_does_56 (by decide) ?_
      obtain ⟨σ_16, e16, h⟩ := fr_bind h
      refine fr_zst hx hb hK hH hS e16 d_Md_does_60 (fun H locs hH hS => ?_)
      exact w_Md_does_B61 C0 hK hX b0 y1 y2 y3 σ_16 r σ1 h _ _ hH hS ls (lv_sub hl [0, 1, 2, 3] rfl)
set_option maxHeartbeats 4000000 in
set_option maxRecDepth 100000 in
theorem c_Md_does (l : Launch) (D : va_G) (T : Nat → ClassId) (A : Nat → Prop) (σ : fr_S) (h0 : Nat) (x1 : Int32) (x2 : Int32) (x3 : Int32) (r : Int32) (σ1 : fr_S) (h : m_Md_does h0 x1 x2 x3 σ = some (r, σ1)) : Met l y_Md_does (Cond.code y_Md_does b_Md_does 4 (some .boolean) :: fr_W) ({ frames := 1, cells := 0, slots := 0, locals := 21 } : Room) (va_Pc [.ref h0, .int x1, .int x2, .int x3] (fr_B D T A σ)) (fr_Qi D T A r σ1) 0 0 A := by
  refine Met.ofW (cc := b_Md_does) (maxL := 4) (ret := (some .boolean)) (by decide) rfl ?_
  intro p e s m args below meth c s₁ B hml hv
  obtain ⟨rfl, hH, hK, hX⟩ := hv
  have C0 : fr_At p s m _ meth c "FetchRulesModel" b_Md_does 4 (some .boolean) := fr_at B hml
  obtain ⟨hx, hb, hr, hml, hown, hts, hlocks⟩ := id C0
  have hS : va_S A s.heap s.heap [] := va_S.rf
  have hl := lv_entry ([.ref h0, .int x1, .int x2, .int x3]) (n := 4) (Nat.le_of_ble_eq_true rfl)
  rw [lg_entry_eq]
  generalize (lg_sl ([.ref h0, .int x1, .int x2, .int x3]) ++ List.replicate (4 - (lg_sl ([.ref h0, .int x1, .int x2, .int x3])).length) Slot.unset).toArray = ls at hl ⊢
  have hl : lv_has ls 4 [(0, .ref h0), (1, .int x1), (2, .int x2), (3, .int x3)] := hl
  unfold m_Md_does at h
  refine lv_aload_n hx hb d_Md_does_0 rfl (lv_at hl 0 rfl) ?_
  refine lv_iconst (v := 0) hx hb d_Md_does_1 (by decide) ?_
  obtain ⟨σ_1, e1, h⟩ := fr_bind h
  refine fr_putI hx hb hts in_Md ty_Md tk_Md nm_Md hown hK hH hS e1 rfl 1 (by decide) (hts _ k_541) (fun _ h9 => h9) rfl (by decide +kernel) (fs_0_1 _ _ _) (Nat.le_of_ble_eq_true rfl) d_Md_does_2 (fun H locs hH hS => ?_)
  refine lv_aload_n hx hb d_Md_does_5 rfl (lv_at hl 0 rfl) ?_
  refine lv_iload_n hx hb d_Md_does_6 rfl (lv_at hl 1 rfl) ?_
  obtain ⟨u2, e2, h⟩ := fr_bind h
  obtain ⟨r3, e3, h⟩ := fr_bind h
  refine fr_calli (fr_V (As := [.int x1]) (rest := []) ⟨hx, hb, hml, hown, hts⟩ (c_Md_isPlace l D T A σ_1 h0 x1 r3 e3) k_685 mv_Md_isPlace rfl rfl ⟨Nat.le_of_ble_eq_true rfl, Nat.le_of_ble_eq_true rfl⟩ (fr_preV hK hX hH e2 rfl _) rfl hl.1 rfl (Nat.le_of_ble_eq_true rfl) d_Md_does_7 ⟨Nat.zero_le _, Nat.zero_le _⟩) hS (fun H locs hH hS => ?_)
  refine lv_if_eq (tgt := 40) hx hb d_Md_does_10 (by decide) (fun c4 => ?_) (fun c4 => ?_)
  · replace h := fr_ift c4 h
    refine lv_iconst (v := 0) hx hb d_Md_does_40 (by decide) ?_
    exact fr_zret hx hb hr hlocks (Or.inl rfl) h hH hK hX hS d_Md_does_41
  · replace h := fr_iff c4 h
    refine lv_iload_n hx hb d_Md_does_13 rfl (lv_at hl 2 rfl) ?_
    refine lv_if_lt (tgt := 40) hx hb d_Md_does_14 (by decide) (fun c5 => ?_) (fun c5 => ?_)
    · replace h := fr_ift c5 h
      refine lv_iconst (v := 0) hx hb d_Md_does_40 (by decide) ?_
      exact fr_zret hx hb hr hlocks (Or.inl rfl) h hH hK hX hS d_Md_does_41
    · replace h := fr_iff c5 h
      refine lv_iload_n hx hb d_Md_does_17 rfl (lv_at hl 2 rfl) ?_
      refine lv_iconst (v := 3) hx hb d_Md_does_18 (by decide) ?_
      refine lv_icmp_gt (tgt := 40) hx hb d_Md_does_19 (by decide) (fun c6 => ?_) (fun c6 => ?_)
      · replace h := fr_ift c6 h
        refine lv_iconst (v := 0) hx hb d_Md_does_40 (by decide) ?_
        exact fr_zret hx hb hr hlocks (Or.inl rfl) h hH hK hX hS d_Md_does_41
      · replace h := fr_iff c6 h
        refine lv_iload_n hx hb d_Md_does_22 rfl (lv_at hl 2 rfl) ?_
        refine lv_iconst (v := 1) hx hb d_Md_does_23 (by decide) ?_
        refine lv_icmp_ne (tgt := 42) hx hb d_Md_does_24 (by decide) (fun c7 => ?_) (fun c7 => ?_)
        · replace h := fr_iff c7 h
          exact w_Md_does_B42 C0 hK hX h0 x1 x2 x3 σ_1 r σ1 h _ _ hH hS ls (lv_sub hl [0, 1, 2, 3] rfl)
        · replace h := fr_ift c7 h
          refine lv_iload_n hx hb d_Md_does_27 rfl (lv_at hl 3 rfl) ?_
          refine lv_iconst (v := (-1)) hx hb d_Md_does_28 (by decide) ?_
          refine lv_icmp_eq (tgt := 42) hx hb d_Md_does_29 (by decide) (fun c8 => ?_) (fun c8 => ?_)
          · replace h := fr_ift c8 h
            exact w_Md_does_B42 C0 hK hX h0 x1 x2 x3 σ_1 r σ1 h _ _ hH hS ls (lv_sub hl [0, 1, 2, 3] rfl)
          · replace h := fr_iff c8 h
            refine lv_aload_n hx hb d_Md_does_32 rfl (lv_at hl 0 rfl) ?_
            refine lv_iload_n hx hb d_Md_does_33 rfl (lv_at hl 3 rfl) ?_
            obtain ⟨u9, e9, h⟩ := fr_bind h
            obtain ⟨r10, e10, h⟩ := fr_bind h
            refine fr_calli (fr_V (As := [.int x3]) (rest := []) ⟨hx, hb, hml, hown, hts⟩ (c_Md_isPlace l D T A σ_1 h0 x3 r10 e10) k_685 mv_Md_isPlace rfl rfl ⟨Nat.le_of_ble_eq_true rfl, Nat.le_of_ble_eq_true rfl⟩ (fr_preV hK hX hH e9 rfl _) rfl hl.1 rfl (Nat.le_of_ble_eq_true rfl) d_Md_does_34 ⟨Nat.zero_le _, Nat.zero_le _⟩) hS (fun H locs hH hS => ?_)
            refine lv_if_ne (tgt := 42) hx hb d_Md_does_37 (by decide) (fun c11 => ?_) (fun c11 => ?_)
            · replace h := fr_iff c11 h
              exact w_Md_does_B42 C0 hK hX h0 x1 x2 x3 σ_1 r σ1 h _ _ hH hS ls (lv_sub hl [0, 1, 2, 3] rfl)
            · replace h := fr_ift c11 h
              refine lv_iconst (v := 0) hx hb d_Md_does_40 (by decide) ?_
              exact fr_zret hx hb hr hlocks (Or.inl rfl) h hH hK hX hS d_Md_does_41
set_option maxHeartbeats 4000000 in
set_option maxRecDepth 100000 in
theorem c_Md_cut (l : Launch) (D : va_G) (T : Nat → ClassId) (A : Nat → Prop) (σ : fr_S) (h0 : Nat) (x1 : Int32) (x2 : Int32) (x3 : Int32) (r : Int32) (σ1 : fr_S) (h : m_Md_cut h0 x1 x2 x3 σ = some (r, σ1)) : Met l y_Md_cut (Cond.code y_Md_cut b_Md_cut 4 (some .boolean) :: fr_W) ({ frames := 1, cells := 0, slots := 0, locals := 21 } : Room) (va_Pc [.ref h0, .int x1, .int x2, .int x3] (fr_B D T A σ)) (fr_Qi D T A r σ1) 0 0 A := by
  refine Met.ofW (cc := b_Md_cut) (maxL := 4) (ret := (some .boolean)) (by decide) rfl ?_
  intro p e s m args below meth c s₁ B hml hv
  obtain ⟨rfl, hH, hK, hX⟩ := hv
  have C0 : fr_At p s m _ meth c "FetchRulesModel" b_Md_cut 4 (some .boolean) := fr_at B hml
  obtain ⟨hx, hb, hr, hml, hown, hts, hlocks⟩ := id C0
  have hS : va_S A s.heap s.heap [] := va_S.rf
  have hl := lv_entry ([.ref h0, .int x1, .int x2, .int x3]) (n := 4) (Nat.le_of_ble_eq_true rfl)
  rw [lg_entry_eq]
  generalize (lg_sl ([.ref h0, .int x1, .int x2, .int x3]) ++ List.replicate (4 - (lg_sl ([.ref h0, .int x1, .int x2, .int x3])).length) Slot.unset).toArray = ls at hl ⊢
  have hl : lv_has ls 4 [(0, .ref h0), (1, .int x1), (2, .int x2), (3, .int x3)] := hl
  unfold m_Md_cut at h
  refine lv_aload_n hx hb d_Md_cut_0 rfl (lv_at hl 0 rfl) ?_
  refine lv_iconst (v := 0) hx hb d_Md_cut_1 (by decide) ?_
  obtain ⟨σ_1, e1, h⟩ := fr_bind h
  refine fr_putI hx hb hts in_Md ty_Md tk_Md nm_Md hown hK hH hS e1 rfl 1 (by decide) (hts _ k_541) (fun _ h9 => h9) rfl (by decide +kernel) (fs_0_1 _ _ _) (Nat.le_of_ble_eq_true rfl) d_Md_cut_2 (fun H locs hH hS => ?_)
  refine lv_aload_n hx hb d_Md_cut_5 rfl (lv_at hl 0 rfl) ?_
  refine lv_iload_n hx hb d_Md_cut_6 rfl (lv_at hl 1 rfl) ?_
  obtain ⟨u2, e2, h⟩ := fr_bind h
  obtain ⟨r3, e3, h⟩ := fr_bind h
  refine fr_calli (fr_V (As := [.int x1]) (rest := []) ⟨hx, hb, hml, hown, hts⟩ (c_Md_isPlace l D T A σ_1 h0 x1 r3 e3) k_685 mv_Md_isPlace rfl rfl ⟨Nat.le_of_ble_eq_true rfl, Nat.le_of_ble_eq_true rfl⟩ (fr_preV hK hX hH e2 rfl _) rfl hl.1 rfl (Nat.le_of_ble_eq_true rfl) d_Md_cut_7 ⟨Nat.zero_le _, Nat.zero_le _⟩) hS (fun H locs hH hS => ?_)
  refine lv_if_eq (tgt := 33) hx hb d_Md_cut_10 (by decide) (fun c4 => ?_) (fun c4 => ?_)
  · replace h := fr_ift c4 h
    refine lv_iconst (v := 0) hx hb d_Md_cut_33 (by decide) ?_
    exact fr_zret hx hb hr hlocks (Or.inl rfl) h hH hK hX hS d_Md_cut_34
  · replace h := fr_iff c4 h
    refine lv_iload_n hx hb d_Md_cut_13 rfl (lv_at hl 2 rfl) ?_
    refine lv_if_lt (tgt := 33) hx hb d_Md_cut_14 (by decide) (fun c5 => ?_) (fun c5 => ?_)
    · replace h := fr_ift c5 h
      refine lv_iconst (v := 0) hx hb d_Md_cut_33 (by decide) ?_
      exact fr_zret hx hb hr hlocks (Or.inl rfl) h hH hK hX hS d_Md_cut_34
    · replace h := fr_iff c5 h
      refine lv_iload_n hx hb d_Md_cut_17 rfl (lv_at hl 2 rfl) ?_
      refine lv_bipush (v := 9) hx hb d_Md_cut_18 (by decide) ?_
      refine lv_icmp_gt (tgt := 33) hx hb d_Md_cut_20 (by decide) (fun c6 => ?_) (fun c6 => ?_)
      · replace h := fr_ift c6 h
        refine lv_iconst (v := 0) hx hb d_Md_cut_33 (by decide) ?_
        exact fr_zret hx hb hr hlocks (Or.inl rfl) h hH hK hX hS d_Md_cut_34
      · replace h := fr_iff c6 h
        refine lv_iload_n hx hb d_Md_cut_23 rfl (lv_at hl 3 rfl) ?_
        refine lv_if_lt (tgt := 33) hx hb d_Md_cut_24 (by decide) (fun c7 => ?_) (fun c7 => ?_)
        · replace h := fr_ift c7 h
          refine lv_iconst (v := 0) hx hb d_Md_cut_33 (by decide) ?_
          exact fr_zret hx hb hr hlocks (Or.inl rfl) h hH hK hX hS d_Md_cut_34
        · replace h := fr_iff c7 h
          refine lv_iload_n hx hb d_Md_cut_27 rfl (lv_at hl 3 rfl) ?_
          refine lv_bipush (v := 100) hx hb d_Md_cut_28 (by decide) ?_
          refine lv_icmp_le (tgt := 35) hx hb d_Md_cut_30 (by decide) (fun c8 => ?_) (fun c8 => ?_)
          · replace h := fr_ift c8 h
            refine lv_aload_n hx hb d_Md_cut_35 rfl (lv_at hl 0 rfl) ?_
            obtain ⟨q9, e9, h⟩ := fr_bind h
            refine fr_gP hx hb hts in_Md hown hK hH e9 rfl 15 (by decide) (hts _ k_555) (fun _ h9 => h9) rfl d_Md_cut_36 ?_
            refine lv_iload_n hx hb d_Md_cut_39 rfl (lv_at hl 1 rfl) ?_
            refine lv_iload_n hx hb d_Md_cut_40 rfl (lv_at hl 2 rfl) ?_
            obtain ⟨σ_10, e10, h⟩ := fr_bind h
            refine fr_ist hx hb hK hH hS e10 d_Md_cut_41 (fun H locs hH hS => ?_)
            refine lv_aload_n hx hb d_Md_cut_42 rfl (lv_at hl 0 rfl) ?_
            obtain ⟨q11, e11, h⟩ := fr_bind h
            refine fr_gP hx hb hts in_Md hown hK hH e11 rfl 16 (by decide) (hts _ k_556) (fun _ h9 => h9) rfl d_Md_cut_43 ?_
            refine lv_iload_n hx hb d_Md_cut_46 rfl (lv_at hl 1 rfl) ?_
            refine lv_iload_n hx hb d_Md_cut_47 rfl (lv_at hl 3 rfl) ?_
            obtain ⟨σ_12, e12, h⟩ := fr_bind h
            refine fr_ist hx hb hK hH hS e12 d_Md_cut_48 (fun H locs hH hS => ?_)
            refine lv_iconst (v := 1) hx hb d_Md_cut_49 (by decide) ?_
            exact fr_zret hx hb hr hlocks (Or.inr rfl) h hH hK hX hS d_Md_cut_50
          · replace h := fr_iff c8 h
            refine lv_iconst (v := 0) hx hb d_Md_cut_33 (by decide) ?_
            exact fr_zret hx hb hr hlocks (Or.inl rfl) h hH hK hX hS d_Md_cut_34
set_option maxHeartbeats 4000000 in
set_option maxRecDepth 100000 in
theorem c_Md_next (l : Launch) (D : va_G) (T : Nat → ClassId) (A : Nat → Prop) (σ : fr_S) (x0 : Int32) (x1 : Int32) (r : Int32) (h : m_Md_next x0 x1 σ = some r) : Met l y_Md_next (Cond.code y_Md_next b_Md_next 3 (some .int) :: fr_W) ({ frames := 0, cells := 0, slots := 0, locals := 0 } : Room) (va_Pc [.int x0, .int x1] (fr_B D T A σ)) (fr_Qi D T A r σ) 0 0 A := by
  refine Met.ofW (cc := b_Md_next) (maxL := 3) (ret := (some .int)) (by decide) rfl ?_
  intro p e s m args below meth c s₁ B hml hv
  obtain ⟨rfl, hH, hK, hX⟩ := hv
  have C0 : fr_At p s m _ meth c "FetchRulesModel" b_Md_next 3 (some .int) := fr_at B hml
  obtain ⟨hx, hb, hr, hml, hown, hts, hlocks⟩ := id C0
  have hS : va_S A s.heap s.heap [] := va_S.rf
  have hl := lv_entry ([.int x0, .int x1]) (n := 3) (Nat.le_of_ble_eq_true rfl)
  rw [lg_entry_eq]
  generalize (lg_sl ([.int x0, .int x1]) ++ List.replicate (3 - (lg_sl ([.int x0, .int x1])).length) Slot.unset).toArray = ls at hl ⊢
  have hl : lv_has ls 3 [(0, .int x0), (1, .int x1)] := hl
  unfold m_Md_next at h
  refine lv_iload_n hx hb d_Md_next_0 rfl (lv_at hl 0 rfl) ?_
  refine lv_iload_n hx hb d_Md_next_1 rfl (lv_at hl 1 rfl) ?_
  refine lv_ixor hx hb d_Md_next_2 ?_
  refine lv_istore_n (lv' := [(2, .int (x0 ^^^ x1)), (0, .int x0), (1, .int x1)]) hx hb d_Md_next_3 rfl hl (by decide) rfl (fun ls hl => ?_)
  refine lv_iload_n hx hb d_Md_next_4 rfl (lv_at hl 0 rfl) ?_
  refine lv_iconst (v := 5) hx hb d_Md_next_5 (by decide) ?_
  refine lv_ishl hx hb d_Md_next_6 ?_
  refine lv_iload_n hx hb d_Md_next_7 rfl (lv_at hl 0 rfl) ?_
  refine lv_bipush (v := 27) hx hb d_Md_next_8 (by decide) ?_
  refine lv_iushr (v := (fr_ushr (x0 ^^^ x1) 27)) hx hb d_Md_next_10 rfl ?_
  refine lv_ior hx hb d_Md_next_11 ?_
  refine lv_ldc (v := (-2048144777)) hx hb hown (hts _ k_705) d_Md_next_12 ?_
  refine lv_imul hx hb d_Md_next_14 ?_
  exact fr_iretO hx hb hr hlocks  h hH hK hX hS d_Md_next_15
set_option maxHeartbeats 4000000 in
set_option maxRecDepth 100000 in
theorem w_Md_digest_L9 {p : Program} {l : Launch} {e : Env} {s : State} {m : MethodId} {args : Array Value} {below : List Frame} {meth : Method} {c : Code} {D : va_G} {T : Nat → ClassId} {A : Nat → Prop} (C0 : fr_At p s m args meth c "FetchRulesModel" b_Md_digest 4 (some .int)) (hK : va_K D vwCl (fr_tys T) s) (hX : fr_X s) :
    ∀ (n : Nat) (b0 : Nat) (y1 : Int32) (y2 : Int32) (y3 : Int32) (σ : fr_S) (r : Int32) (σ1 : fr_S), m_Md_digest_L9 n b0 y1 y2 y3 σ = some (r, σ1) → ∀ (H : Heap) (locs : List Loc), fr_H D T A σ H → va_S A s.heap H locs → ∀ (ls : Array Slot), lv_has ls 4 [(0, .ref b0), (1, .int y1), (2, .int y2), (3, .int y3)] → W p l e (headSpec (Cond.code y_Md_digest b_Md_digest 4 (some .int) :: fr_W) ({ frames := 1, cells := 0, slots := 0, locals := 22 } : Room)).room s m args below meth c H locs 0 0 (MQ below (fr_Qi D T A r σ1) args s 0 0 A) (F0 m 9 ls []) := by
  obtain ⟨hx, hb, hr, hml, hown, hts, hlocks⟩ := id C0
  intro n
  induction n with
  | zero => intro b0 y1 y2 y3 σ r σ1 h; cases h
  | succ n ih =>
    intro b0 y1 y2 y3 σ r σ1 h H locs hH hS ls hl
    unfold m_Md_digest_L9 at h
    refine lv_aload_n hx hb d_Md_digest_9 rfl (lv_at hl 0 rfl) ?_
    refine lv_iload_n hx hb d_Md_digest_10 rfl (lv_at hl 1 rfl) ?_
    obtain ⟨u2, e2, h⟩ := fr_bind h
    obtain ⟨r3, e3, h⟩ := fr_bind h
    refine fr_calli (fr_V (As := [.int y1]) (rest := []) ⟨hx, hb, hml, hown, hts⟩ (c_Md_isPlace l D T A σ b0 y1 r3 e3) k_685 mv_Md_isPlace rfl rfl ⟨Nat.le_of_ble_eq_true rfl, Nat.le_of_ble_eq_true rfl⟩ (fr_preV hK hX hH e2 rfl _) rfl hl.1 rfl (Nat.le_of_ble_eq_true rfl) d_Md_digest_11 ⟨Nat.zero_le _, Nat.zero_le _⟩) hS (fun H locs hH hS => ?_)
    refine lv_if_eq (tgt := 49) hx hb d_Md_digest_14 (by decide) (fun c4 => ?_) (fun c4 => ?_)
    · replace h := fr_ift c4 h
      refine lv_iload_n hx hb d_Md_digest_49 rfl (lv_at hl 2 rfl) ?_
      exact fr_iret hx hb hr hlocks  h hH hK hX hS d_Md_digest_50
    · replace h := fr_iff c4 h
      refine lv_iload_n hx hb d_Md_digest_17 rfl (lv_at hl 3 rfl) ?_
      refine lv_aload_n hx hb d_Md_digest_18 rfl (lv_at hl 0 rfl) ?_
      obtain ⟨q5, e5, h⟩ := fr_bind h
      refine fr_gP hx hb hts in_Md hown hK hH e5 rfl 13 (by decide) (hts _ k_553) (fun _ h9 => h9) rfl d_Md_digest_19 ?_
      refine lv_iload_n hx hb d_Md_digest_22 rfl (lv_at hl 1 rfl) ?_
      obtain ⟨v6, e6, h⟩ := fr_bind h
      refine fr_ild hx hb hK hH e6 d_Md_digest_23 ?_
      refine lv_icmp_ge (tgt := 49) hx hb d_Md_digest_24 (by decide) (fun c7 => ?_) (fun c7 => ?_)
      · replace h := fr_ift c7 h
        refine lv_iload_n hx hb d_Md_digest_49 rfl (lv_at hl 2 rfl) ?_
        exact fr_iret hx hb hr hlocks  h hH hK hX hS d_Md_digest_50
      · replace h := fr_iff c7 h
        refine lv_iload_n hx hb d_Md_digest_27 rfl (lv_at hl 2 rfl) ?_
        refine lv_aload_n hx hb d_Md_digest_28 rfl (lv_at hl 0 rfl) ?_
        obtain ⟨q8, e8, h⟩ := fr_bind h
        refine fr_gP hx hb hts in_Md hown hK hH e8 rfl 17 (by decide) (hts _ k_557) (fun _ h9 => h9) rfl d_Md_digest_29 ?_
        refine lv_bipush (v := 100) hx hb d_Md_digest_32 (by decide) ?_
        refine lv_iload_n hx hb d_Md_digest_34 rfl (lv_at hl 1 rfl) ?_
        refine lv_imul hx hb d_Md_digest_35 ?_
        refine lv_iload_n hx hb d_Md_digest_36 rfl (lv_at hl 3 rfl) ?_
        refine lv_iadd hx hb d_Md_digest_37 ?_
        obtain ⟨v9, e9, h⟩ := fr_bind h
        refine fr_ild hx hb hK hH e9 d_Md_digest_38 ?_
        obtain ⟨r10, e10, h⟩ := fr_bind h
        refine fr_calli (fr_Sc (As := [.int y2, .int v9]) (rest := []) ⟨hx, hb, hml, hown, hts⟩ (c_Md_next l D T A σ y2 v9 r10 e10) k_702 ms_Md_next rfl rfl ⟨Nat.le_of_ble_eq_true rfl, Nat.le_of_ble_eq_true rfl⟩ (fr_preS hK hX hH _) rfl hl.1 rfl (Nat.le_of_ble_eq_true rfl) d_Md_digest_39 ⟨Nat.zero_le _, Nat.zero_le _⟩) hS (fun H locs hH hS => ?_)
        refine lv_istore_n (lv' := [(2, .int r10), (0, .ref b0), (1, .int y1), (3, .int y3)]) hx hb d_Md_digest_42 rfl hl (by decide) rfl (fun ls hl => ?_)
        refine lv_iinc (v := (y3 + 1)) (lv' := [(3, .int (y3 + 1)), (2, .int r10), (0, .ref b0), (1, .int y1)]) hx hb d_Md_digest_43 hl (k := 3) rfl rfl (by decide) rfl (fun ls hl => ?_)
        refine lv_goto (tgt := 9) hx hb d_Md_digest_46 (by decide) ?_
        exact ih b0 y1 r10 (y3 + 1) σ r σ1 h _ _ hH hS ls (lv_sub hl [2, 3, 1, 0] rfl)
set_option maxHeartbeats 4000000 in
set_option maxRecDepth 100000 in
theorem c_Md_digest (l : Launch) (D : va_G) (T : Nat → ClassId) (A : Nat → Prop) (σ : fr_S) (h0 : Nat) (x1 : Int32) (r : Int32) (σ1 : fr_S) (h : m_Md_digest h0 x1 σ = some (r, σ1)) : Met l y_Md_digest (Cond.code y_Md_digest b_Md_digest 4 (some .int) :: fr_W) ({ frames := 1, cells := 0, slots := 0, locals := 22 } : Room) (va_Pc [.ref h0, .int x1] (fr_B D T A σ)) (fr_Qi D T A r σ1) 0 0 A := by
  refine Met.ofW (cc := b_Md_digest) (maxL := 4) (ret := (some .int)) (by decide) rfl ?_
  intro p e s m args below meth c s₁ B hml hv
  obtain ⟨rfl, hH, hK, hX⟩ := hv
  have C0 : fr_At p s m _ meth c "FetchRulesModel" b_Md_digest 4 (some .int) := fr_at B hml
  obtain ⟨hx, hb, hr, hml, hown, hts, hlocks⟩ := id C0
  have hS : va_S A s.heap s.heap [] := va_S.rf
  have hl := lv_entry ([.ref h0, .int x1]) (n := 4) (Nat.le_of_ble_eq_true rfl)
  rw [lg_entry_eq]
  generalize (lg_sl ([.ref h0, .int x1]) ++ List.replicate (4 - (lg_sl ([.ref h0, .int x1])).length) Slot.unset).toArray = ls at hl ⊢
  have hl : lv_has ls 4 [(0, .ref h0), (1, .int x1)] := hl
  unfold m_Md_digest at h
  refine lv_aload_n hx hb d_Md_digest_0 rfl (lv_at hl 0 rfl) ?_
  refine lv_iconst (v := 0) hx hb d_Md_digest_1 (by decide) ?_
  obtain ⟨σ_1, e1, h⟩ := fr_bind h
  refine fr_putI hx hb hts in_Md ty_Md tk_Md nm_Md hown hK hH hS e1 rfl 1 (by decide) (hts _ k_541) (fun _ h9 => h9) rfl (by decide +kernel) (fs_0_1 _ _ _) (Nat.le_of_ble_eq_true rfl) d_Md_digest_2 (fun H locs hH hS => ?_)
  refine lv_iconst (v := 0) hx hb d_Md_digest_5 (by decide) ?_
  refine lv_istore_n (lv' := [(2, .int 0), (0, .ref h0), (1, .int x1)]) hx hb d_Md_digest_6 rfl hl (by decide) rfl (fun ls hl => ?_)
  refine lv_iconst (v := 0) hx hb d_Md_digest_7 (by decide) ?_
  refine lv_istore_n (lv' := [(3, .int 0), (2, .int 0), (0, .ref h0), (1, .int x1)]) hx hb d_Md_digest_8 rfl hl (by decide) rfl (fun ls hl => ?_)
  exact w_Md_digest_L9 C0 hK hX 1000 h0 x1 0 0 σ_1 r σ1 h _ _ hH hS ls (lv_sub hl [2, 3, 1, 0] rfl)
