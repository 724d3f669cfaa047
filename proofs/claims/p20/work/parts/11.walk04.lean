set_option maxHeartbeats 4000000 in
set_option maxRecDepth 100000 in
theorem c_Tellings_has (l : Launch) (D : va_G) (T : Nat → ClassId) (A : Nat → Prop) (σ : fr_S) (h0 : Nat) (x1 : Int32) (r : Int32) (h : m_Tellings_has h0 x1 σ = some r) : Met l y_Tellings_has (Cond.code y_Tellings_has b_Tellings_has 2 (some .boolean) :: fr_W) ({ frames := 0, cells := 0, slots := 0, locals := 0 } : Room) (va_Pc [.ref h0, .int x1] (fr_B D T A σ)) (fr_Qi D T A r σ) 0 0 A := by
  refine Met.ofW (cc := b_Tellings_has) (maxL := 2) (ret := (some .boolean)) (by decide) rfl ?_
  intro p e s m args below meth c s₁ B hml hv
  obtain ⟨rfl, hH, hK, hX⟩ := hv
  have C0 : fr_At p s m _ meth c "FetchRules$Tellings" b_Tellings_has 2 (some .boolean) := fr_at B hml
  obtain ⟨hx, hb, hr, hml, hown, hts, hlocks⟩ := id C0
  have hS : va_S A s.heap s.heap [] := va_S.rf
  have hl := lv_entry ([.ref h0, .int x1]) (n := 2) (Nat.le_of_ble_eq_true rfl)
  rw [lg_entry_eq]
  generalize (lg_sl ([.ref h0, .int x1]) ++ List.replicate (2 - (lg_sl ([.ref h0, .int x1])).length) Slot.unset).toArray = ls at hl ⊢
  have hl : lv_has ls 2 [(0, .ref h0), (1, .int x1)] := hl
  unfold m_Tellings_has at h
  refine lv_iload_n hx hb d_Tellings_has_0 rfl (lv_at hl 1 rfl) ?_
  refine lv_if_lt (tgt := 16) hx hb d_Tellings_has_1 (by decide) (fun c1 => ?_) (fun c1 => ?_)
  · replace h := fr_ift c1 h
    refine lv_iconst (v := 0) hx hb d_Tellings_has_16 (by decide) ?_
    exact fr_zretO hx hb hr hlocks (Or.inl rfl) h hH hK hX hS d_Tellings_has_17
  · replace h := fr_iff c1 h
    refine lv_iload_n hx hb d_Tellings_has_4 rfl (lv_at hl 1 rfl) ?_
    refine lv_aload_n hx hb d_Tellings_has_5 rfl (lv_at hl 0 rfl) ?_
    obtain ⟨v2, e2, h⟩ := fr_bind h
    refine fr_gI hx hb hts in_Tellings hown hK hH e2 rfl 3 (by decide) (hts _ k_104) (fun _ h9 => h9) rfl d_Tellings_has_6 ?_
    refine lv_icmp_ge (tgt := 16) hx hb d_Tellings_has_9 (by decide) (fun c3 => ?_) (fun c3 => ?_)
    · replace h := fr_ift c3 h
      refine lv_iconst (v := 0) hx hb d_Tellings_has_16 (by decide) ?_
      exact fr_zretO hx hb hr hlocks (Or.inl rfl) h hH hK hX hS d_Tellings_has_17
    · replace h := fr_iff c3 h
      refine lv_iconst (v := 1) hx hb d_Tellings_has_12 (by decide) ?_
      refine lv_goto (tgt := 17) hx hb d_Tellings_has_13 (by decide) ?_
      exact fr_zretO hx hb hr hlocks (Or.inr rfl) h hH hK hX hS d_Tellings_has_17
set_option maxHeartbeats 4000000 in
set_option maxRecDepth 100000 in
theorem c_FR_barred (l : Launch) (D : va_G) (T : Nat → ClassId) (A : Nat → Prop) (σ : fr_S) (h0 : Nat) (x1 : Int32) (x2 : Int32) (r : Int32) (h : m_FR_barred h0 x1 x2 σ = some r) : Met l y_FR_barred (Cond.code y_FR_barred b_FR_barred 3 (some .int) :: fr_W) ({ frames := 1, cells := 0, slots := 0, locals := 21 } : Room) (va_Pc [.ref h0, .int x1, .int x2] (fr_B D T A σ)) (fr_Qi D T A r σ) 0 0 A := by
  refine Met.ofW (cc := b_FR_barred) (maxL := 3) (ret := (some .int)) (by decide) rfl ?_
  intro p e s m args below meth c s₁ B hml hv
  obtain ⟨rfl, hH, hK, hX⟩ := hv
  have C0 : fr_At p s m _ meth c "FetchRules" b_FR_barred 3 (some .int) := fr_at B hml
  obtain ⟨hx, hb, hr, hml, hown, hts, hlocks⟩ := id C0
  have hS : va_S A s.heap s.heap [] := va_S.rf
  have hl := lv_entry ([.ref h0, .int x1, .int x2]) (n := 3) (Nat.le_of_ble_eq_true rfl)
  rw [lg_entry_eq]
  generalize (lg_sl ([.ref h0, .int x1, .int x2]) ++ List.replicate (3 - (lg_sl ([.ref h0, .int x1, .int x2])).length) Slot.unset).toArray = ls at hl ⊢
  have hl : lv_has ls 3 [(0, .ref h0), (1, .int x1), (2, .int x2)] := hl
  unfold m_FR_barred at h
  refine lv_aload_n hx hb d_FR_barred_0 rfl (lv_at hl 0 rfl) ?_
  obtain ⟨q1, e1, h⟩ := fr_bind h
  refine fr_gP hx hb hts in_FR hown hK hH e1 rfl 8 (by decide) (hts _ k_247) (fun _ h9 => h9) rfl d_FR_barred_1 ?_
  refine lv_iload_n hx hb d_FR_barred_4 rfl (lv_at hl 1 rfl) ?_
  obtain ⟨u2, e2, h⟩ := fr_bind h
  obtain ⟨r3, e3, h⟩ := fr_bind h
  refine fr_calli (fr_V (As := [.int x1]) (rest := []) ⟨hx, hb, hml, hown, hts⟩ (c_Tellings_has l D T A σ q1 x1 r3 e3) k_458 mv_Tellings_has rfl rfl ⟨Nat.le_of_ble_eq_true rfl, Nat.le_of_ble_eq_true rfl⟩ (fr_preV hK hX hH e2 rfl _) rfl hl.1 rfl (Nat.le_of_ble_eq_true rfl) d_FR_barred_5 ⟨Nat.zero_le _, Nat.zero_le _⟩) hS (fun H locs hH hS => ?_)
  refine lv_if_ne (tgt := 13) hx hb d_FR_barred_8 (by decide) (fun c4 => ?_) (fun c4 => ?_)
  · replace h := fr_iff c4 h
    refine lv_iload_n hx hb d_FR_barred_13 rfl (lv_at hl 2 rfl) ?_
    by_cases c5 : x2 = 0
    · replace h := fr_ift c5 h
      refine lv_lookup (off := 26) (tgt := 40) hx hb d_FR_barred_14 (by decide) (by rw [c5] <;> rfl) (by decide) ?_
      refine lv_aload_n hx hb d_FR_barred_40 rfl (lv_at hl 0 rfl) ?_
      obtain ⟨q6, e6, h⟩ := fr_bind h
      refine fr_gP hx hb hts in_FR hown hK hH e6 rfl 8 (by decide) (hts _ k_247) (fun _ h9 => h9) rfl d_FR_barred_41 ?_
      obtain ⟨q7, e7, h⟩ := fr_bind h
      refine fr_gP hx hb hts in_Tellings hown hK hH e7 rfl 0 (by decide) (hts _ k_99) (fun _ h9 => h9) rfl d_FR_barred_44 ?_
      refine lv_iload_n hx hb d_FR_barred_47 rfl (lv_at hl 1 rfl) ?_
      obtain ⟨v8, e8, h⟩ := fr_bind h
      refine fr_ild hx hb hK hH e8 d_FR_barred_48 ?_
      exact fr_iretO hx hb hr hlocks  h hH hK hX hS d_FR_barred_49
    · replace h := fr_iff c5 h
      by_cases c9 : x2 = 1
      · replace h := fr_ift c9 h
        refine lv_lookup (off := 36) (tgt := 50) hx hb d_FR_barred_14 (by decide) (by rw [c9] <;> rfl) (by decide) ?_
        refine lv_aload_n hx hb d_FR_barred_50 rfl (lv_at hl 0 rfl) ?_
        obtain ⟨q10, e10, h⟩ := fr_bind h
        refine fr_gP hx hb hts in_FR hown hK hH e10 rfl 8 (by decide) (hts _ k_247) (fun _ h9 => h9) rfl d_FR_barred_51 ?_
        obtain ⟨q11, e11, h⟩ := fr_bind h
        refine fr_gP hx hb hts in_Tellings hown hK hH e11 rfl 1 (by decide) (hts _ k_101) (fun _ h9 => h9) rfl d_FR_barred_54 ?_
        refine lv_iload_n hx hb d_FR_barred_57 rfl (lv_at hl 1 rfl) ?_
        obtain ⟨v12, e12, h⟩ := fr_bind h
        refine fr_ild hx hb hK hH e12 d_FR_barred_58 ?_
        exact fr_iretO hx hb hr hlocks  h hH hK hX hS d_FR_barred_59
      · replace h := fr_iff c9 h
        refine lv_lookup (off := 46) (tgt := 60) hx hb d_FR_barred_14 (by decide) (by rw [lv_osw c5 (by decide), lv_osw c9 (by decide)] <;> rfl) (by decide) ?_
        refine lv_iconst (v := (-1)) hx hb d_FR_barred_60 (by decide) ?_
        exact fr_iretO hx hb hr hlocks  h hH hK hX hS d_FR_barred_61
  · replace h := fr_ift c4 h
    refine lv_iconst (v := (-1)) hx hb d_FR_barred_11 (by decide) ?_
    exact fr_iretO hx hb hr hlocks  h hH hK hX hS d_FR_barred_12
set_option maxHeartbeats 4000000 in
set_option maxRecDepth 100000 in
theorem c_FR_came (l : Launch) (D : va_G) (T : Nat → ClassId) (A : Nat → Prop) (σ : fr_S) (h0 : Nat) (x1 : Int32) (r : Int32) (h : m_FR_came h0 x1 σ = some r) : Met l y_FR_came (Cond.code y_FR_came b_FR_came 2 (some .int) :: fr_W) ({ frames := 1, cells := 0, slots := 0, locals := 21 } : Room) (va_Pc [.ref h0, .int x1] (fr_B D T A σ)) (fr_Qi D T A r σ) 0 0 A := by
  refine Met.ofW (cc := b_FR_came) (maxL := 2) (ret := (some .int)) (by decide) rfl ?_
  intro p e s m args below meth c s₁ B hml hv
  obtain ⟨rfl, hH, hK, hX⟩ := hv
  have C0 : fr_At p s m _ meth c "FetchRules" b_FR_came 2 (some .int) := fr_at B hml
  obtain ⟨hx, hb, hr, hml, hown, hts, hlocks⟩ := id C0
  have hS : va_S A s.heap s.heap [] := va_S.rf
  have hl := lv_entry ([.ref h0, .int x1]) (n := 2) (Nat.le_of_ble_eq_true rfl)
  rw [lg_entry_eq]
  generalize (lg_sl ([.ref h0, .int x1]) ++ List.replicate (2 - (lg_sl ([.ref h0, .int x1])).length) Slot.unset).toArray = ls at hl ⊢
  have hl : lv_has ls 2 [(0, .ref h0), (1, .int x1)] := hl
  unfold m_FR_came at h
  refine lv_aload_n hx hb d_FR_came_0 rfl (lv_at hl 0 rfl) ?_
  obtain ⟨q1, e1, h⟩ := fr_bind h
  refine fr_gP hx hb hts in_FR hown hK hH e1 rfl 8 (by decide) (hts _ k_247) (fun _ h9 => h9) rfl d_FR_came_1 ?_
  refine lv_iload_n hx hb d_FR_came_4 rfl (lv_at hl 1 rfl) ?_
  obtain ⟨u2, e2, h⟩ := fr_bind h
  obtain ⟨r3, e3, h⟩ := fr_bind h
  refine fr_calli (fr_V (As := [.int x1]) (rest := []) ⟨hx, hb, hml, hown, hts⟩ (c_Tellings_has l D T A σ q1 x1 r3 e3) k_458 mv_Tellings_has rfl rfl ⟨Nat.le_of_ble_eq_true rfl, Nat.le_of_ble_eq_true rfl⟩ (fr_preV hK hX hH e2 rfl _) rfl hl.1 rfl (Nat.le_of_ble_eq_true rfl) d_FR_came_5 ⟨Nat.zero_le _, Nat.zero_le _⟩) hS (fun H locs hH hS => ?_)
  refine lv_if_eq (tgt := 23) hx hb d_FR_came_8 (by decide) (fun c4 => ?_) (fun c4 => ?_)
  · replace h := fr_ift c4 h
    refine lv_iconst (v := 0) hx hb d_FR_came_23 (by decide) ?_
    exact fr_iretO hx hb hr hlocks  h hH hK hX hS d_FR_came_24
  · replace h := fr_iff c4 h
    refine lv_aload_n hx hb d_FR_came_11 rfl (lv_at hl 0 rfl) ?_
    obtain ⟨q5, e5, h⟩ := fr_bind h
    refine fr_gP hx hb hts in_FR hown hK hH e5 rfl 8 (by decide) (hts _ k_247) (fun _ h9 => h9) rfl d_FR_came_12 ?_
    obtain ⟨q6, e6, h⟩ := fr_bind h
    refine fr_gP hx hb hts in_Tellings hown hK hH e6 rfl 2 (by decide) (hts _ k_103) (fun _ h9 => h9) rfl d_FR_came_15 ?_
    refine lv_iload_n hx hb d_FR_came_18 rfl (lv_at hl 1 rfl) ?_
    obtain ⟨v7, e7, h⟩ := fr_bind h
    refine fr_ild hx hb hK hH e7 d_FR_came_19 ?_
    refine lv_goto (tgt := 24) hx hb d_FR_came_20 (by decide) ?_
    exact fr_iretO hx hb hr hlocks  h hH hK hX hS d_FR_came_24
set_option maxHeartbeats 4000000 in
set_option maxRecDepth 100000 in
theorem c_FR_lacks (l : Launch) (D : va_G) (T : Nat → ClassId) (A : Nat → Prop) (σ : fr_S) (h0 : Nat) (x1 : Int32) (r : Int32) (h : m_FR_lacks h0 x1 σ = some r) : Met l y_FR_lacks (Cond.code y_FR_lacks b_FR_lacks 2 (some .int) :: fr_W) ({ frames := 0, cells := 0, slots := 0, locals := 0 } : Room) (va_Pc [.ref h0, .int x1] (fr_B D T A σ)) (fr_Qi D T A r σ) 0 0 A := by
  refine Met.ofW (cc := b_FR_lacks) (maxL := 2) (ret := (some .int)) (by decide) rfl ?_
  intro p e s m args below meth c s₁ B hml hv
  obtain ⟨rfl, hH, hK, hX⟩ := hv
  have C0 : fr_At p s m _ meth c "FetchRules" b_FR_lacks 2 (some .int) := fr_at B hml
  obtain ⟨hx, hb, hr, hml, hown, hts, hlocks⟩ := id C0
  have hS : va_S A s.heap s.heap [] := va_S.rf
  have hl := lv_entry ([.ref h0, .int x1]) (n := 2) (Nat.le_of_ble_eq_true rfl)
  rw [lg_entry_eq]
  generalize (lg_sl ([.ref h0, .int x1]) ++ List.replicate (2 - (lg_sl ([.ref h0, .int x1])).length) Slot.unset).toArray = ls at hl ⊢
  have hl : lv_has ls 2 [(0, .ref h0), (1, .int x1)] := hl
  unfold m_FR_lacks at h
  refine lv_iload_n hx hb d_FR_lacks_0 rfl (lv_at hl 1 rfl) ?_
  refine lv_if_lt (tgt := 21) hx hb d_FR_lacks_1 (by decide) (fun c1 => ?_) (fun c1 => ?_)
  · replace h := fr_ift c1 h
    refine lv_iconst (v := (-1)) hx hb d_FR_lacks_21 (by decide) ?_
    exact fr_iretO hx hb hr hlocks  h hH hK hX hS d_FR_lacks_22
  · replace h := fr_iff c1 h
    refine lv_iload_n hx hb d_FR_lacks_4 rfl (lv_at hl 1 rfl) ?_
    refine lv_aload_n hx hb d_FR_lacks_5 rfl (lv_at hl 0 rfl) ?_
    obtain ⟨v2, e2, h⟩ := fr_bind h
    refine fr_gI hx hb hts in_FR hown hK hH e2 rfl 10 (by decide) (hts _ k_249) (fun _ h9 => h9) rfl d_FR_lacks_6 ?_
    refine lv_icmp_ge (tgt := 21) hx hb d_FR_lacks_9 (by decide) (fun c3 => ?_) (fun c3 => ?_)
    · replace h := fr_ift c3 h
      refine lv_iconst (v := (-1)) hx hb d_FR_lacks_21 (by decide) ?_
      exact fr_iretO hx hb hr hlocks  h hH hK hX hS d_FR_lacks_22
    · replace h := fr_iff c3 h
      refine lv_aload_n hx hb d_FR_lacks_12 rfl (lv_at hl 0 rfl) ?_
      obtain ⟨q4, e4, h⟩ := fr_bind h
      refine fr_gP hx hb hts in_FR hown hK hH e4 rfl 9 (by decide) (hts _ k_248) (fun _ h9 => h9) rfl d_FR_lacks_13 ?_
      refine lv_iload_n hx hb d_FR_lacks_16 rfl (lv_at hl 1 rfl) ?_
      obtain ⟨v5, e5, h⟩ := fr_bind h
      refine fr_ild hx hb hK hH e5 d_FR_lacks_17 ?_
      refine lv_goto (tgt := 22) hx hb d_FR_lacks_18 (by decide) ?_
      exact fr_iretO hx hb hr hlocks  h hH hK hX hS d_FR_lacks_22
set_option maxHeartbeats 4000000 in
set_option maxRecDepth 100000 in
theorem c_FR_sent (l : Launch) (D : va_G) (T : Nat → ClassId) (A : Nat → Prop) (σ : fr_S) (h0 : Nat) (x1 : Int32) (r : Int32) (h : m_FR_sent h0 x1 σ = some r) : Met l y_FR_sent (Cond.code y_FR_sent b_FR_sent 2 (some .int) :: fr_W) ({ frames := 1, cells := 0, slots := 0, locals := 20 } : Room) (va_Pc [.ref h0, .int x1] (fr_B D T A σ)) (fr_Qi D T A r σ) 0 0 A := by
  refine Met.ofW (cc := b_FR_sent) (maxL := 2) (ret := (some .int)) (by decide) rfl ?_
  intro p e s m args below meth c s₁ B hml hv
  obtain ⟨rfl, hH, hK, hX⟩ := hv
  have C0 : fr_At p s m _ meth c "FetchRules" b_FR_sent 2 (some .int) := fr_at B hml
  obtain ⟨hx, hb, hr, hml, hown, hts, hlocks⟩ := id C0
  have hS : va_S A s.heap s.heap [] := va_S.rf
  have hl := lv_entry ([.ref h0, .int x1]) (n := 2) (Nat.le_of_ble_eq_true rfl)
  rw [lg_entry_eq]
  generalize (lg_sl ([.ref h0, .int x1]) ++ List.replicate (2 - (lg_sl ([.ref h0, .int x1])).length) Slot.unset).toArray = ls at hl ⊢
  have hl : lv_has ls 2 [(0, .ref h0), (1, .int x1)] := hl
  unfold m_FR_sent at h
  refine lv_iload_n hx hb d_FR_sent_0 rfl (lv_at hl 1 rfl) ?_
  obtain ⟨r1, e1, h⟩ := fr_bind h
  refine fr_calli (fr_Sc (As := [.int x1]) (rest := []) ⟨hx, hb, hml, hown, hts⟩ (c_FR_isHost l D T A σ x1 r1 e1) k_286 ms_FR_isHost rfl rfl ⟨Nat.le_of_ble_eq_true rfl, Nat.le_of_ble_eq_true rfl⟩ (fr_preS hK hX hH _) rfl hl.1 rfl (Nat.le_of_ble_eq_true rfl) d_FR_sent_1 ⟨Nat.zero_le _, Nat.zero_le _⟩) hS (fun H locs hH hS => ?_)
  refine lv_if_eq (tgt := 16) hx hb d_FR_sent_4 (by decide) (fun c2 => ?_) (fun c2 => ?_)
  · replace h := fr_ift c2 h
    refine lv_iconst (v := 0) hx hb d_FR_sent_16 (by decide) ?_
    exact fr_iretO hx hb hr hlocks  h hH hK hX hS d_FR_sent_17
  · replace h := fr_iff c2 h
    refine lv_aload_n hx hb d_FR_sent_7 rfl (lv_at hl 0 rfl) ?_
    obtain ⟨q3, e3, h⟩ := fr_bind h
    refine fr_gP hx hb hts in_FR hown hK hH e3 rfl 2 (by decide) (hts _ k_241) (fun _ h9 => h9) rfl d_FR_sent_8 ?_
    refine lv_iload_n hx hb d_FR_sent_11 rfl (lv_at hl 1 rfl) ?_
    obtain ⟨v4, e4, h⟩ := fr_bind h
    refine fr_ild hx hb hK hH e4 d_FR_sent_12 ?_
    refine lv_goto (tgt := 17) hx hb d_FR_sent_13 (by decide) ?_
    exact fr_iretO hx hb hr hlocks  h hH hK hX hS d_FR_sent_17
set_option maxHeartbeats 4000000 in
set_option maxRecDepth 100000 in
theorem c_Archive_pathEnd (l : Launch) (D : va_G) (T : Nat → ClassId) (A : Nat → Prop) (σ : fr_S) (a0 : Nat) (x1 : Int32) (r : Int32) (h : m_Archive_pathEnd a0 x1 σ = some r) : Met l y_Archive_pathEnd (Cond.code y_Archive_pathEnd b_Archive_pathEnd 2 (some .int) :: fr_W) ({ frames := 1, cells := 0, slots := 0, locals := 21 } : Room) (va_Pc [.ref a0, .int x1] (fr_B D T A σ)) (fr_Qi D T A r σ) 0 0 A := by
  refine Met.ofW (cc := b_Archive_pathEnd) (maxL := 2) (ret := (some .int)) (by decide) rfl ?_
  intro p e s m args below meth c s₁ B hml hv
  obtain ⟨rfl, hH, hK, hX⟩ := hv
  have C0 : fr_At p s m _ meth c "FetchRules$Archive" b_Archive_pathEnd 2 (some .int) := fr_at B hml
  obtain ⟨hx, hb, hr, hml, hown, hts, hlocks⟩ := id C0
  have hS : va_S A s.heap s.heap [] := va_S.rf
  have hl := lv_entry ([.ref a0, .int x1]) (n := 2) (Nat.le_of_ble_eq_true rfl)
  rw [lg_entry_eq]
  generalize (lg_sl ([.ref a0, .int x1]) ++ List.replicate (2 - (lg_sl ([.ref a0, .int x1])).length) Slot.unset).toArray = ls at hl ⊢
  have hl : lv_has ls 2 [(0, .ref a0), (1, .int x1)] := hl
  unfold m_Archive_pathEnd at h
  refine lv_iload_n hx hb d_Archive_pathEnd_0 rfl (lv_at hl 1 rfl) ?_
  refine lv_iconst (v := 1) hx hb d_Archive_pathEnd_1 (by decide) ?_
  refine lv_iadd hx hb d_Archive_pathEnd_2 ?_
  refine lv_aload_n hx hb d_Archive_pathEnd_3 rfl (lv_at hl 0 rfl) ?_
  refine lv_iload_n hx hb d_Archive_pathEnd_4 rfl (lv_at hl 1 rfl) ?_
  obtain ⟨u1, e1, h⟩ := fr_bind h
  obtain ⟨r2, e2, h⟩ := fr_bind h
  refine fr_calli (fr_V (As := [.int x1]) (rest := [.int (x1 + 1)]) ⟨hx, hb, hml, hown, hts⟩ (c_Row_at l D T A σ a0 x1 r2 e2) k_484 mv_Row_at rfl rfl ⟨Nat.le_of_ble_eq_true rfl, Nat.le_of_ble_eq_true rfl⟩ (fr_preV hK hX hH e1 rfl _) rfl hl.1 rfl (Nat.le_of_ble_eq_true rfl) d_Archive_pathEnd_5 ⟨Nat.zero_le _, Nat.zero_le _⟩) hS (fun H locs hH hS => ?_)
  refine lv_iadd hx hb d_Archive_pathEnd_8 ?_
  exact fr_iretO hx hb hr hlocks  h hH hK hX hS d_Archive_pathEnd_9
set_option maxHeartbeats 4000000 in
set_option maxRecDepth 100000 in
theorem c_Archive_isRightSegment (l : Launch) (D : va_G) (T : Nat → ClassId) (A : Nat → Prop) (σ : fr_S) (a0 : Nat) (x1 : Int32) (x2 : Int32) (r : Int32) (h : m_Archive_isRightSegment a0 x1 x2 σ = some r) : Met l y_Archive_isRightSegment (Cond.code y_Archive_isRightSegment b_Archive_isRightSegment 4 (some .boolean) :: fr_W) ({ frames := 1, cells := 0, slots := 0, locals := 21 } : Room) (va_Pc [.ref a0, .int x1, .int x2] (fr_B D T A σ)) (fr_Qi D T A r σ) 0 0 A := by
  refine Met.ofW (cc := b_Archive_isRightSegment) (maxL := 4) (ret := (some .boolean)) (by decide) rfl ?_
  intro p e s m args below meth c s₁ B hml hv
  obtain ⟨rfl, hH, hK, hX⟩ := hv
  have C0 : fr_At p s m _ meth c "FetchRules$Archive" b_Archive_isRightSegment 4 (some .boolean) := fr_at B hml
  obtain ⟨hx, hb, hr, hml, hown, hts, hlocks⟩ := id C0
  have hS : va_S A s.heap s.heap [] := va_S.rf
  have hl := lv_entry ([.ref a0, .int x1, .int x2]) (n := 4) (Nat.le_of_ble_eq_true rfl)
  rw [lg_entry_eq]
  generalize (lg_sl ([.ref a0, .int x1, .int x2]) ++ List.replicate (4 - (lg_sl ([.ref a0, .int x1, .int x2])).length) Slot.unset).toArray = ls at hl ⊢
  have hl : lv_has ls 4 [(0, .ref a0), (1, .int x1), (2, .int x2)] := hl
  unfold m_Archive_isRightSegment at h
  refine lv_iload_n hx hb d_Archive_isRightSegment_0 rfl (lv_at hl 2 rfl) ?_
  refine lv_iload_n hx hb d_Archive_isRightSegment_1 rfl (lv_at hl 1 rfl) ?_
  refine lv_isub hx hb d_Archive_isRightSegment_2 ?_
  refine lv_istore_n (lv' := [(3, .int (x2 - x1)), (0, .ref a0), (1, .int x1), (2, .int x2)]) hx hb d_Archive_isRightSegment_3 rfl hl (by decide) rfl (fun ls hl => ?_)
  refine lv_iload_n hx hb d_Archive_isRightSegment_4 rfl (lv_at hl 0 rfl) ?_
  refine lv_if_gt (tgt := 10) hx hb d_Archive_isRightSegment_5 (by decide) (fun c1 => ?_) (fun c1 => ?_)
  · replace h := fr_ift c1 h
    refine lv_iload_n hx hb d_Archive_isRightSegment_10 rfl (lv_at hl 0 rfl) ?_
    refine lv_iconst (v := 2) hx hb d_Archive_isRightSegment_11 (by decide) ?_
    refine lv_icmp_gt (tgt := 37) hx hb d_Archive_isRightSegment_12 (by decide) (fun c2 => ?_) (fun c2 => ?_)
    · replace h := fr_ift c2 h
      refine lv_iconst (v := 1) hx hb d_Archive_isRightSegment_37 (by decide) ?_
      refine lv_goto (tgt := 42) hx hb d_Archive_isRightSegment_38 (by decide) ?_
      exact fr_zretO hx hb hr hlocks (Or.inr rfl) h hH hK hX hS d_Archive_isRightSegment_42
    · replace h := fr_iff c2 h
      refine lv_aload_n hx hb d_Archive_isRightSegment_15 rfl (lv_at hl 1 rfl) ?_
      refine lv_iload_n hx hb d_Archive_isRightSegment_16 rfl (lv_at hl 2 rfl) ?_
      obtain ⟨u3, e3, h⟩ := fr_bind h
      obtain ⟨r4, e4, h⟩ := fr_bind h
      refine fr_calli (fr_V (As := [.int x1]) (rest := []) ⟨hx, hb, hml, hown, hts⟩ (c_Row_at l D T A σ a0 x1 r4 e4) k_484 mv_Row_at rfl rfl ⟨Nat.le_of_ble_eq_true rfl, Nat.le_of_ble_eq_true rfl⟩ (fr_preV hK hX hH e3 rfl _) rfl hl.1 rfl (Nat.le_of_ble_eq_true rfl) d_Archive_isRightSegment_17 ⟨Nat.zero_le _, Nat.zero_le _⟩) hS (fun H locs hH hS => ?_)
      refine lv_bipush (v := 46) hx hb d_Archive_isRightSegment_20 (by decide) ?_
      refine lv_icmp_ne (tgt := 37) hx hb d_Archive_isRightSegment_22 (by decide) (fun c5 => ?_) (fun c5 => ?_)
      · replace h := fr_iff c5 h
        refine lv_iconst (v := 1) hx hb d_Archive_isRightSegment_37 (by decide) ?_
        refine lv_goto (tgt := 42) hx hb d_Archive_isRightSegment_38 (by decide) ?_
        exact fr_zretO hx hb hr hlocks (Or.inr rfl) h hH hK hX hS d_Archive_isRightSegment_42
      · replace h := fr_ift c5 h
        refine lv_aload_n hx hb d_Archive_isRightSegment_25 rfl (lv_at hl 1 rfl) ?_
        refine lv_iload_n hx hb d_Archive_isRightSegment_26 rfl (lv_at hl 3 rfl) ?_
        refine lv_iconst (v := 1) hx hb d_Archive_isRightSegment_27 (by decide) ?_
        refine lv_isub hx hb d_Archive_isRightSegment_28 ?_
        obtain ⟨u6, e6, h⟩ := fr_bind h
        obtain ⟨r7, e7, h⟩ := fr_bind h
        refine fr_calli (fr_V (As := [.int (x2 - 1)]) (rest := []) ⟨hx, hb, hml, hown, hts⟩ (c_Row_at l D T A σ a0 ((x2 - 1)) r7 e7) k_484 mv_Row_at rfl rfl ⟨Nat.le_of_ble_eq_true rfl, Nat.le_of_ble_eq_true rfl⟩ (fr_preV hK hX hH e6 rfl _) rfl hl.1 rfl (Nat.le_of_ble_eq_true rfl) d_Archive_isRightSegment_29 ⟨Nat.zero_le _, Nat.zero_le _⟩) hS (fun H locs hH hS => ?_)
        refine lv_bipush (v := 46) hx hb d_Archive_isRightSegment_32 (by decide) ?_
        refine lv_icmp_eq (tgt := 41) hx hb d_Archive_isRightSegment_34 (by decide) (fun c8 => ?_) (fun c8 => ?_)
        · replace h := fr_ift c8 h
          refine lv_iconst (v := 0) hx hb d_Archive_isRightSegment_41 (by decide) ?_
          exact fr_zretO hx hb hr hlocks (Or.inl rfl) h hH hK hX hS d_Archive_isRightSegment_42
        · replace h := fr_iff c8 h
          refine lv_iconst (v := 1) hx hb d_Archive_isRightSegment_37 (by decide) ?_
          refine lv_goto (tgt := 42) hx hb d_Archive_isRightSegment_38 (by decide) ?_
          exact fr_zretO hx hb hr hlocks (Or.inr rfl) h hH hK hX hS d_Archive_isRightSegment_42
  · replace h := fr_iff c1 h
    refine lv_iconst (v := 0) hx hb d_Archive_isRightSegment_8 (by decide) ?_
    exact fr_zretO hx hb hr hlocks (Or.inl rfl) h hH hK hX hS d_Archive_isRightSegment_9
set_option maxHeartbeats 4000000 in
set_option maxRecDepth 100000 in
theorem c_Archive_isPathCharacter (l : Launch) (D : va_G) (T : Nat → ClassId) (A : Nat → Prop) (σ : fr_S) (x0 : Int32) (r : Int32) (h : m_Archive_isPathCharacter x0 σ = some r) : Met l y_Archive_isPathCharacter (Cond.code y_Archive_isPathCharacter b_Archive_isPathCharacter 1 (some .boolean) :: fr_W) ({ frames := 0, cells := 0, slots := 0, locals := 0 } : Room) (va_Pc [.int x0] (fr_B D T A σ)) (fr_Qi D T A r σ) 0 0 A := by
  refine Met.ofW (cc := b_Archive_isPathCharacter) (maxL := 1) (ret := (some .boolean)) (by decide) rfl ?_
  intro p e s m args below meth c s₁ B hml hv
  obtain ⟨rfl, hH, hK, hX⟩ := hv
  have C0 : fr_At p s m _ meth c "FetchRules$Archive" b_Archive_isPathCharacter 1 (some .boolean) := fr_at B hml
  obtain ⟨hx, hb, hr, hml, hown, hts, hlocks⟩ := id C0
  have hS : va_S A s.heap s.heap [] := va_S.rf
  have hl := lv_entry ([.int x0]) (n := 1) (Nat.le_of_ble_eq_true rfl)
  rw [lg_entry_eq]
  generalize (lg_sl ([.int x0]) ++ List.replicate (1 - (lg_sl ([.int x0])).length) Slot.unset).toArray = ls at hl ⊢
  have hl : lv_has ls 1 [(0, .int x0)] := hl
  unfold m_Archive_isPathCharacter at h
  refine lv_iload_n hx hb d_Archive_isPathCharacter_0 rfl (lv_at hl 0 rfl) ?_
  refine lv_bipush (v := 97) hx hb d_Archive_isPathCharacter_1 (by decide) ?_
  refine lv_icmp_lt (tgt := 12) hx hb d_Archive_isPathCharacter_3 (by decide) (fun c1 => ?_) (fun c1 => ?_)
  · replace h := fr_ift c1 h
    refine lv_iload_n hx hb d_Archive_isPathCharacter_12 rfl (lv_at hl 0 rfl) ?_
    refine lv_bipush (v := 48) hx hb d_Archive_isPathCharacter_13 (by decide) ?_
    refine lv_icmp_lt (tgt := 24) hx hb d_Archive_isPathCharacter_15 (by decide) (fun c2 => ?_) (fun c2 => ?_)
    · replace h := fr_ift c2 h
      refine lv_iload_n hx hb d_Archive_isPathCharacter_24 rfl (lv_at hl 0 rfl) ?_
      refine lv_bipush (v := 46) hx hb d_Archive_isPathCharacter_25 (by decide) ?_
      refine lv_icmp_ne (tgt := 34) hx hb d_Archive_isPathCharacter_27 (by decide) (fun c3 => ?_) (fun c3 => ?_)
      · replace h := fr_iff c3 h
        refine lv_iconst (v := 0) hx hb d_Archive_isPathCharacter_34 (by decide) ?_
        exact fr_zretO hx hb hr hlocks (Or.inl rfl) h hH hK hX hS d_Archive_isPathCharacter_35
      · replace h := fr_ift c3 h
        refine lv_iconst (v := 1) hx hb d_Archive_isPathCharacter_30 (by decide) ?_
        refine lv_goto (tgt := 35) hx hb d_Archive_isPathCharacter_31 (by decide) ?_
        exact fr_zretO hx hb hr hlocks (Or.inr rfl) h hH hK hX hS d_Archive_isPathCharacter_35
    · replace h := fr_iff c2 h
      refine lv_iload_n hx hb d_Archive_isPathCharacter_18 rfl (lv_at hl 0 rfl) ?_
      refine lv_bipush (v := 57) hx hb d_Archive_isPathCharacter_19 (by decide) ?_
      refine lv_icmp_le (tgt := 30) hx hb d_Archive_isPathCharacter_21 (by decide) (fun c4 => ?_) (fun c4 => ?_)
      · replace h := fr_ift c4 h
        refine lv_iconst (v := 1) hx hb d_Archive_isPathCharacter_30 (by decide) ?_
        refine lv_goto (tgt := 35) hx hb d_Archive_isPathCharacter_31 (by decide) ?_
        exact fr_zretO hx hb hr hlocks (Or.inr rfl) h hH hK hX hS d_Archive_isPathCharacter_35
      · replace h := fr_iff c4 h
        refine lv_iload_n hx hb d_Archive_isPathCharacter_24 rfl (lv_at hl 0 rfl) ?_
        refine lv_bipush (v := 46) hx hb d_Archive_isPathCharacter_25 (by decide) ?_
        refine lv_icmp_ne (tgt := 34) hx hb d_Archive_isPathCharacter_27 (by decide) (fun c5 => ?_) (fun c5 => ?_)
        · replace h := fr_iff c5 h
          refine lv_iconst (v := 0) hx hb d_Archive_isPathCharacter_34 (by decide) ?_
          exact fr_zretO hx hb hr hlocks (Or.inl rfl) h hH hK hX hS d_Archive_isPathCharacter_35
        · replace h := fr_ift c5 h
          refine lv_iconst (v := 1) hx hb d_Archive_isPathCharacter_30 (by decide) ?_
          refine lv_goto (tgt := 35) hx hb d_Archive_isPathCharacter_31 (by decide) ?_
          exact fr_zretO hx hb hr hlocks (Or.inr rfl) h hH hK hX hS d_Archive_isPathCharacter_35
  · replace h := fr_iff c1 h
    refine lv_iload_n hx hb d_Archive_isPathCharacter_6 rfl (lv_at hl 0 rfl) ?_
    refine lv_bipush (v := 122) hx hb d_Archive_isPathCharacter_7 (by decide) ?_
    refine lv_icmp_le (tgt := 30) hx hb d_Archive_isPathCharacter_9 (by decide) (fun c6 => ?_) (fun c6 => ?_)
    · replace h := fr_ift c6 h
      refine lv_iconst (v := 1) hx hb d_Archive_isPathCharacter_30 (by decide) ?_
      refine lv_goto (tgt := 35) hx hb d_Archive_isPathCharacter_31 (by decide) ?_
      exact fr_zretO hx hb hr hlocks (Or.inr rfl) h hH hK hX hS d_Archive_isPathCharacter_35
    · replace h := fr_iff c6 h
      refine lv_iload_n hx hb d_Archive_isPathCharacter_12 rfl (lv_at hl 0 rfl) ?_
      refine lv_bipush (v := 48) hx hb d_Archive_isPathCharacter_13 (by decide) ?_
      refine lv_icmp_lt (tgt := 24) hx hb d_Archive_isPathCharacter_15 (by decide) (fun c7 => ?_) (fun c7 => ?_)
      · replace h := fr_ift c7 h
        refine lv_iload_n hx hb d_Archive_isPathCharacter_24 rfl (lv_at hl 0 rfl) ?_
        refine lv_bipush (v := 46) hx hb d_Archive_isPathCharacter_25 (by decide) ?_
        refine lv_icmp_ne (tgt := 34) hx hb d_Archive_isPathCharacter_27 (by decide) (fun c8 => ?_) (fun c8 => ?_)
        · replace h := fr_iff c8 h
          refine lv_iconst (v := 0) hx hb d_Archive_isPathCharacter_34 (by decide) ?_
          exact fr_zretO hx hb hr hlocks (Or.inl rfl) h hH hK hX hS d_Archive_isPathCharacter_35
        · replace h := fr_ift c8 h
          refine lv_iconst (v := 1) hx hb d_Archive_isPathCharacter_30 (by decide) ?_
          refine lv_goto (tgt := 35) hx hb d_Archive_isPathCharacter_31 (by decide) ?_
          exact fr_zretO hx hb hr hlocks (Or.inr rfl) h hH hK hX hS d_Archive_isPathCharacter_35
      · replace h := fr_iff c7 h
        refine lv_iload_n hx hb d_Archive_isPathCharacter_18 rfl (lv_at hl 0 rfl) ?_
        refine lv_bipush (v := 57) hx hb d_Archive_isPathCharacter_19 (by decide) ?_
        refine lv_icmp_le (tgt := 30) hx hb d_Archive_isPathCharacter_21 (by decide) (fun c9 => ?_) (fun c9 => ?_)
        · replace h := fr_ift c9 h
          refine lv_iconst (v := 1) hx hb d_Archive_isPathCharacter_30 (by decide) ?_
          refine lv_goto (tgt := 35) hx hb d_Archive_isPathCharacter_31 (by decide) ?_
          exact fr_zretO hx hb hr hlocks (Or.inr rfl) h hH hK hX hS d_Archive_isPathCharacter_35
        · replace h := fr_iff c9 h
          refine lv_iload_n hx hb d_Archive_isPathCharacter_24 rfl (lv_at hl 0 rfl) ?_
          refine lv_bipush (v := 46) hx hb d_Archive_isPathCharacter_25 (by decide) ?_
          refine lv_icmp_ne (tgt := 34) hx hb d_Archive_isPathCharacter_27 (by decide) (fun c10 => ?_) (fun c10 => ?_)
          · replace h := fr_iff c10 h
            refine lv_iconst (v := 0) hx hb d_Archive_isPathCharacter_34 (by decide) ?_
            exact fr_zretO hx hb hr hlocks (Or.inl rfl) h hH hK hX hS d_Archive_isPathCharacter_35
          · replace h := fr_ift c10 h
            refine lv_iconst (v := 1) hx hb d_Archive_isPathCharacter_30 (by decide) ?_
            refine lv_goto (tgt := 35) hx hb d_Archive_isPathCharacter_31 (by decide) ?_
            exact fr_zretO hx hb hr hlocks (Or.inr rfl) h hH hK hX hS d_Archive_isPathCharacter_35
set_option maxHeartbeats 4000000 in
set_option maxRecDepth 100000 in
theorem w_Archive_isRightPath_L5 {p : Program} {l : Launch} {e : Env} {s : State} {m : MethodId} {args : Array Value} {below : List Frame} {meth : Method} {c : Code} {D : va_G} {T : Nat → ClassId} {A : Nat → Prop} (C0 : fr_At p s m args meth c "FetchRules$Archive" b_Archive_isRightPath 6 (some .boolean)) (hK : va_K D vwCl (fr_tys T) s) (hX : fr_X s) :
    ∀ (n : Nat) (b0 : Nat) (y2 : Int32) (y3 : Int32) (y4 : Int32) (σ : fr_S) (r : Int32), m_Archive_isRightPath_L5 n b0 y2 y3 y4 σ = some r → ∀ (H : Heap) (locs : List Loc), fr_H D T A σ H → va_S A s.heap H locs → ∀ (ls : Array Slot), lv_has ls 6 [(0, .ref b0), (2, .int y2), (3, .int y3), (4, .int y4)] → W p l e (headSpec (Cond.code y_Archive_isRightPath b_Archive_isRightPath 6 (some .boolean) :: fr_W) ({ frames := 2, cells := 0, slots := 0, locals := 44 } : Room)).room s m args below meth c H locs 0 0 (MQ below (fr_Qi D T A r σ) args s 0 0 A) (F0 m 5 ls []) := by
  obtain ⟨hx, hb, hr, hml, hown, hts, hlocks⟩ := id C0
  intro n
  induction n with
  | zero => intro b0 y2 y3 y4 σ r h; cases h
  | succ n ih =>
    intro b0 y2 y3 y4 σ r h H locs hH hS ls hl
    unfold m_Archive_isRightPath_L5 at h
    refine lv_iload hx hb d_Archive_isRightPath_5 (lv_at hl 3 rfl) ?_
    refine lv_iload_n hx hb d_Archive_isRightPath_7 rfl (lv_at hl 1 rfl) ?_
    refine lv_icmp_ge (tgt := 62) hx hb d_Archive_isRightPath_8 (by decide) (fun c1 => ?_) (fun c1 => ?_)
    · replace h := fr_ift c1 h
      refine lv_aload_n hx hb d_Archive_isRightPath_62 rfl (lv_at hl 0 rfl) ?_
      refine lv_iload_n hx hb d_Archive_isRightPath_63 rfl (lv_at hl 2 rfl) ?_
      refine lv_iload_n hx hb d_Archive_isRightPath_64 rfl (lv_at hl 1 rfl) ?_
      obtain ⟨r2, e2, h⟩ := fr_bind h
      refine fr_calli (fr_Sc (As := [.ref b0, .int y3, .int y2]) (rest := []) ⟨hx, hb, hml, hown, hts⟩ (c_Archive_isRightSegment l D T A σ b0 y3 y2 r2 e2) k_491 ms_Archive_isRightSegment rfl rfl ⟨Nat.le_of_ble_eq_true rfl, Nat.le_of_ble_eq_true rfl⟩ (fr_preS hK hX hH _) rfl hl.1 rfl (Nat.le_of_ble_eq_true rfl) d_Archive_isRightPath_65 ⟨Nat.zero_le _, Nat.zero_le _⟩) hS (fun H locs hH hS => ?_)
      obtain ⟨u3, e3, h⟩ := fr_bind h
      exact fr_zretO hx hb hr hlocks (oZ_inv e3) h hH hK hX hS d_Archive_isRightPath_68
    · replace h := fr_iff c1 h
      refine lv_aload_n hx hb d_Archive_isRightPath_11 rfl (lv_at hl 0 rfl) ?_
      refine lv_iload hx hb d_Archive_isRightPath_12 (lv_at hl 3 rfl) ?_
      obtain ⟨u4, e4, h⟩ := fr_bind h
      obtain ⟨r5, e5, h⟩ := fr_bind h
      refine fr_calli (fr_V (As := [.int y4]) (rest := []) ⟨hx, hb, hml, hown, hts⟩ (c_Row_at l D T A σ b0 y4 r5 e5) k_484 mv_Row_at rfl rfl ⟨Nat.le_of_ble_eq_true rfl, Nat.le_of_ble_eq_true rfl⟩ (fr_preV hK hX hH e4 rfl _) rfl hl.1 rfl (Nat.le_of_ble_eq_true rfl) d_Archive_isRightPath_14 ⟨Nat.zero_le _, Nat.zero_le _⟩) hS (fun H locs hH hS => ?_)
      refine lv_istore (lv' := [(5, .int r5), (0, .ref b0), (2, .int y2), (3, .int y3), (4, .int y4)]) hx hb d_Archive_isRightPath_17 hl (by decide) rfl (fun ls hl => ?_)
      refine lv_iload hx hb d_Archive_isRightPath_19 (lv_at hl 0 rfl) ?_
      refine lv_bipush (v := 47) hx hb d_Archive_isRightPath_21 (by decide) ?_
      refine lv_icmp_ne (tgt := 46) hx hb d_Archive_isRightPath_23 (by decide) (fun c6 => ?_) (fun c6 => ?_)
      · replace h := fr_iff c6 h
        refine lv_iload hx hb d_Archive_isRightPath_46 (lv_at hl 0 rfl) ?_
        obtain ⟨r7, e7, h⟩ := fr_bind h
        refine fr_calli (fr_Sc (As := [.int r5]) (rest := []) ⟨hx, hb, hml, hown, hts⟩ (c_Archive_isPathCharacter l D T A σ r5 r7 e7) k_494 ms_Archive_isPathCharacter rfl rfl ⟨Nat.le_of_ble_eq_true rfl, Nat.le_of_ble_eq_true rfl⟩ (fr_preS hK hX hH _) rfl hl.1 rfl (Nat.le_of_ble_eq_true rfl) d_Archive_isRightPath_48 ⟨Nat.zero_le _, Nat.zero_le _⟩) hS (fun H locs hH hS => ?_)
        refine lv_if_ne (tgt := 56) hx hb d_Archive_isRightPath_51 (by decide) (fun c8 => ?_) (fun c8 => ?_)
        · replace h := fr_iff c8 h
          refine lv_iinc (v := (y4 + 1)) (lv' := [(4, .int (y4 + 1)), (5, .int r5), (0, .ref b0), (2, .int y2), (3, .int y3)]) hx hb d_Archive_isRightPath_56 hl (k := 4) rfl rfl (by decide) rfl (fun ls hl => ?_)
          refine lv_goto (tgt := 5) hx hb d_Archive_isRightPath_59 (by decide) ?_
          exact ih b0 y2 y3 (y4 + 1) σ r h _ _ hH hS ls (lv_sub hl [2, 3, 4, 0] rfl)
        · replace h := fr_ift c8 h
          refine lv_iconst (v := 0) hx hb d_Archive_isRightPath_54 (by decide) ?_
          exact fr_zretO hx hb hr hlocks (Or.inl rfl) h hH hK hX hS d_Archive_isRightPath_55
      · replace h := fr_ift c6 h
        refine lv_aload_n hx hb d_Archive_isRightPath_26 rfl (lv_at hl 1 rfl) ?_
        refine lv_iload_n hx hb d_Archive_isRightPath_27 rfl (lv_at hl 3 rfl) ?_
        refine lv_iload hx hb d_Archive_isRightPath_28 (lv_at hl 4 rfl) ?_
        obtain ⟨r9, e9, h⟩ := fr_bind h
        refine fr_calli (fr_Sc (As := [.ref b0, .int y3, .int y4]) (rest := []) ⟨hx, hb, hml, hown, hts⟩ (c_Archive_isRightSegment l D T A σ b0 y3 y4 r9 e9) k_491 ms_Archive_isRightSegment rfl rfl ⟨Nat.le_of_ble_eq_true rfl, Nat.le_of_ble_eq_true rfl⟩ (fr_preS hK hX hH _) rfl hl.1 rfl (Nat.le_of_ble_eq_true rfl) d_Archive_isRightPath_30 ⟨Nat.zero_le _, Nat.zero_le _⟩) hS (fun H locs hH hS => ?_)
        refine lv_if_ne (tgt := 38) hx hb d_Archive_isRightPath_33 (by decide) (fun c10 => ?_) (fun c10 => ?_)
        · replace h := fr_iff c10 h
          refine lv_iload hx hb d_Archive_isRightPath_38 (lv_at hl 4 rfl) ?_
          refine lv_iconst (v := 1) hx hb d_Archive_isRightPath_40 (by decide) ?_
          refine lv_iadd hx hb d_Archive_isRightPath_41 ?_
          refine lv_istore_n (lv' := [(3, .int (y4 + 1)), (5, .int r5), (0, .ref b0), (2, .int y2), (4, .int y4)]) hx hb d_Archive_isRightPath_42 rfl hl (by decide) rfl (fun ls hl => ?_)
          refine lv_goto (tgt := 56) hx hb d_Archive_isRightPath_43 (by decide) ?_
          refine lv_iinc (v := (y4 + 1)) (lv' := [(4, .int (y4 + 1)), (3, .int (y4 + 1)), (5, .int r5), (0, .ref b0), (2, .int y2)]) hx hb d_Archive_isRightPath_56 hl (k := 4) rfl rfl (by decide) rfl (fun ls hl => ?_)
          refine lv_goto (tgt := 5) hx hb d_Archive_isRightPath_59 (by decide) ?_
          exact ih b0 y2 (y4 + 1) (y4 + 1) σ r h _ _ hH hS ls (lv_sub hl [3, 4, 1, 0] rfl)
        · replace h := fr_ift c10 h
          refine lv_iconst (v := 0) hx hb d_Archive_isRightPath_36 (by decide) ?_
          exact fr_zretO hx hb hr hlocks (Or.inl rfl) h hH hK hX hS d_Archive_isRightPath_37
set_option maxHeartbeats 4000000 in
set_option maxRecDepth 100000 in
theorem c_Archive_isRightPath (l : Launch) (D : va_G) (T : Nat → ClassId) (A : Nat → Prop) (σ : fr_S) (a0 : Nat) (x1 : Int32) (x2 : Int32) (r : Int32) (h : m_Archive_isRightPath a0 x1 x2 σ = some r) : Met l y_Archive_isRightPath (Cond.code y_Archive_isRightPath b_Archive_isRightPath 6 (some .boolean) :: fr_W) ({ frames := 2, cells := 0, slots := 0, locals := 44 } : Room) (va_Pc [.ref a0, .int x1, .int x2] (fr_B D T A σ)) (fr_Qi D T A r σ) 0 0 A := by
  refine Met.ofW (cc := b_Archive_isRightPath) (maxL := 6) (ret := (some .boolean)) (by decide) rfl ?_
  intro p e s m args below meth c s₁ B hml hv
  obtain ⟨rfl, hH, hK, hX⟩ := hv
  have C0 : fr_At p s m _ meth c "FetchRules$Archive" b_Archive_isRightPath 6 (some .boolean) := fr_at B hml
  obtain ⟨hx, hb, hr, hml, hown, hts, hlocks⟩ := id C0
  have hS : va_S A s.heap s.heap [] := va_S.rf
  have hl := lv_entry ([.ref a0, .int x1, .int x2]) (n := 6) (Nat.le_of_ble_eq_true rfl)
  rw [lg_entry_eq]
  generalize (lg_sl ([.ref a0, .int x1, .int x2]) ++ List.replicate (6 - (lg_sl ([.ref a0, .int x1, .int x2])).length) Slot.unset).toArray = ls at hl ⊢
  have hl : lv_has ls 6 [(0, .ref a0), (1, .int x1), (2, .int x2)] := hl
  unfold m_Archive_isRightPath at h
  refine lv_iload_n hx hb d_Archive_isRightPath_0 rfl (lv_at hl 1 rfl) ?_
  refine lv_istore_n (lv' := [(3, .int x1), (0, .ref a0), (1, .int x1), (2, .int x2)]) hx hb d_Archive_isRightPath_1 rfl hl (by decide) rfl (fun ls hl => ?_)
  refine lv_iload_n hx hb d_Archive_isRightPath_2 rfl (lv_at hl 2 rfl) ?_
  refine lv_istore (lv' := [(4, .int x1), (3, .int x1), (0, .ref a0), (1, .int x1), (2, .int x2)]) hx hb d_Archive_isRightPath_3 hl (by decide) rfl (fun ls hl => ?_)
  exact w_Archive_isRightPath_L5 C0 hK hX 1000 a0 x2 x1 x1 σ r h _ _ hH hS ls (lv_sub hl [2, 4, 1, 0] rfl)
set_option maxHeartbeats 4000000 in
set_option maxRecDepth 100000 in
theorem c_Archive_entryEnd (l : Launch) (D : va_G) (T : Nat → ClassId) (A : Nat → Prop) (σ : fr_S) (a0 : Nat) (x1 : Int32) (r : Int32) (h : m_Archive_entryEnd a0 x1 σ = some r) : Met l y_Archive_entryEnd (Cond.code y_Archive_entryEnd b_Archive_entryEnd 3 (some .int) :: fr_W) ({ frames := 2, cells := 0, slots := 0, locals := 42 } : Room) (va_Pc [.ref a0, .int x1] (fr_B D T A σ)) (fr_Qi D T A r σ) 0 0 A := by
  refine Met.ofW (cc := b_Archive_entryEnd) (maxL := 3) (ret := (some .int)) (by decide) rfl ?_
  intro p e s m args below meth c s₁ B hml hv
  obtain ⟨rfl, hH, hK, hX⟩ := hv
  have C0 : fr_At p s m _ meth c "FetchRules$Archive" b_Archive_entryEnd 3 (some .int) := fr_at B hml
  obtain ⟨hx, hb, hr, hml, hown, hts, hlocks⟩ := id C0
  have hS : va_S A s.heap s.heap [] := va_S.rf
  have hl := lv_entry ([.ref a0, .int x1]) (n := 3) (Nat.le_of_ble_eq_true rfl)
  rw [lg_entry_eq]
  generalize (lg_sl ([.ref a0, .int x1]) ++ List.replicate (3 - (lg_sl ([.ref a0, .int x1])).length) Slot.unset).toArray = ls at hl ⊢
  have hl : lv_has ls 3 [(0, .ref a0), (1, .int x1)] := hl
  unfold m_Archive_entryEnd at h
  refine lv_aload_n hx hb d_Archive_entryEnd_0 rfl (lv_at hl 0 rfl) ?_
  refine lv_iload_n hx hb d_Archive_entryEnd_1 rfl (lv_at hl 1 rfl) ?_
  obtain ⟨r1, e1, h⟩ := fr_bind h
  refine fr_calli (fr_Sc (As := [.ref a0, .int x1]) (rest := []) ⟨hx, hb, hml, hown, hts⟩ (c_Archive_pathEnd l D T A σ a0 x1 r1 e1) k_485 ms_Archive_pathEnd rfl rfl ⟨Nat.le_of_ble_eq_true rfl, Nat.le_of_ble_eq_true rfl⟩ (fr_preS hK hX hH _) rfl hl.1 rfl (Nat.le_of_ble_eq_true rfl) d_Archive_entryEnd_2 ⟨Nat.zero_le _, Nat.zero_le _⟩) hS (fun H locs hH hS => ?_)
  refine lv_istore_n (lv' := [(2, .int r1), (0, .ref a0), (1, .int x1)]) hx hb d_Archive_entryEnd_5 rfl hl (by decide) rfl (fun ls hl => ?_)
  refine lv_iload_n hx hb d_Archive_entryEnd_6 rfl (lv_at hl 0 rfl) ?_
  refine lv_iconst (v := 1) hx hb d_Archive_entryEnd_7 (by decide) ?_
  refine lv_iadd hx hb d_Archive_entryEnd_8 ?_
  refine lv_aload_n hx hb d_Archive_entryEnd_9 rfl (lv_at hl 1 rfl) ?_
  refine lv_iload_n hx hb d_Archive_entryEnd_10 rfl (lv_at hl 0 rfl) ?_
  obtain ⟨u2, e2, h⟩ := fr_bind h
  obtain ⟨r3, e3, h⟩ := fr_bind h
  refine fr_calli (fr_V (As := [.int r1]) (rest := [.int (r1 + 1)]) ⟨hx, hb, hml, hown, hts⟩ (c_Row_at l D T A σ a0 r1 r3 e3) k_484 mv_Row_at rfl rfl ⟨Nat.le_of_ble_eq_true rfl, Nat.le_of_ble_eq_true rfl⟩ (fr_preV hK hX hH e2 rfl _) rfl hl.1 rfl (Nat.le_of_ble_eq_true rfl) d_Archive_entryEnd_11 ⟨Nat.zero_le _, Nat.zero_le _⟩) hS (fun H locs hH hS => ?_)
  refine lv_iadd hx hb d_Archive_entryEnd_14 ?_
  exact fr_iretO hx hb hr hlocks  h hH hK hX hS d_Archive_entryEnd_15
set_option maxHeartbeats 4000000 in
set_option maxRecDepth 100000 in
theorem c_Archive_findIllOfEntry (l : Launch) (D : va_G) (T : Nat → ClassId) (A : Nat → Prop) (σ : fr_S) (a0 : Nat) (x1 : Int32) (r : Int32) (h : m_Archive_findIllOfEntry a0 x1 σ = some r) : Met l y_Archive_findIllOfEntry (Cond.code y_Archive_findIllOfEntry b_Archive_findIllOfEntry 3 (some .int) :: fr_W) ({ frames := 3, cells := 0, slots := 0, locals := 69 } : Room) (va_Pc [.ref a0, .int x1] (fr_B D T A σ)) (fr_Qi D T A r σ) 0 0 A := by
  refine Met.ofW (cc := b_Archive_findIllOfEntry) (maxL := 3) (ret := (some .int)) (by decide) rfl ?_
  intro p e s m args below meth c s₁ B hml hv
  obtain ⟨rfl, hH, hK, hX⟩ := hv
  have C0 : fr_At p s m _ meth c "FetchRules$Archive" b_Archive_findIllOfEntry 3 (some .int) := fr_at B hml
  obtain ⟨hx, hb, hr, hml, hown, hts, hlocks⟩ := id C0
  have hS : va_S A s.heap s.heap [] := va_S.rf
  have hl := lv_entry ([.ref a0, .int x1]) (n := 3) (Nat.le_of_ble_eq_true rfl)
  rw [lg_entry_eq]
  generalize (lg_sl ([.ref a0, .int x1]) ++ List.replicate (3 - (lg_sl ([.ref a0, .int x1])).length) Slot.unset).toArray = ls at hl ⊢
  have hl : lv_has ls 3 [(0, .ref a0), (1, .int x1)] := hl
  unfold m_Archive_findIllOfEntry at h
  refine lv_aload_n hx hb d_Archive_findIllOfEntry_0 rfl (lv_at hl 0 rfl) ?_
  refine lv_iload_n hx hb d_Archive_findIllOfEntry_1 rfl (lv_at hl 1 rfl) ?_
  obtain ⟨u1, e1, h⟩ := fr_bind h
  obtain ⟨r2, e2, h⟩ := fr_bind h
  refine fr_calli (fr_V (As := [.int x1]) (rest := []) ⟨hx, hb, hml, hown, hts⟩ (c_Row_at l D T A σ a0 x1 r2 e2) k_484 mv_Row_at rfl rfl ⟨Nat.le_of_ble_eq_true rfl, Nat.le_of_ble_eq_true rfl⟩ (fr_preV hK hX hH e1 rfl _) rfl hl.1 rfl (Nat.le_of_ble_eq_true rfl) d_Archive_findIllOfEntry_2 ⟨Nat.zero_le _, Nat.zero_le _⟩) hS (fun H locs hH hS => ?_)
  refine lv_istore_n (lv' := [(2, .int r2), (0, .ref a0), (1, .int x1)]) hx hb d_Archive_findIllOfEntry_5 rfl hl (by decide) rfl (fun ls hl => ?_)
  refine lv_iload_n hx hb d_Archive_findIllOfEntry_6 rfl (lv_at hl 0 rfl) ?_
  refine lv_iconst (v := 1) hx hb d_Archive_findIllOfEntry_7 (by decide) ?_
  refine lv_icmp_lt (tgt := 17) hx hb d_Archive_findIllOfEntry_8 (by decide) (fun c3 => ?_) (fun c3 => ?_)
  · replace h := fr_ift c3 h
    refine lv_iload_n hx hb d_Archive_findIllOfEntry_17 rfl (lv_at hl 2 rfl) ?_
    exact fr_iretO hx hb hr hlocks  h hH hK hX hS d_Archive_findIllOfEntry_18
  · replace h := fr_iff c3 h
    refine lv_iload_n hx hb d_Archive_findIllOfEntry_11 rfl (lv_at hl 0 rfl) ?_
    refine lv_bipush (v := 20) hx hb d_Archive_findIllOfEntry_12 (by decide) ?_
    refine lv_icmp_le (tgt := 19) hx hb d_Archive_findIllOfEntry_14 (by decide) (fun c4 => ?_) (fun c4 => ?_)
    · replace h := fr_ift c4 h
      refine lv_aload_n hx hb d_Archive_findIllOfEntry_19 rfl (lv_at hl 1 rfl) ?_
      refine lv_iload_n hx hb d_Archive_findIllOfEntry_20 rfl (lv_at hl 2 rfl) ?_
      obtain ⟨r5, e5, h⟩ := fr_bind h
      refine fr_calli (fr_Sc (As := [.ref a0, .int x1]) (rest := []) ⟨hx, hb, hml, hown, hts⟩ (c_Archive_pathEnd l D T A σ a0 x1 r5 e5) k_485 ms_Archive_pathEnd rfl rfl ⟨Nat.le_of_ble_eq_true rfl, Nat.le_of_ble_eq_true rfl⟩ (fr_preS hK hX hH _) rfl hl.1 rfl (Nat.le_of_ble_eq_true rfl) d_Archive_findIllOfEntry_21 ⟨Nat.zero_le _, Nat.zero_le _⟩) hS (fun H locs hH hS => ?_)
      refine lv_aload_n hx hb d_Archive_findIllOfEntry_24 rfl (lv_at hl 1 rfl) ?_
      obtain ⟨v6, e6, h⟩ := fr_bind h
      refine fr_gI hx hb hts in_Row hown hK hH e6 rfl 1 (by decide) (hts _ k_69) (fun _ h9 => h9) rfl d_Archive_findIllOfEntry_25 ?_
      refine lv_icmp_lt (tgt := 36) hx hb d_Archive_findIllOfEntry_28 (by decide) (fun c7 => ?_) (fun c7 => ?_)
      · replace h := fr_ift c7 h
        refine lv_aload_n hx hb d_Archive_findIllOfEntry_36 rfl (lv_at hl 1 rfl) ?_
        refine lv_iload_n hx hb d_Archive_findIllOfEntry_37 rfl (lv_at hl 2 rfl) ?_
        refine lv_iconst (v := 1) hx hb d_Archive_findIllOfEntry_38 (by decide) ?_
        refine lv_iadd hx hb d_Archive_findIllOfEntry_39 ?_
        refine lv_aload_n hx hb d_Archive_findIllOfEntry_40 rfl (lv_at hl 1 rfl) ?_
        refine lv_iload_n hx hb d_Archive_findIllOfEntry_41 rfl (lv_at hl 2 rfl) ?_
        obtain ⟨r8, e8, h⟩ := fr_bind h
        refine fr_calli (fr_Sc (As := [.ref a0, .int x1]) (rest := [.int (x1 + 1), .ref a0]) ⟨hx, hb, hml, hown, hts⟩ (c_Archive_pathEnd l D T A σ a0 x1 r8 e8) k_485 ms_Archive_pathEnd rfl rfl ⟨Nat.le_of_ble_eq_true rfl, Nat.le_of_ble_eq_true rfl⟩ (fr_preS hK hX hH _) rfl hl.1 rfl (Nat.le_of_ble_eq_true rfl) d_Archive_findIllOfEntry_42 ⟨Nat.zero_le _, Nat.zero_le _⟩) hS (fun H locs hH hS => ?_)
        obtain ⟨r9, e9, h⟩ := fr_bind h
        refine fr_calli (fr_Sc (As := [.ref a0, .int (x1 + 1), .int r8]) (rest := []) ⟨hx, hb, hml, hown, hts⟩ (c_Archive_isRightPath l D T A σ a0 ((x1 + 1)) r8 r9 e9) k_488 ms_Archive_isRightPath rfl rfl ⟨Nat.le_of_ble_eq_true rfl, Nat.le_of_ble_eq_true rfl⟩ (fr_preS hK hX hH _) rfl hl.1 rfl (Nat.le_of_ble_eq_true rfl) d_Archive_findIllOfEntry_45 ⟨Nat.zero_le _, Nat.zero_le _⟩) hS (fun H locs hH hS => ?_)
        refine lv_if_ne (tgt := 55) hx hb d_Archive_findIllOfEntry_48 (by decide) (fun c10 => ?_) (fun c10 => ?_)
        · replace h := fr_iff c10 h
          refine lv_aload_n hx hb d_Archive_findIllOfEntry_55 rfl (lv_at hl 1 rfl) ?_
          refine lv_iload_n hx hb d_Archive_findIllOfEntry_56 rfl (lv_at hl 2 rfl) ?_
          obtain ⟨r11, e11, h⟩ := fr_bind h
          refine fr_calli (fr_Sc (As := [.ref a0, .int x1]) (rest := []) ⟨hx, hb, hml, hown, hts⟩ (c_Archive_entryEnd l D T A σ a0 x1 r11 e11) k_497 ms_Archive_entryEnd rfl rfl ⟨Nat.le_of_ble_eq_true rfl, Nat.le_of_ble_eq_true rfl⟩ (fr_preS hK hX hH _) rfl hl.1 rfl (Nat.le_of_ble_eq_true rfl) d_Archive_findIllOfEntry_57 ⟨Nat.zero_le _, Nat.zero_le _⟩) hS (fun H locs hH hS => ?_)
          refine lv_aload_n hx hb d_Archive_findIllOfEntry_60 rfl (lv_at hl 1 rfl) ?_
          obtain ⟨v12, e12, h⟩ := fr_bind h
          refine fr_gI hx hb hts in_Row hown hK hH e12 rfl 1 (by decide) (hts _ k_69) (fun _ h9 => h9) rfl d_Archive_findIllOfEntry_61 ?_
          refine lv_icmp_le (tgt := 74) hx hb d_Archive_findIllOfEntry_64 (by decide) (fun c13 => ?_) (fun c13 => ?_)
          · replace h := fr_ift c13 h
            refine lv_iconst (v := (-1)) hx hb d_Archive_findIllOfEntry_74 (by decide) ?_
            exact fr_iretO hx hb hr hlocks  h hH hK hX hS d_Archive_findIllOfEntry_75
          · replace h := fr_iff c13 h
            refine lv_aload_n hx hb d_Archive_findIllOfEntry_67 rfl (lv_at hl 1 rfl) ?_
            obtain ⟨v14, e14, h⟩ := fr_bind h
            refine fr_gI hx hb hts in_Row hown hK hH e14 rfl 1 (by decide) (hts _ k_69) (fun _ h9 => h9) rfl d_Archive_findIllOfEntry_68 ?_
            refine lv_goto (tgt := 75) hx hb d_Archive_findIllOfEntry_71 (by decide) ?_
            exact fr_iretO hx hb hr hlocks  h hH hK hX hS d_Archive_findIllOfEntry_75
        · replace h := fr_ift c10 h
          refine lv_iload_n hx hb d_Archive_findIllOfEntry_51 rfl (lv_at hl 2 rfl) ?_
          refine lv_iconst (v := 1) hx hb d_Archive_findIllOfEntry_52 (by decide) ?_
          refine lv_iadd hx hb d_Archive_findIllOfEntry_53 ?_
          exact fr_iretO hx hb hr hlocks  h hH hK hX hS d_Archive_findIllOfEntry_54
      · replace h := fr_iff c7 h
        refine lv_aload_n hx hb d_Archive_findIllOfEntry_31 rfl (lv_at hl 1 rfl) ?_
        obtain ⟨v15, e15, h⟩ := fr_bind h
        refine fr_gI hx hb hts in_Row hown hK hH e15 rfl 1 (by decide) (hts _ k_69) (fun _ h9 => h9) rfl d_Archive_findIllOfEntry_32 ?_
        exact fr_iretO hx hb hr hlocks  h hH hK hX hS d_Archive_findIllOfEntry_35
    · replace h := fr_iff c4 h
      refine lv_iload_n hx hb d_Archive_findIllOfEntry_17 rfl (lv_at hl 2 rfl) ?_
      exact fr_iretO hx hb hr hlocks  h hH hK hX hS d_Archive_findIllOfEntry_18
set_option maxHeartbeats 4000000 in
set_option maxRecDepth 100000 in
theorem w_Archive_findIll_L4 {p : Program} {l : Launch} {e : Env} {s : State} {m : MethodId} {args : Array Value} {below : List Frame} {meth : Method} {c : Code} {D : va_G} {T : Nat → ClassId} {A : Nat → Prop} (C0 : fr_At p s m args meth c "FetchRules$Archive" b_Archive_findIll 4 (some .int)) (hK : va_K D vwCl (fr_tys T) s) (hX : fr_X s) :
    ∀ (n : Nat) (b0 : Nat) (y1 : Int32) (y2 : Int32) (σ : fr_S) (r : Int32), m_Archive_findIll_L4 n b0 y1 y2 σ = some r → ∀ (H : Heap) (locs : List Loc), fr_H D T A σ H → va_S A s.heap H locs → ∀ (ls : Array Slot), lv_has ls 4 [(0, .ref b0), (1, .int y1), (2, .int y2)] → W p l e (headSpec (Cond.code y_Archive_findIll b_Archive_findIll 4 (some .int) :: fr_W) ({ frames := 4, cells := 0, slots := 0, locals := 91 } : Room)).room s m args below meth c H locs 0 0 (MQ below (fr_Qi D T A r σ) args s 0 0 A) (F0 m 4 ls []) := by
  obtain ⟨hx, hb, hr, hml, hown, hts, hlocks⟩ := id C0
  intro n
  induction n with
  | zero => intro b0 y1 y2 σ r h; cases h
  | succ n ih =>
    intro b0 y1 y2 σ r h H locs hH hS ls hl
    unfold m_Archive_findIll_L4 at h
    refine lv_iload_n hx hb d_Archive_findIll_4 rfl (lv_at hl 2 rfl) ?_
    refine lv_bipush (v := 100) hx hb d_Archive_findIll_5 (by decide) ?_
    refine lv_icmp_ge (tgt := 43) hx hb d_Archive_findIll_7 (by decide) (fun c1 => ?_) (fun c1 => ?_)
    · replace h := fr_ift c1 h
      refine lv_iconst (v := (-1)) hx hb d_Archive_findIll_43 (by decide) ?_
      exact fr_iretO hx hb hr hlocks  h hH hK hX hS d_Archive_findIll_44
    · replace h := fr_iff c1 h
      refine lv_iload_n hx hb d_Archive_findIll_10 rfl (lv_at hl 1 rfl) ?_
      refine lv_aload_n hx hb d_Archive_findIll_11 rfl (lv_at hl 0 rfl) ?_
      obtain ⟨v2, e2, h⟩ := fr_bind h
      refine fr_gI hx hb hts in_Row hown hK hH e2 rfl 1 (by decide) (hts _ k_69) (fun _ h9 => h9) rfl d_Archive_findIll_12 ?_
      refine lv_icmp_ge (tgt := 43) hx hb d_Archive_findIll_15 (by decide) (fun c3 => ?_) (fun c3 => ?_)
      · replace h := fr_ift c3 h
        refine lv_iconst (v := (-1)) hx hb d_Archive_findIll_43 (by decide) ?_
        exact fr_iretO hx hb hr hlocks  h hH hK hX hS d_Archive_findIll_44
      · replace h := fr_iff c3 h
        refine lv_aload_n hx hb d_Archive_findIll_18 rfl (lv_at hl 0 rfl) ?_
        refine lv_iload_n hx hb d_Archive_findIll_19 rfl (lv_at hl 1 rfl) ?_
        obtain ⟨r4, e4, h⟩ := fr_bind h
        refine fr_calli (fr_Sc (As := [.ref b0, .int y1]) (rest := []) ⟨hx, hb, hml, hown, hts⟩ (c_Archive_findIllOfEntry l D T A σ b0 y1 r4 e4) k_481 ms_Archive_findIllOfEntry rfl rfl ⟨Nat.le_of_ble_eq_true rfl, Nat.le_of_ble_eq_true rfl⟩ (fr_preS hK hX hH _) rfl hl.1 rfl (Nat.le_of_ble_eq_true rfl) d_Archive_findIll_20 ⟨Nat.zero_le _, Nat.zero_le _⟩) hS (fun H locs hH hS => ?_)
        refine lv_istore_n (lv' := [(3, .int r4), (0, .ref b0), (1, .int y1), (2, .int y2)]) hx hb d_Archive_findIll_23 rfl hl (by decide) rfl (fun ls hl => ?_)
        refine lv_iload_n hx hb d_Archive_findIll_24 rfl (lv_at hl 0 rfl) ?_
        refine lv_iconst (v := (-1)) hx hb d_Archive_findIll_25 (by decide) ?_
        refine lv_icmp_eq (tgt := 31) hx hb d_Archive_findIll_26 (by decide) (fun c5 => ?_) (fun c5 => ?_)
        · replace h := fr_ift c5 h
          refine lv_aload_n hx hb d_Archive_findIll_31 rfl (lv_at hl 1 rfl) ?_
          refine lv_iload_n hx hb d_Archive_findIll_32 rfl (lv_at hl 2 rfl) ?_
          obtain ⟨r6, e6, h⟩ := fr_bind h
          refine fr_calli (fr_Sc (As := [.ref b0, .int y1]) (rest := []) ⟨hx, hb, hml, hown, hts⟩ (c_Archive_entryEnd l D T A σ b0 y1 r6 e6) k_497 ms_Archive_entryEnd rfl rfl ⟨Nat.le_of_ble_eq_true rfl, Nat.le_of_ble_eq_true rfl⟩ (fr_preS hK hX hH _) rfl hl.1 rfl (Nat.le_of_ble_eq_true rfl) d_Archive_findIll_33 ⟨Nat.zero_le _, Nat.zero_le _⟩) hS (fun H locs hH hS => ?_)
          refine lv_istore_n (lv' := [(1, .int r6), (3, .int r4), (0, .ref b0), (2, .int y2)]) hx hb d_Archive_findIll_36 rfl hl (by decide) rfl (fun ls hl => ?_)
          refine lv_iinc (v := (y2 + 1)) (lv' := [(2, .int (y2 + 1)), (1, .int r6), (3, .int r4), (0, .ref b0)]) hx hb d_Archive_findIll_37 hl (k := 3) rfl rfl (by decide) rfl (fun ls hl => ?_)
          refine lv_goto (tgt := 4) hx hb d_Archive_findIll_40 (by decide) ?_
          exact ih b0 r6 (y2 + 1) σ r h _ _ hH hS ls (lv_sub hl [3, 1, 0] rfl)
        · replace h := fr_iff c5 h
          refine lv_iload_n hx hb d_Archive_findIll_29 rfl (lv_at hl 0 rfl) ?_
          exact fr_iretO hx hb hr hlocks  h hH hK hX hS d_Archive_findIll_30
set_option maxHeartbeats 4000000 in
set_option maxRecDepth 100000 in
theorem c_Archive_findIll (l : Launch) (D : va_G) (T : Nat → ClassId) (A : Nat → Prop) (σ : fr_S) (a0 : Nat) (r : Int32) (h : m_Archive_findIll a0 σ = some r) : Met l y_Archive_findIll (Cond.code y_Archive_findIll b_Archive_findIll 4 (some .int) :: fr_W) ({ frames := 4, cells := 0, slots := 0, locals := 91 } : Room) (va_Pc [.ref a0] (fr_B D T A σ)) (fr_Qi D T A r σ) 0 0 A := by
  refine Met.ofW (cc := b_Archive_findIll) (maxL := 4) (ret := (some .int)) (by decide) rfl ?_
  intro p e s m args below meth c s₁ B hml hv
  obtain ⟨rfl, hH, hK, hX⟩ := hv
  have C0 : fr_At p s m _ meth c "FetchRules$Archive" b_Archive_findIll 4 (some .int) := fr_at B hml
  obtain ⟨hx, hb, hr, hml, hown, hts, hlocks⟩ := id C0
  have hS : va_S A s.heap s.heap [] := va_S.rf
  have hl := lv_entry ([.ref a0]) (n := 4) (Nat.le_of_ble_eq_true rfl)
  rw [lg_entry_eq]
  generalize (lg_sl ([.ref a0]) ++ List.replicate (4 - (lg_sl ([.ref a0])).length) Slot.unset).toArray = ls at hl ⊢
  have hl : lv_has ls 4 [(0, .ref a0)] := hl
  unfold m_Archive_findIll at h
  refine lv_iconst (v := 0) hx hb d_Archive_findIll_0 (by decide) ?_
  refine lv_istore_n (lv' := [(1, .int 0), (0, .ref a0)]) hx hb d_Archive_findIll_1 rfl hl (by decide) rfl (fun ls hl => ?_)
  refine lv_iconst (v := 0) hx hb d_Archive_findIll_2 (by decide) ?_
  refine lv_istore_n (lv' := [(2, .int 0), (1, .int 0), (0, .ref a0)]) hx hb d_Archive_findIll_3 rfl hl (by decide) rfl (fun ls hl => ?_)
  exact w_Archive_findIll_L4 C0 hK hX 1000 a0 0 0 σ r h _ _ hH hS ls (lv_sub hl [2, 1, 0] rfl)
