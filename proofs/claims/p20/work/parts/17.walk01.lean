set_option maxHeartbeats 4000000 in
set_option maxRecDepth 100000 in
theorem c_Md_want (l : Launch) (D : va_G) (T : Nat → ClassId) (A : Nat → Prop) (σ : fr_S) (h0 : Nat) (x1 : Int32) (r : Int32) (σ1 : fr_S) (h : m_Md_want h0 x1 σ = some (r, σ1)) : Met l y_Md_want (Cond.code y_Md_want b_Md_want 2 (some .int) :: fr_W) ({ frames := 0, cells := 0, slots := 0, locals := 0 } : Room) (va_Pc [.ref h0, .int x1] (fr_B D T A σ)) (fr_Qi D T A r σ1) 0 0 A := by
  refine Met.ofW (cc := b_Md_want) (maxL := 2) (ret := (some .int)) (by decide) rfl ?_
  intro p e s m args below meth c s₁ B hml hv
  obtain ⟨rfl, hH, hK, hX⟩ := hv
  have C0 : fr_At p s m _ meth c "FetchRulesModel" b_Md_want 2 (some .int) := fr_at B hml
  obtain ⟨hx, hb, hr, hml, hown, hts, hlocks⟩ := id C0
  have hS : va_S A s.heap s.heap [] := va_S.rf
  have hl := lv_entry ([.ref h0, .int x1]) (n := 2) (Nat.le_of_ble_eq_true rfl)
  rw [lg_entry_eq]
  generalize (lg_sl ([.ref h0, .int x1]) ++ List.replicate (2 - (lg_sl ([.ref h0, .int x1])).length) Slot.unset).toArray = ls at hl ⊢
  have hl : lv_has ls 2 [(0, .ref h0), (1, .int x1)] := hl
  unfold m_Md_want at h
  refine lv_aload_n hx hb d_Md_want_0 rfl (lv_at hl 0 rfl) ?_
  refine lv_iconst (v := 0) hx hb d_Md_want_1 (by decide) ?_
  obtain ⟨σ_1, e1, h⟩ := fr_bind h
  refine fr_putI hx hb hts in_Md ty_Md tk_Md nm_Md hown hK hH hS e1 rfl 1 (by decide) (hts _ k_541) (fun _ h9 => h9) rfl (by decide +kernel) (fs_0_1 _ _ _) (Nat.le_of_ble_eq_true rfl) d_Md_want_2 (fun H locs hH hS => ?_)
  refine lv_aload_n hx hb d_Md_want_5 rfl (lv_at hl 0 rfl) ?_
  obtain ⟨v2, e2, h⟩ := fr_bind h
  refine fr_gI hx hb hts in_Md hown hK hH e2 rfl 7 (by decide) (hts _ k_547) (fun _ h9 => h9) rfl d_Md_want_6 ?_
  refine lv_bipush (v := 10) hx hb d_Md_want_9 (by decide) ?_
  refine lv_icmp_ne (tgt := 16) hx hb d_Md_want_11 (by decide) (fun c3 => ?_) (fun c3 => ?_)
  · replace h := fr_iff c3 h
    refine lv_aload_n hx hb d_Md_want_16 rfl (lv_at hl 0 rfl) ?_
    obtain ⟨q4, e4, h⟩ := fr_bind h
    refine fr_gP hx hb hts in_Md hown hK hH e4 rfl 22 (by decide) (hts _ k_562) (fun _ h9 => h9) rfl d_Md_want_17 ?_
    refine lv_aload_n hx hb d_Md_want_20 rfl (lv_at hl 0 rfl) ?_
    obtain ⟨v5, e5, h⟩ := fr_bind h
    refine fr_gI hx hb hts in_Md hown hK hH e5 rfl 7 (by decide) (hts _ k_547) (fun _ h9 => h9) rfl d_Md_want_21 ?_
    refine lv_iload_n hx hb d_Md_want_24 rfl (lv_at hl 1 rfl) ?_
    obtain ⟨σ_6, e6, h⟩ := fr_bind h
    refine fr_ist hx hb hK hH hS e6 d_Md_want_25 (fun H locs hH hS => ?_)
    refine lv_aload_n hx hb d_Md_want_26 rfl (lv_at hl 0 rfl) ?_
    refine lv_dup hx hb d_Md_want_27 rfl ?_
    obtain ⟨v7, e7, h⟩ := fr_bind h
    refine fr_gI hx hb hts in_Md hown hK hH e7 rfl 7 (by decide) (hts _ k_547) (fun _ h9 => h9) rfl d_Md_want_28 ?_
    refine lv_iconst (v := 1) hx hb d_Md_want_31 (by decide) ?_
    refine lv_iadd hx hb d_Md_want_32 ?_
    obtain ⟨σ_8, e8, h⟩ := fr_bind h
    refine fr_putI hx hb hts in_Md ty_Md tk_Md nm_Md hown hK hH hS e8 rfl 7 (by decide) (hts _ k_547) (fun _ h9 => h9) rfl (by decide +kernel) (fs_0_7 _ _ _) (Nat.le_of_ble_eq_true rfl) d_Md_want_33 (fun H locs hH hS => ?_)
    refine lv_aload_n hx hb d_Md_want_36 rfl (lv_at hl 0 rfl) ?_
    obtain ⟨v9, e9, h⟩ := fr_bind h
    refine fr_gI hx hb hts in_Md hown hK hH e9 rfl 7 (by decide) (hts _ k_547) (fun _ h9 => h9) rfl d_Md_want_37 ?_
    refine lv_iconst (v := 1) hx hb d_Md_want_40 (by decide) ?_
    refine lv_isub hx hb d_Md_want_41 ?_
    exact fr_iret hx hb hr hlocks  h hH hK hX hS d_Md_want_42
  · replace h := fr_ift c3 h
    refine lv_iconst (v := (-1)) hx hb d_Md_want_14 (by decide) ?_
    exact fr_iret hx hb hr hlocks  h hH hK hX hS d_Md_want_15
set_option maxHeartbeats 4000000 in
set_option maxRecDepth 100000 in
theorem w_Md_from_L45 {p : Program} {l : Launch} {e : Env} {s : State} {m : MethodId} {args : Array Value} {below : List Frame} {meth : Method} {c : Code} {D : va_G} {T : Nat → ClassId} {A : Nat → Prop} (C0 : fr_At p s m args meth c "FetchRulesModel" b_Md_from 4 (some .boolean)) (hK : va_K D vwCl (fr_tys T) s) (hX : fr_X s) :
    ∀ (n : Nat) (b0 : Nat) (y1 : Int32) (y2 : Int32) (y3 : Int32) (σ : fr_S) (r : Int32) (σ1 : fr_S), m_Md_from_L45 n b0 y1 y2 y3 σ = some (r, σ1) → ∀ (H : Heap) (locs : List Loc), fr_H D T A σ H → va_S A s.heap H locs → ∀ (ls : Array Slot), lv_has ls 4 [(0, .ref b0), (1, .int y1), (2, .int y2), (3, .int y3)] → W p l e (headSpec (Cond.code y_Md_from b_Md_from 4 (some .boolean) :: fr_W) ({ frames := 1, cells := 0, slots := 0, locals := 21 } : Room)).room s m args below meth c H locs 0 0 (MQ below (fr_Qi D T A r σ1) args s 0 0 A) (F0 m 45 ls []) := by
  obtain ⟨hx, hb, hr, hml, hown, hts, hlocks⟩ := id C0
  intro n
  induction n with
  | zero => intro b0 y1 y2 y3 σ r σ1 h; cases h
  | succ n ih =>
    intro b0 y1 y2 y3 σ r σ1 h H locs hH hS ls hl
    unfold m_Md_from_L45 at h
    refine lv_iload_n hx hb d_Md_from_45 rfl (lv_at hl 3 rfl) ?_
    refine lv_aload_n hx hb d_Md_from_46 rfl (lv_at hl 0 rfl) ?_
    obtain ⟨q14, e14, h⟩ := fr_bind h
    refine fr_gP hx hb hts in_Md hown hK hH e14 rfl 23 (by decide) (hts _ k_563) (fun _ h9 => h9) rfl d_Md_from_47 ?_
    refine lv_iload_n hx hb d_Md_from_50 rfl (lv_at hl 1 rfl) ?_
    obtain ⟨v15, e15, h⟩ := fr_bind h
    refine fr_ild hx hb hK hH e15 d_Md_from_51 ?_
    refine lv_icmp_ge (tgt := 78) hx hb d_Md_from_52 (by decide) (fun c16 => ?_) (fun c16 => ?_)
    · replace h := fr_ift c16 h
      refine lv_aload_n hx hb d_Md_from_78 rfl (lv_at hl 0 rfl) ?_
      obtain ⟨q17, e17, h⟩ := fr_bind h
      refine fr_gP hx hb hts in_Md hown hK hH e17 rfl 24 (by decide) (hts _ k_564) (fun _ h9 => h9) rfl d_Md_from_79 ?_
      refine lv_bipush (v := 6) hx hb d_Md_from_82 (by decide) ?_
      refine lv_iload_n hx hb d_Md_from_84 rfl (lv_at hl 1 rfl) ?_
      refine lv_imul hx hb d_Md_from_85 ?_
      refine lv_aload_n hx hb d_Md_from_86 rfl (lv_at hl 0 rfl) ?_
      obtain ⟨q18, e18, h⟩ := fr_bind h
      refine fr_gP hx hb hts in_Md hown hK hH e18 rfl 23 (by decide) (hts _ k_563) (fun _ h9 => h9) rfl d_Md_from_87 ?_
      refine lv_iload_n hx hb d_Md_from_90 rfl (lv_at hl 1 rfl) ?_
      obtain ⟨v19, e19, h⟩ := fr_bind h
      refine fr_ild hx hb hK hH e19 d_Md_from_91 ?_
      refine lv_iadd hx hb d_Md_from_92 ?_
      refine lv_iload_n hx hb d_Md_from_93 rfl (lv_at hl 2 rfl) ?_
      obtain ⟨σ_20, e20, h⟩ := fr_bind h
      refine fr_ist hx hb hK hH hS e20 d_Md_from_94 (fun H locs hH hS => ?_)
      refine lv_aload_n hx hb d_Md_from_95 rfl (lv_at hl 0 rfl) ?_
      obtain ⟨q21, e21, h⟩ := fr_bind h
      refine fr_gP hx hb hts in_Md hown hK hH e21 rfl 23 (by decide) (hts _ k_563) (fun _ h9 => h9) rfl d_Md_from_96 ?_
      refine lv_iload_n hx hb d_Md_from_99 rfl (lv_at hl 1 rfl) ?_
      refine lv_dup2_11 hx hb d_Md_from_100 rfl rfl ?_
      obtain ⟨v22, e22, h⟩ := fr_bind h
      refine fr_ild hx hb hK hH e22 d_Md_from_101 ?_
      refine lv_iconst (v := 1) hx hb d_Md_from_102 (by decide) ?_
      refine lv_iadd hx hb d_Md_from_103 ?_
      obtain ⟨σ_23, e23, h⟩ := fr_bind h
      refine fr_ist hx hb hK hH hS e23 d_Md_from_104 (fun H locs hH hS => ?_)
      refine lv_iconst (v := 1) hx hb d_Md_from_105 (by decide) ?_
      exact fr_zret hx hb hr hlocks (Or.inr rfl) h hH hK hX hS d_Md_from_106
    · replace h := fr_iff c16 h
      refine lv_aload_n hx hb d_Md_from_55 rfl (lv_at hl 0 rfl) ?_
      obtain ⟨q24, e24, h⟩ := fr_bind h
      refine fr_gP hx hb hts in_Md hown hK hH e24 rfl 24 (by decide) (hts _ k_564) (fun _ h9 => h9) rfl d_Md_from_56 ?_
      refine lv_bipush (v := 6) hx hb d_Md_from_59 (by decide) ?_
      refine lv_iload_n hx hb d_Md_from_61 rfl (lv_at hl 1 rfl) ?_
      refine lv_imul hx hb d_Md_from_62 ?_
      refine lv_iload_n hx hb d_Md_from_63 rfl (lv_at hl 3 rfl) ?_
      refine lv_iadd hx hb d_Md_from_64 ?_
      obtain ⟨v25, e25, h⟩ := fr_bind h
      refine fr_ild hx hb hK hH e25 d_Md_from_65 ?_
      refine lv_iload_n hx hb d_Md_from_66 rfl (lv_at hl 2 rfl) ?_
      refine lv_icmp_ne (tgt := 72) hx hb d_Md_from_67 (by decide) (fun c26 => ?_) (fun c26 => ?_)
      · replace h := fr_iff c26 h
        refine lv_iinc (v := (y3 + 1)) (lv' := [(3, .int (y3 + 1)), (0, .ref b0), (1, .int y1), (2, .int y2)]) hx hb d_Md_from_72 hl (k := 3) rfl rfl (by decide) rfl (fun ls hl => ?_)
        refine lv_goto (tgt := 45) hx hb d_Md_from_75 (by decide) ?_
        exact ih b0 y1 y2 (y3 + 1) σ r σ1 h _ _ hH hS ls (lv_sub hl [1, 2, 3, 0] rfl)
      · replace h := fr_ift c26 h
        refine lv_iconst (v := 0) hx hb d_Md_from_70 (by decide) ?_
        exact fr_zret hx hb hr hlocks (Or.inl rfl) h hH hK hX hS d_Md_from_71
set_option maxHeartbeats 4000000 in
set_option maxRecDepth 100000 in
theorem c_Md_from (l : Launch) (D : va_G) (T : Nat → ClassId) (A : Nat → Prop) (σ : fr_S) (h0 : Nat) (x1 : Int32) (x2 : Int32) (r : Int32) (σ1 : fr_S) (h : m_Md_from h0 x1 x2 σ = some (r, σ1)) : Met l y_Md_from (Cond.code y_Md_from b_Md_from 4 (some .boolean) :: fr_W) ({ frames := 1, cells := 0, slots := 0, locals := 21 } : Room) (va_Pc [.ref h0, .int x1, .int x2] (fr_B D T A σ)) (fr_Qi D T A r σ1) 0 0 A := by
  refine Met.ofW (cc := b_Md_from) (maxL := 4) (ret := (some .boolean)) (by decide) rfl ?_
  intro p e s m args below meth c s₁ B hml hv
  obtain ⟨rfl, hH, hK, hX⟩ := hv
  have C0 : fr_At p s m _ meth c "FetchRulesModel" b_Md_from 4 (some .boolean) := fr_at B hml
  obtain ⟨hx, hb, hr, hml, hown, hts, hlocks⟩ := id C0
  have hS : va_S A s.heap s.heap [] := va_S.rf
  have hl := lv_entry ([.ref h0, .int x1, .int x2]) (n := 4) (Nat.le_of_ble_eq_true rfl)
  rw [lg_entry_eq]
  generalize (lg_sl ([.ref h0, .int x1, .int x2]) ++ List.replicate (4 - (lg_sl ([.ref h0, .int x1, .int x2])).length) Slot.unset).toArray = ls at hl ⊢
  have hl : lv_has ls 4 [(0, .ref h0), (1, .int x1), (2, .int x2)] := hl
  unfold m_Md_from at h
  refine lv_aload_n hx hb d_Md_from_0 rfl (lv_at hl 0 rfl) ?_
  refine lv_iconst (v := 0) hx hb d_Md_from_1 (by decide) ?_
  obtain ⟨σ_1, e1, h⟩ := fr_bind h
  refine fr_putI hx hb hts in_Md ty_Md tk_Md nm_Md hown hK hH hS e1 rfl 1 (by decide) (hts _ k_541) (fun _ h9 => h9) rfl (by decide +kernel) (fs_0_1 _ _ _) (Nat.le_of_ble_eq_true rfl) d_Md_from_2 (fun H locs hH hS => ?_)
  refine lv_aload_n hx hb d_Md_from_5 rfl (lv_at hl 0 rfl) ?_
  refine lv_iload_n hx hb d_Md_from_6 rfl (lv_at hl 1 rfl) ?_
  obtain ⟨u2, e2, h⟩ := fr_bind h
  obtain ⟨r3, e3, h⟩ := fr_bind h
  refine fr_calli (fr_V (As := [.int x1]) (rest := []) ⟨hx, hb, hml, hown, hts⟩ (c_Md_isWant l D T A σ_1 h0 x1 r3 e3) k_714 mv_Md_isWant rfl rfl ⟨Nat.le_of_ble_eq_true rfl, Nat.le_of_ble_eq_true rfl⟩ (fr_preV hK hX hH e2 rfl _) rfl hl.1 rfl (Nat.le_of_ble_eq_true rfl) d_Md_from_7 ⟨Nat.zero_le _, Nat.zero_le _⟩) hS (fun H locs hH hS => ?_)
  refine lv_if_eq (tgt := 41) hx hb d_Md_from_10 (by decide) (fun c4 => ?_) (fun c4 => ?_)
  · replace h := fr_ift c4 h
    refine lv_iconst (v := 0) hx hb d_Md_from_41 (by decide) ?_
    exact fr_zret hx hb hr hlocks (Or.inl rfl) h hH hK hX hS d_Md_from_42
  · replace h := fr_iff c4 h
    refine lv_aload_n hx hb d_Md_from_13 rfl (lv_at hl 0 rfl) ?_
    refine lv_iload_n hx hb d_Md_from_14 rfl (lv_at hl 2 rfl) ?_
    obtain ⟨u5, e5, h⟩ := fr_bind h
    obtain ⟨r6, e6, h⟩ := fr_bind h
    refine fr_calli (fr_V (As := [.int x2]) (rest := []) ⟨hx, hb, hml, hown, hts⟩ (c_Md_isPlace l D T A σ_1 h0 x2 r6 e6) k_685 mv_Md_isPlace rfl rfl ⟨Nat.le_of_ble_eq_true rfl, Nat.le_of_ble_eq_true rfl⟩ (fr_preV hK hX hH e5 rfl _) rfl hl.1 rfl (Nat.le_of_ble_eq_true rfl) d_Md_from_15 ⟨Nat.zero_le _, Nat.zero_le _⟩) hS (fun H locs hH hS => ?_)
    refine lv_if_eq (tgt := 41) hx hb d_Md_from_18 (by decide) (fun c7 => ?_) (fun c7 => ?_)
    · replace h := fr_ift c7 h
      refine lv_iconst (v := 0) hx hb d_Md_from_41 (by decide) ?_
      exact fr_zret hx hb hr hlocks (Or.inl rfl) h hH hK hX hS d_Md_from_42
    · replace h := fr_iff c7 h
      refine lv_aload_n hx hb d_Md_from_21 rfl (lv_at hl 0 rfl) ?_
      obtain ⟨q8, e8, h⟩ := fr_bind h
      refine fr_gP hx hb hts in_Md hown hK hH e8 rfl 25 (by decide) (hts _ k_565) (fun _ h9 => h9) rfl d_Md_from_22 ?_
      refine lv_iload_n hx hb d_Md_from_25 rfl (lv_at hl 1 rfl) ?_
      obtain ⟨v9, e9, h⟩ := fr_bind h
      refine fr_ild hx hb hK hH e9 d_Md_from_26 ?_
      refine lv_if_ne (tgt := 41) hx hb d_Md_from_27 (by decide) (fun c10 => ?_) (fun c10 => ?_)
      · replace h := fr_iff c10 h
        refine lv_iconst (v := 0) hx hb d_Md_from_41 (by decide) ?_
        exact fr_zret hx hb hr hlocks (Or.inl rfl) h hH hK hX hS d_Md_from_42
      · replace h := fr_ift c10 h
        refine lv_aload_n hx hb d_Md_from_30 rfl (lv_at hl 0 rfl) ?_
        obtain ⟨q11, e11, h⟩ := fr_bind h
        refine fr_gP hx hb hts in_Md hown hK hH e11 rfl 23 (by decide) (hts _ k_563) (fun _ h9 => h9) rfl d_Md_from_31 ?_
        refine lv_iload_n hx hb d_Md_from_34 rfl (lv_at hl 1 rfl) ?_
        obtain ⟨v12, e12, h⟩ := fr_bind h
        refine fr_ild hx hb hK hH e12 d_Md_from_35 ?_
        refine lv_bipush (v := 6) hx hb d_Md_from_36 (by decide) ?_
        refine lv_icmp_ne (tgt := 43) hx hb d_Md_from_38 (by decide) (fun c13 => ?_) (fun c13 => ?_)
        · replace h := fr_iff c13 h
          refine lv_iconst (v := 0) hx hb d_Md_from_43 (by decide) ?_
          refine lv_istore_n (lv' := [(3, .int 0), (0, .ref h0), (1, .int x1), (2, .int x2)]) hx hb d_Md_from_44 rfl hl (by decide) rfl (fun ls hl => ?_)
          exact w_Md_from_L45 C0 hK hX 1000 h0 x1 x2 0 σ_1 r σ1 h _ _ hH hS ls (lv_sub hl [1, 2, 3, 0] rfl)
        · replace h := fr_ift c13 h
          refine lv_iconst (v := 0) hx hb d_Md_from_41 (by decide) ?_
          exact fr_zret hx hb hr hlocks (Or.inl rfl) h hH hK hX hS d_Md_from_42
set_option maxHeartbeats 4000000 in
set_option maxRecDepth 100000 in
theorem c_Md_offLine (l : Launch) (D : va_G) (T : Nat → ClassId) (A : Nat → Prop) (σ : fr_S) (h0 : Nat) (x1 : Int32) (σ1 : fr_S) (h : m_Md_offLine h0 x1 σ = some σ1) : Met l y_Md_offLine (Cond.code y_Md_offLine b_Md_offLine 2 none :: fr_W) ({ frames := 0, cells := 0, slots := 0, locals := 0 } : Room) (va_Pc [.ref h0, .int x1] (fr_B D T A σ)) (fr_Qv D T A σ1) 0 0 A := by
  refine Met.ofW (cc := b_Md_offLine) (maxL := 2) (ret := none) (by decide) rfl ?_
  intro p e s m args below meth c s₁ B hml hv
  obtain ⟨rfl, hH, hK, hX⟩ := hv
  have C0 : fr_At p s m _ meth c "FetchRulesModel" b_Md_offLine 2 none := fr_at B hml
  obtain ⟨hx, hb, hr, hml, hown, hts, hlocks⟩ := id C0
  have hS : va_S A s.heap s.heap [] := va_S.rf
  have hl := lv_entry ([.ref h0, .int x1]) (n := 2) (Nat.le_of_ble_eq_true rfl)
  rw [lg_entry_eq]
  generalize (lg_sl ([.ref h0, .int x1]) ++ List.replicate (2 - (lg_sl ([.ref h0, .int x1])).length) Slot.unset).toArray = ls at hl ⊢
  have hl : lv_has ls 2 [(0, .ref h0), (1, .int x1)] := hl
  unfold m_Md_offLine at h
  refine lv_aload_n hx hb d_Md_offLine_0 rfl (lv_at hl 0 rfl) ?_
  refine lv_iconst (v := 0) hx hb d_Md_offLine_1 (by decide) ?_
  obtain ⟨σ_1, e1, h⟩ := fr_bind h
  refine fr_putI hx hb hts in_Md ty_Md tk_Md nm_Md hown hK hH hS e1 rfl 1 (by decide) (hts _ k_541) (fun _ h9 => h9) rfl (by decide +kernel) (fs_0_1 _ _ _) (Nat.le_of_ble_eq_true rfl) d_Md_offLine_2 (fun H locs hH hS => ?_)
  refine lv_aload_n hx hb d_Md_offLine_5 rfl (lv_at hl 0 rfl) ?_
  refine lv_iload_n hx hb d_Md_offLine_6 rfl (lv_at hl 1 rfl) ?_
  obtain ⟨σ_2, e2, h⟩ := fr_bind h
  refine fr_putZ hx hb hts in_Md ty_Md tk_Md nm_Md hown hK hH hS e2 rfl 3 (by decide) (hts _ k_543) (fun _ h9 => h9) rfl (by decide +kernel) (fs_0_3 _ _ _) (Nat.le_of_ble_eq_true rfl) d_Md_offLine_7 (fun H locs hH hS => ?_)
  refine lv_aload_n hx hb d_Md_offLine_10 rfl (lv_at hl 0 rfl) ?_
  refine lv_iconst (v := 0) hx hb d_Md_offLine_11 (by decide) ?_
  obtain ⟨σ_3, e3, h⟩ := fr_bind h
  refine fr_putI hx hb hts in_Md ty_Md tk_Md nm_Md hown hK hH hS e3 rfl 10 (by decide) (hts _ k_550) (fun _ h9 => h9) rfl (by decide +kernel) (fs_0_10 _ _ _) (Nat.le_of_ble_eq_true rfl) d_Md_offLine_12 (fun H locs hH hS => ?_)
  exact fr_vret hx hb hr hlocks h hH hK hX hS d_Md_offLine_15
set_option maxHeartbeats 4000000 in
set_option maxRecDepth 100000 in
theorem w_Md_keptOf_L4 {p : Program} {l : Launch} {e : Env} {s : State} {m : MethodId} {args : Array Value} {below : List Frame} {meth : Method} {c : Code} {D : va_G} {T : Nat → ClassId} {A : Nat → Prop} (C0 : fr_At p s m args meth c "FetchRulesModel" b_Md_keptOf 4 (some .int)) (hK : va_K D vwCl (fr_tys T) s) (hX : fr_X s) :
    ∀ (n : Nat) (b0 : Nat) (y1 : Int32) (y2 : Int32) (y3 : Int32) (σ : fr_S) (r : Int32), m_Md_keptOf_L4 n b0 y1 y2 y3 σ = some r → ∀ (H : Heap) (locs : List Loc), fr_H D T A σ H → va_S A s.heap H locs → ∀ (ls : Array Slot), lv_has ls 4 [(0, .ref b0), (1, .int y1), (2, .int y2), (3, .int y3)] → W p l e (headSpec (Cond.code y_Md_keptOf b_Md_keptOf 4 (some .int) :: fr_W) ({ frames := 0, cells := 0, slots := 0, locals := 0 } : Room)).room s m args below meth c H locs 0 0 (MQ below (fr_Qi D T A r σ) args s 0 0 A) (F0 m 4 ls []) := by
  obtain ⟨hx, hb, hr, hml, hown, hts, hlocks⟩ := id C0
  intro n
  induction n with
  | zero => intro b0 y1 y2 y3 σ r h; cases h
  | succ n ih =>
    intro b0 y1 y2 y3 σ r h H locs hH hS ls hl
    unfold m_Md_keptOf_L4 at h
    refine lv_iload_n hx hb d_Md_keptOf_4 rfl (lv_at hl 3 rfl) ?_
    refine lv_aload_n hx hb d_Md_keptOf_5 rfl (lv_at hl 0 rfl) ?_
    obtain ⟨v1, e1, h⟩ := fr_bind h
    refine fr_gI hx hb hts in_Md hown hK hH e1 rfl 8 (by decide) (hts _ k_548) (fun _ h9 => h9) rfl d_Md_keptOf_6 ?_
    refine lv_icmp_ge (tgt := 34) hx hb d_Md_keptOf_9 (by decide) (fun c2 => ?_) (fun c2 => ?_)
    · replace h := fr_ift c2 h
      refine lv_iload_n hx hb d_Md_keptOf_34 rfl (lv_at hl 2 rfl) ?_
      exact fr_iretO hx hb hr hlocks  h hH hK hX hS d_Md_keptOf_35
    · replace h := fr_iff c2 h
      refine lv_aload_n hx hb d_Md_keptOf_12 rfl (lv_at hl 0 rfl) ?_
      obtain ⟨q3, e3, h⟩ := fr_bind h
      refine fr_gP hx hb hts in_Md hown hK hH e3 rfl 32 (by decide) (hts _ k_572) (fun _ h9 => h9) rfl d_Md_keptOf_13 ?_
      refine lv_iload_n hx hb d_Md_keptOf_16 rfl (lv_at hl 3 rfl) ?_
      obtain ⟨v4, e4, h⟩ := fr_bind h
      refine fr_ild hx hb hK hH e4 d_Md_keptOf_17 ?_
      refine lv_iload_n hx hb d_Md_keptOf_18 rfl (lv_at hl 1 rfl) ?_
      refine lv_icmp_ne (tgt := 26) hx hb d_Md_keptOf_19 (by decide) (fun c5 => ?_) (fun c5 => ?_)
      · replace h := fr_iff c5 h
        refine lv_iload_n hx hb d_Md_keptOf_26 rfl (lv_at hl 2 rfl) ?_
        refine lv_istore_n (lv' := [(2, .int y2), (0, .ref b0), (1, .int y1), (3, .int y3)]) hx hb d_Md_keptOf_27 rfl hl (by decide) rfl (fun ls hl => ?_)
        refine lv_iinc (v := (y3 + 1)) (lv' := [(3, .int (y3 + 1)), (2, .int y2), (0, .ref b0), (1, .int y1)]) hx hb d_Md_keptOf_28 hl (k := 3) rfl rfl (by decide) rfl (fun ls hl => ?_)
        refine lv_goto (tgt := 4) hx hb d_Md_keptOf_31 (by decide) ?_
        exact ih b0 y1 y2 (y3 + 1) σ r h _ _ hH hS ls (lv_sub hl [2, 3, 1, 0] rfl)
      · replace h := fr_ift c5 h
        refine lv_iload_n hx hb d_Md_keptOf_22 rfl (lv_at hl 3 rfl) ?_
        refine lv_goto (tgt := 27) hx hb d_Md_keptOf_23 (by decide) ?_
        refine lv_istore_n (lv' := [(2, .int y3), (0, .ref b0), (1, .int y1), (3, .int y3)]) hx hb d_Md_keptOf_27 rfl hl (by decide) rfl (fun ls hl => ?_)
        refine lv_iinc (v := (y3 + 1)) (lv' := [(3, .int (y3 + 1)), (2, .int y3), (0, .ref b0), (1, .int y1)]) hx hb d_Md_keptOf_28 hl (k := 3) rfl rfl (by decide) rfl (fun ls hl => ?_)
        refine lv_goto (tgt := 4) hx hb d_Md_keptOf_31 (by decide) ?_
        exact ih b0 y1 y3 (y3 + 1) σ r h _ _ hH hS ls (lv_sub hl [2, 3, 1, 0] rfl)
set_option maxHeartbeats 4000000 in
set_option maxRecDepth 100000 in
theorem c_Md_keptOf (l : Launch) (D : va_G) (T : Nat → ClassId) (A : Nat → Prop) (σ : fr_S) (h0 : Nat) (x1 : Int32) (r : Int32) (h : m_Md_keptOf h0 x1 σ = some r) : Met l y_Md_keptOf (Cond.code y_Md_keptOf b_Md_keptOf 4 (some .int) :: fr_W) ({ frames := 0, cells := 0, slots := 0, locals := 0 } : Room) (va_Pc [.ref h0, .int x1] (fr_B D T A σ)) (fr_Qi D T A r σ) 0 0 A := by
  refine Met.ofW (cc := b_Md_keptOf) (maxL := 4) (ret := (some .int)) (by decide) rfl ?_
  intro p e s m args below meth c s₁ B hml hv
  obtain ⟨rfl, hH, hK, hX⟩ := hv
  have C0 : fr_At p s m _ meth c "FetchRulesModel" b_Md_keptOf 4 (some .int) := fr_at B hml
  obtain ⟨hx, hb, hr, hml, hown, hts, hlocks⟩ := id C0
  have hS : va_S A s.heap s.heap [] := va_S.rf
  have hl := lv_entry ([.ref h0, .int x1]) (n := 4) (Nat.le_of_ble_eq_true rfl)
  rw [lg_entry_eq]
  generalize (lg_sl ([.ref h0, .int x1]) ++ List.replicate (4 - (lg_sl ([.ref h0, .int x1])).length) Slot.unset).toArray = ls at hl ⊢
  have hl : lv_has ls 4 [(0, .ref h0), (1, .int x1)] := hl
  unfold m_Md_keptOf at h
  refine lv_iconst (v := (-1)) hx hb d_Md_keptOf_0 (by decide) ?_
  refine lv_istore_n (lv' := [(2, .int (-1)), (0, .ref h0), (1, .int x1)]) hx hb d_Md_keptOf_1 rfl hl (by decide) rfl (fun ls hl => ?_)
  refine lv_iconst (v := 0) hx hb d_Md_keptOf_2 (by decide) ?_
  refine lv_istore_n (lv' := [(3, .int 0), (2, .int (-1)), (0, .ref h0), (1, .int x1)]) hx hb d_Md_keptOf_3 rfl hl (by decide) rfl (fun ls hl => ?_)
  exact w_Md_keptOf_L4 C0 hK hX 1000 h0 x1 (-1) 0 σ r h _ _ hH hS ls (lv_sub hl [2, 3, 1, 0] rfl)
set_option maxHeartbeats 4000000 in
set_option maxRecDepth 100000 in
theorem w_Md_goOn_L16 {p : Program} {l : Launch} {e : Env} {s : State} {m : MethodId} {args : Array Value} {below : List Frame} {meth : Method} {c : Code} {D : va_G} {T : Nat → ClassId} {A : Nat → Prop} (C0 : fr_At p s m args meth c "FetchRulesModel" b_Md_goOn 4 none) (hK : va_K D vwCl (fr_tys T) s) (hX : fr_X s) :
    ∀ (n : Nat) (b0 : Nat) (y1 : Int32) (y3 : Int32) (σ : fr_S) (σ1 : fr_S), m_Md_goOn_L16 n b0 y1 y3 σ = some σ1 → ∀ (H : Heap) (locs : List Loc), fr_H D T A σ H → va_S A s.heap H locs → ∀ (ls : Array Slot), lv_has ls 4 [(0, .ref b0), (1, .int y1), (3, .int y3)] → W p l e (headSpec (Cond.code y_Md_goOn b_Md_goOn 4 none :: fr_W) ({ frames := 0, cells := 0, slots := 0, locals := 0 } : Room)).room s m args below meth c H locs 0 0 (MQ below (fr_Qv D T A σ1) args s 0 0 A) (F0 m 16 ls []) := by
  obtain ⟨hx, hb, hr, hml, hown, hts, hlocks⟩ := id C0
  intro n
  induction n with
  | zero => intro b0 y1 y3 σ σ1 h; cases h
  | succ n ih =>
    intro b0 y1 y3 σ σ1 h H locs hH hS ls hl
    unfold m_Md_goOn_L16 at h
    refine lv_iload_n hx hb d_Md_goOn_16 rfl (lv_at hl 2 rfl) ?_
    refine lv_aload_n hx hb d_Md_goOn_17 rfl (lv_at hl 0 rfl) ?_
    obtain ⟨q5, e5, h⟩ := fr_bind h
    refine fr_gP hx hb hts in_Md hown hK hH e5 rfl 23 (by decide) (hts _ k_563) (fun _ h9 => h9) rfl d_Md_goOn_18 ?_
    refine lv_iload_n hx hb d_Md_goOn_21 rfl (lv_at hl 1 rfl) ?_
    obtain ⟨v6, e6, h⟩ := fr_bind h
    refine fr_ild hx hb hK hH e6 d_Md_goOn_22 ?_
    refine lv_icmp_ge (tgt := 51) hx hb d_Md_goOn_23 (by decide) (fun c7 => ?_) (fun c7 => ?_)
    · replace h := fr_ift c7 h
      refine lv_aload_n hx hb d_Md_goOn_51 rfl (lv_at hl 0 rfl) ?_
      obtain ⟨q8, e8, h⟩ := fr_bind h
      refine fr_gP hx hb hts in_Md hown hK hH e8 rfl 26 (by decide) (hts _ k_566) (fun _ h9 => h9) rfl d_Md_goOn_52 ?_
      refine lv_iload_n hx hb d_Md_goOn_55 rfl (lv_at hl 1 rfl) ?_
      refine lv_iload_n hx hb d_Md_goOn_56 rfl (lv_at hl 2 rfl) ?_
      obtain ⟨σ_9, e9, h⟩ := fr_bind h
      refine fr_ist hx hb hK hH hS e9 d_Md_goOn_57 (fun H locs hH hS => ?_)
      refine lv_aload_n hx hb d_Md_goOn_58 rfl (lv_at hl 0 rfl) ?_
      obtain ⟨q10, e10, h⟩ := fr_bind h
      refine fr_gP hx hb hts in_Md hown hK hH e10 rfl 25 (by decide) (hts _ k_565) (fun _ h9 => h9) rfl d_Md_goOn_59 ?_
      refine lv_iload_n hx hb d_Md_goOn_62 rfl (lv_at hl 1 rfl) ?_
      refine lv_iload_n hx hb d_Md_goOn_63 rfl (lv_at hl 2 rfl) ?_
      refine lv_aload_n hx hb d_Md_goOn_64 rfl (lv_at hl 0 rfl) ?_
      obtain ⟨q11, e11, h⟩ := fr_bind h
      refine fr_gP hx hb hts in_Md hown hK hH e11 rfl 23 (by decide) (hts _ k_563) (fun _ h9 => h9) rfl d_Md_goOn_65 ?_
      refine lv_iload_n hx hb d_Md_goOn_68 rfl (lv_at hl 1 rfl) ?_
      obtain ⟨v12, e12, h⟩ := fr_bind h
      refine fr_ild hx hb hK hH e12 d_Md_goOn_69 ?_
      refine lv_icmp_ge (tgt := 77) hx hb d_Md_goOn_70 (by decide) (fun c13 => ?_) (fun c13 => ?_)
      · replace h := fr_ift c13 h
        refine lv_iconst (v := 4) hx hb d_Md_goOn_77 (by decide) ?_
        obtain ⟨σ_14, e14, h⟩ := fr_bind h
        refine fr_ist hx hb hK hH hS e14 d_Md_goOn_78 (fun H locs hH hS => ?_)
        exact fr_vret hx hb hr hlocks h hH hK hX hS d_Md_goOn_79
      · replace h := fr_iff c13 h
        refine lv_iconst (v := 1) hx hb d_Md_goOn_73 (by decide) ?_
        refine lv_goto (tgt := 78) hx hb d_Md_goOn_74 (by decide) ?_
        obtain ⟨σ_15, e15, h⟩ := fr_bind h
        refine fr_ist hx hb hK hH hS e15 d_Md_goOn_78 (fun H locs hH hS => ?_)
        exact fr_vret hx hb hr hlocks h hH hK hX hS d_Md_goOn_79
    · replace h := fr_iff c7 h
      refine lv_aload_n hx hb d_Md_goOn_26 rfl (lv_at hl 0 rfl) ?_
      obtain ⟨q16, e16, h⟩ := fr_bind h
      refine fr_gP hx hb hts in_Md hown hK hH e16 rfl 21 (by decide) (hts _ k_561) (fun _ h9 => h9) rfl d_Md_goOn_27 ?_
      refine lv_aload_n hx hb d_Md_goOn_30 rfl (lv_at hl 0 rfl) ?_
      obtain ⟨q17, e17, h⟩ := fr_bind h
      refine fr_gP hx hb hts in_Md hown hK hH e17 rfl 24 (by decide) (hts _ k_564) (fun _ h9 => h9) rfl d_Md_goOn_31 ?_
      refine lv_bipush (v := 6) hx hb d_Md_goOn_34 (by decide) ?_
      refine lv_iload_n hx hb d_Md_goOn_36 rfl (lv_at hl 1 rfl) ?_
      refine lv_imul hx hb d_Md_goOn_37 ?_
      refine lv_iload_n hx hb d_Md_goOn_38 rfl (lv_at hl 2 rfl) ?_
      refine lv_iadd hx hb d_Md_goOn_39 ?_
      obtain ⟨v18, e18, h⟩ := fr_bind h
      refine fr_ild hx hb hK hH e18 d_Md_goOn_40 ?_
      obtain ⟨v19, e19, h⟩ := fr_bind h
      refine fr_zld hx hb hK hH e19 d_Md_goOn_41 ?_
      refine lv_if_eq (tgt := 51) hx hb d_Md_goOn_42 (by decide) (fun c20 => ?_) (fun c20 => ?_)
      · replace h := fr_ift c20 h
        refine lv_aload_n hx hb d_Md_goOn_51 rfl (lv_at hl 0 rfl) ?_
        obtain ⟨q21, e21, h⟩ := fr_bind h
        refine fr_gP hx hb hts in_Md hown hK hH e21 rfl 26 (by decide) (hts _ k_566) (fun _ h9 => h9) rfl d_Md_goOn_52 ?_
        refine lv_iload_n hx hb d_Md_goOn_55 rfl (lv_at hl 1 rfl) ?_
        refine lv_iload_n hx hb d_Md_goOn_56 rfl (lv_at hl 2 rfl) ?_
        obtain ⟨σ_22, e22, h⟩ := fr_bind h
        refine fr_ist hx hb hK hH hS e22 d_Md_goOn_57 (fun H locs hH hS => ?_)
        refine lv_aload_n hx hb d_Md_goOn_58 rfl (lv_at hl 0 rfl) ?_
        obtain ⟨q23, e23, h⟩ := fr_bind h
        refine fr_gP hx hb hts in_Md hown hK hH e23 rfl 25 (by decide) (hts _ k_565) (fun _ h9 => h9) rfl d_Md_goOn_59 ?_
        refine lv_iload_n hx hb d_Md_goOn_62 rfl (lv_at hl 1 rfl) ?_
        refine lv_iload_n hx hb d_Md_goOn_63 rfl (lv_at hl 2 rfl) ?_
        refine lv_aload_n hx hb d_Md_goOn_64 rfl (lv_at hl 0 rfl) ?_
        obtain ⟨q24, e24, h⟩ := fr_bind h
        refine fr_gP hx hb hts in_Md hown hK hH e24 rfl 23 (by decide) (hts _ k_563) (fun _ h9 => h9) rfl d_Md_goOn_65 ?_
        refine lv_iload_n hx hb d_Md_goOn_68 rfl (lv_at hl 1 rfl) ?_
        obtain ⟨v25, e25, h⟩ := fr_bind h
        refine fr_ild hx hb hK hH e25 d_Md_goOn_69 ?_
        refine lv_icmp_ge (tgt := 77) hx hb d_Md_goOn_70 (by decide) (fun c26 => ?_) (fun c26 => ?_)
        · replace h := fr_ift c26 h
          refine lv_iconst (v := 4) hx hb d_Md_goOn_77 (by decide) ?_
          obtain ⟨σ_27, e27, h⟩ := fr_bind h
          refine fr_ist hx hb hK hH hS e27 d_Md_goOn_78 (fun H locs hH hS => ?_)
          exact fr_vret hx hb hr hlocks h hH hK hX hS d_Md_goOn_79
        · replace h := fr_iff c26 h
          refine lv_iconst (v := 1) hx hb d_Md_goOn_73 (by decide) ?_
          refine lv_goto (tgt := 78) hx hb d_Md_goOn_74 (by decide) ?_
          obtain ⟨σ_28, e28, h⟩ := fr_bind h
          refine fr_ist hx hb hK hH hS e28 d_Md_goOn_78 (fun H locs hH hS => ?_)
          exact fr_vret hx hb hr hlocks h hH hK hX hS d_Md_goOn_79
      · replace h := fr_iff c20 h
        refine lv_iinc (v := (y3 + 1)) (lv' := [(3, .int (y3 + 1)), (0, .ref b0), (1, .int y1)]) hx hb d_Md_goOn_45 hl (k := 2) rfl rfl (by decide) rfl (fun ls hl => ?_)
        refine lv_goto (tgt := 16) hx hb d_Md_goOn_48 (by decide) ?_
        exact ih b0 y1 (y3 + 1) σ σ1 h _ _ hH hS ls (lv_sub hl [1, 2, 0] rfl)
set_option maxHeartbeats 4000000 in
set_option maxRecDepth 100000 in
theorem c_Md_goOn (l : Launch) (D : va_G) (T : Nat → ClassId) (A : Nat → Prop) (σ : fr_S) (h0 : Nat) (x1 : Int32) (x2 : Int32) (σ1 : fr_S) (h : m_Md_goOn h0 x1 x2 σ = some σ1) : Met l y_Md_goOn (Cond.code y_Md_goOn b_Md_goOn 4 none :: fr_W) ({ frames := 0, cells := 0, slots := 0, locals := 0 } : Room) (va_Pc [.ref h0, .int x1, .int x2] (fr_B D T A σ)) (fr_Qv D T A σ1) 0 0 A := by
  refine Met.ofW (cc := b_Md_goOn) (maxL := 4) (ret := none) (by decide) rfl ?_
  intro p e s m args below meth c s₁ B hml hv
  obtain ⟨rfl, hH, hK, hX⟩ := hv
  have C0 : fr_At p s m _ meth c "FetchRulesModel" b_Md_goOn 4 none := fr_at B hml
  obtain ⟨hx, hb, hr, hml, hown, hts, hlocks⟩ := id C0
  have hS : va_S A s.heap s.heap [] := va_S.rf
  have hl := lv_entry ([.ref h0, .int x1, .int x2]) (n := 4) (Nat.le_of_ble_eq_true rfl)
  rw [lg_entry_eq]
  generalize (lg_sl ([.ref h0, .int x1, .int x2]) ++ List.replicate (4 - (lg_sl ([.ref h0, .int x1, .int x2])).length) Slot.unset).toArray = ls at hl ⊢
  have hl : lv_has ls 4 [(0, .ref h0), (1, .int x1), (2, .int x2)] := hl
  unfold m_Md_goOn at h
  refine lv_aload_n hx hb d_Md_goOn_0 rfl (lv_at hl 0 rfl) ?_
  obtain ⟨q1, e1, h⟩ := fr_bind h
  refine fr_gP hx hb hts in_Md hown hK hH e1 rfl 27 (by decide) (hts _ k_567) (fun _ h9 => h9) rfl d_Md_goOn_1 ?_
  refine lv_iload_n hx hb d_Md_goOn_4 rfl (lv_at hl 1 rfl) ?_
  refine lv_iconst (v := 0) hx hb d_Md_goOn_5 (by decide) ?_
  obtain ⟨σ_2, e2, h⟩ := fr_bind h
  refine fr_ist hx hb hK hH hS e2 d_Md_goOn_6 (fun H locs hH hS => ?_)
  refine lv_aload_n hx hb d_Md_goOn_7 rfl (lv_at hl 0 rfl) ?_
  obtain ⟨q3, e3, h⟩ := fr_bind h
  refine fr_gP hx hb hts in_Md hown hK hH e3 rfl 31 (by decide) (hts _ k_571) (fun _ h9 => h9) rfl d_Md_goOn_8 ?_
  refine lv_iload_n hx hb d_Md_goOn_11 rfl (lv_at hl 1 rfl) ?_
  refine lv_iconst (v := 0) hx hb d_Md_goOn_12 (by decide) ?_
  obtain ⟨σ_4, e4, h⟩ := fr_bind h
  refine fr_ist hx hb hK hH hS e4 d_Md_goOn_13 (fun H locs hH hS => ?_)
  refine lv_iload_n hx hb d_Md_goOn_14 rfl (lv_at hl 2 rfl) ?_
  refine lv_istore_n (lv' := [(3, .int x2), (0, .ref h0), (1, .int x1), (2, .int x2)]) hx hb d_Md_goOn_15 rfl hl (by decide) rfl (fun ls hl => ?_)
  exact w_Md_goOn_L16 C0 hK hX 1000 h0 x1 x2 σ_4 σ1 h _ _ hH hS ls (lv_sub hl [1, 2, 0] rfl)
set_option maxHeartbeats 4000000 in
set_option maxRecDepth 100000 in
theorem w_Md_tellLack_L4 {p : Program} {l : Launch} {e : Env} {s : State} {m : MethodId} {args : Array Value} {below : List Frame} {meth : Method} {c : Code} {D : va_G} {T : Nat → ClassId} {A : Nat → Prop} (C0 : fr_At p s m args meth c "FetchRulesModel" b_Md_tellLack 4 none) (hK : va_K D vwCl (fr_tys T) s) (hX : fr_X s) :
    ∀ (n : Nat) (b0 : Nat) (y1 : Int32) (y2 : Int32) (y3 : Int32) (σ : fr_S) (σ1 : fr_S), m_Md_tellLack_L4 n b0 y1 y2 y3 σ = some σ1 → ∀ (H : Heap) (locs : List Loc), fr_H D T A σ H → va_S A s.heap H locs → ∀ (ls : Array Slot), lv_has ls 4 [(0, .ref b0), (1, .int y1), (2, .int y2), (3, .int y3)] → W p l e (headSpec (Cond.code y_Md_tellLack b_Md_tellLack 4 none :: fr_W) ({ frames := 0, cells := 0, slots := 0, locals := 0 } : Room)).room s m args below meth c H locs 0 0 (MQ below (fr_Qv D T A σ1) args s 0 0 A) (F0 m 4 ls []) := by
  obtain ⟨hx, hb, hr, hml, hown, hts, hlocks⟩ := id C0
  intro n
  induction n with
  | zero => intro b0 y1 y2 y3 σ σ1 h; cases h
  | succ n ih =>
    intro b0 y1 y2 y3 σ σ1 h H locs hH hS ls hl
    unfold m_Md_tellLack_L4 at h
    refine lv_iload_n hx hb d_Md_tellLack_4 rfl (lv_at hl 3 rfl) ?_
    refine lv_aload_n hx hb d_Md_tellLack_5 rfl (lv_at hl 0 rfl) ?_
    obtain ⟨v1, e1, h⟩ := fr_bind h
    refine fr_gI hx hb hts in_Md hown hK hH e1 rfl 10 (by decide) (hts _ k_550) (fun _ h9 => h9) rfl d_Md_tellLack_6 ?_
    refine lv_icmp_ge (tgt := 38) hx hb d_Md_tellLack_9 (by decide) (fun c2 => ?_) (fun c2 => ?_)
    · replace h := fr_ift c2 h
      refine lv_iload_n hx hb d_Md_tellLack_38 rfl (lv_at hl 2 rfl) ?_
      refine lv_if_eq (tgt := 43) hx hb d_Md_tellLack_39 (by decide) (fun c3 => ?_) (fun c3 => ?_)
      · replace h := fr_ift c3 h
        refine lv_aload_n hx hb d_Md_tellLack_43 rfl (lv_at hl 0 rfl) ?_
        obtain ⟨q4, e4, h⟩ := fr_bind h
        refine fr_gP hx hb hts in_Md hown hK hH e4 rfl 38 (by decide) (hts _ k_578) (fun _ h9 => h9) rfl d_Md_tellLack_44 ?_
        refine lv_aload_n hx hb d_Md_tellLack_47 rfl (lv_at hl 0 rfl) ?_
        obtain ⟨v5, e5, h⟩ := fr_bind h
        refine fr_gI hx hb hts in_Md hown hK hH e5 rfl 10 (by decide) (hts _ k_550) (fun _ h9 => h9) rfl d_Md_tellLack_48 ?_
        refine lv_iload_n hx hb d_Md_tellLack_51 rfl (lv_at hl 1 rfl) ?_
        obtain ⟨σ_6, e6, h⟩ := fr_bind h
        refine fr_ist hx hb hK hH hS e6 d_Md_tellLack_52 (fun H locs hH hS => ?_)
        refine lv_aload_n hx hb d_Md_tellLack_53 rfl (lv_at hl 0 rfl) ?_
        refine lv_dup hx hb d_Md_tellLack_54 rfl ?_
        obtain ⟨v7, e7, h⟩ := fr_bind h
        refine fr_gI hx hb hts in_Md hown hK hH e7 rfl 10 (by decide) (hts _ k_550) (fun _ h9 => h9) rfl d_Md_tellLack_55 ?_
        refine lv_iconst (v := 1) hx hb d_Md_tellLack_58 (by decide) ?_
        refine lv_iadd hx hb d_Md_tellLack_59 ?_
        obtain ⟨σ_8, e8, h⟩ := fr_bind h
        refine fr_putI hx hb hts in_Md ty_Md tk_Md nm_Md hown hK hH hS e8 rfl 10 (by decide) (hts _ k_550) (fun _ h9 => h9) rfl (by decide +kernel) (fs_0_10 _ _ _) (Nat.le_of_ble_eq_true rfl) d_Md_tellLack_60 (fun H locs hH hS => ?_)
        exact fr_vret hx hb hr hlocks h hH hK hX hS d_Md_tellLack_63
      · replace h := fr_iff c3 h
        exact fr_vret hx hb hr hlocks h hH hK hX hS d_Md_tellLack_42
    · replace h := fr_iff c2 h
      refine lv_iload_n hx hb d_Md_tellLack_12 rfl (lv_at hl 2 rfl) ?_
      refine lv_if_ne (tgt := 26) hx hb d_Md_tellLack_13 (by decide) (fun c9 => ?_) (fun c9 => ?_)
      · replace h := fr_iff c9 h
        refine lv_iconst (v := 1) hx hb d_Md_tellLack_26 (by decide) ?_
        refine lv_goto (tgt := 31) hx hb d_Md_tellLack_27 (by decide) ?_
        refine lv_istore_n (lv' := [(2, .int 1), (0, .ref b0), (1, .int y1), (3, .int y3)]) hx hb d_Md_tellLack_31 rfl hl (by decide) rfl (fun ls hl => ?_)
        refine lv_iinc (v := (y3 + 1)) (lv' := [(3, .int (y3 + 1)), (2, .int 1), (0, .ref b0), (1, .int y1)]) hx hb d_Md_tellLack_32 hl (k := 3) rfl rfl (by decide) rfl (fun ls hl => ?_)
        refine lv_goto (tgt := 4) hx hb d_Md_tellLack_35 (by decide) ?_
        exact ih b0 y1 1 (y3 + 1) σ σ1 h _ _ hH hS ls (lv_sub hl [2, 3, 1, 0] rfl)
      · replace h := fr_ift c9 h
        refine lv_aload_n hx hb d_Md_tellLack_16 rfl (lv_at hl 0 rfl) ?_
        obtain ⟨q10, e10, h⟩ := fr_bind h
        refine fr_gP hx hb hts in_Md hown hK hH e10 rfl 38 (by decide) (hts _ k_578) (fun _ h9 => h9) rfl d_Md_tellLack_17 ?_
        refine lv_iload_n hx hb d_Md_tellLack_20 rfl (lv_at hl 3 rfl) ?_
        obtain ⟨v11, e11, h⟩ := fr_bind h
        refine fr_ild hx hb hK hH e11 d_Md_tellLack_21 ?_
        refine lv_iload_n hx hb d_Md_tellLack_22 rfl (lv_at hl 1 rfl) ?_
        refine lv_icmp_ne (tgt := 30) hx hb d_Md_tellLack_23 (by decide) (fun c12 => ?_) (fun c12 => ?_)
        · replace h := fr_iff c12 h
          refine lv_iconst (v := 0) hx hb d_Md_tellLack_30 (by decide) ?_
          refine lv_istore_n (lv' := [(2, .int 0), (0, .ref b0), (1, .int y1), (3, .int y3)]) hx hb d_Md_tellLack_31 rfl hl (by decide) rfl (fun ls hl => ?_)
          refine lv_iinc (v := (y3 + 1)) (lv' := [(3, .int (y3 + 1)), (2, .int 0), (0, .ref b0), (1, .int y1)]) hx hb d_Md_tellLack_32 hl (k := 3) rfl rfl (by decide) rfl (fun ls hl => ?_)
          refine lv_goto (tgt := 4) hx hb d_Md_tellLack_35 (by decide) ?_
          exact ih b0 y1 0 (y3 + 1) σ σ1 h _ _ hH hS ls (lv_sub hl [2, 3, 1, 0] rfl)
        · replace h := fr_ift c12 h
          refine lv_iconst (v := 1) hx hb d_Md_tellLack_26 (by decide) ?_
          refine lv_goto (tgt := 31) hx hb d_Md_tellLack_27 (by decide) ?_
          refine lv_istore_n (lv' := [(2, .int 1), (0, .ref b0), (1, .int y1), (3, .int y3)]) hx hb d_Md_tellLack_31 rfl hl (by decide) rfl (fun ls hl => ?_)
          refine lv_iinc (v := (y3 + 1)) (lv' := [(3, .int (y3 + 1)), (2, .int 1), (0, .ref b0), (1, .int y1)]) hx hb d_Md_tellLack_32 hl (k := 3) rfl rfl (by decide) rfl (fun ls hl => ?_)
          refine lv_goto (tgt := 4) hx hb d_Md_tellLack_35 (by decide) ?_
          exact ih b0 y1 1 (y3 + 1) σ σ1 h _ _ hH hS ls (lv_sub hl [2, 3, 1, 0] rfl)
set_option maxHeartbeats 4000000 in
set_option maxRecDepth 100000 in
theorem c_Md_tellLack (l : Launch) (D : va_G) (T : Nat → ClassId) (A : Nat → Prop) (σ : fr_S) (h0 : Nat) (x1 : Int32) (σ1 : fr_S) (h : m_Md_tellLack h0 x1 σ = some σ1) : Met l y_Md_tellLack (Cond.code y_Md_tellLack b_Md_tellLack 4 none :: fr_W) ({ frames := 0, cells := 0, slots := 0, locals := 0 } : Room) (va_Pc [.ref h0, .int x1] (fr_B D T A σ)) (fr_Qv D T A σ1) 0 0 A := by
  refine Met.ofW (cc := b_Md_tellLack) (maxL := 4) (ret := none) (by decide) rfl ?_
  intro p e s m args below meth c s₁ B hml hv
  obtain ⟨rfl, hH, hK, hX⟩ := hv
  have C0 : fr_At p s m _ meth c "FetchRulesModel" b_Md_tellLack 4 none := fr_at B hml
  obtain ⟨hx, hb, hr, hml, hown, hts, hlocks⟩ := id C0
  have hS : va_S A s.heap s.heap [] := va_S.rf
  have hl := lv_entry ([.ref h0, .int x1]) (n := 4) (Nat.le_of_ble_eq_true rfl)
  rw [lg_entry_eq]
  generalize (lg_sl ([.ref h0, .int x1]) ++ List.replicate (4 - (lg_sl ([.ref h0, .int x1])).length) Slot.unset).toArray = ls at hl ⊢
  have hl : lv_has ls 4 [(0, .ref h0), (1, .int x1)] := hl
  unfold m_Md_tellLack at h
  refine lv_iconst (v := 0) hx hb d_Md_tellLack_0 (by decide) ?_
  refine lv_istore_n (lv' := [(2, .int 0), (0, .ref h0), (1, .int x1)]) hx hb d_Md_tellLack_1 rfl hl (by decide) rfl (fun ls hl => ?_)
  refine lv_iconst (v := 0) hx hb d_Md_tellLack_2 (by decide) ?_
  refine lv_istore_n (lv' := [(3, .int 0), (2, .int 0), (0, .ref h0), (1, .int x1)]) hx hb d_Md_tellLack_3 rfl hl (by decide) rfl (fun ls hl => ?_)
  exact w_Md_tellLack_L4 C0 hK hX 1000 h0 x1 0 0 σ σ1 h _ _ hH hS ls (lv_sub hl [2, 3, 1, 0] rfl)
set_option maxHeartbeats 4000000 in
set_option maxRecDepth 100000 in
theorem w_Md_begin_L65 {p : Program} {l : Launch} {e : Env} {s : State} {m : MethodId} {args : Array Value} {below : List Frame} {meth : Method} {c : Code} {D : va_G} {T : Nat → ClassId} {A : Nat → Prop} (C0 : fr_At p s m args meth c "FetchRulesModel" b_Md_begin 4 (some .int)) (hK : va_K D vwCl (fr_tys T) s) (hX : fr_X s) :
    ∀ (n : Nat) (b0 : Nat) (y1 : Int32) (y2 : Int32) (y3 : Int32) (σ : fr_S) (r : Int32) (σ1 : fr_S), m_Md_begin_L65 n b0 y1 y2 y3 σ = some (r, σ1) → ∀ (H : Heap) (locs : List Loc), fr_H D T A σ H → va_S A s.heap H locs → ∀ (ls : Array Slot), lv_has ls 4 [(0, .ref b0), (1, .int y1), (2, .int y2), (3, .int y3)] → W p l e (headSpec (Cond.code y_Md_begin b_Md_begin 4 (some .int) :: fr_W) ({ frames := 1, cells := 0, slots := 0, locals := 23 } : Room)).room s m args below meth c H locs 0 0 (MQ below (fr_Qi D T A r σ1) args s 0 0 A) (F0 m 65 ls []) := by
  obtain ⟨hx, hb, hr, hml, hown, hts, hlocks⟩ := id C0
  intro n
  induction n with
  | zero => intro b0 y1 y2 y3 σ r σ1 h; cases h
  | succ n ih =>
    intro b0 y1 y2 y3 σ r σ1 h H locs hH hS ls hl
    unfold m_Md_begin_L65 at h
    refine lv_iload_n hx hb d_Md_begin_65 rfl (lv_at hl 3 rfl) ?_
    refine lv_aload_n hx hb d_Md_begin_66 rfl (lv_at hl 0 rfl) ?_
    obtain ⟨q34, e34, h⟩ := fr_bind h
    refine fr_gP hx hb hts in_Md hown hK hH e34 rfl 27 (by decide) (hts _ k_567) (fun _ h9 => h9) rfl d_Md_begin_67 ?_
    refine lv_iload_n hx hb d_Md_begin_70 rfl (lv_at hl 1 rfl) ?_
    obtain ⟨v35, e35, h⟩ := fr_bind h
    refine fr_ild hx hb hK hH e35 d_Md_begin_71 ?_
    refine lv_icmp_ge (tgt := 103) hx hb d_Md_begin_72 (by decide) (fun c36 => ?_) (fun c36 => ?_)
    · replace h := fr_ift c36 h
      refine lv_aload_n hx hb d_Md_begin_103 rfl (lv_at hl 0 rfl) ?_
      obtain ⟨q37, e37, h⟩ := fr_bind h
      refine fr_gP hx hb hts in_Md hown hK hH e37 rfl 25 (by decide) (hts _ k_565) (fun _ h9 => h9) rfl d_Md_begin_104 ?_
      refine lv_iload_n hx hb d_Md_begin_107 rfl (lv_at hl 1 rfl) ?_
      refine lv_iconst (v := 3) hx hb d_Md_begin_108 (by decide) ?_
      obtain ⟨σ_38, e38, h⟩ := fr_bind h
      refine fr_ist hx hb hK hH hS e38 d_Md_begin_109 (fun H locs hH hS => ?_)
      refine lv_goto (tgt := 148) hx hb d_Md_begin_110 (by decide) ?_
      refine lv_aload_n hx hb d_Md_begin_148 rfl (lv_at hl 0 rfl) ?_
      obtain ⟨q39, e39, h⟩ := fr_bind h
      refine fr_gP hx hb hts in_Md hown hK hH e39 rfl 25 (by decide) (hts _ k_565) (fun _ h9 => h9) rfl d_Md_begin_149 ?_
      refine lv_iload_n hx hb d_Md_begin_152 rfl (lv_at hl 1 rfl) ?_
      obtain ⟨v40, e40, h⟩ := fr_bind h
      refine fr_ild hx hb hK hH e40 d_Md_begin_153 ?_
      exact fr_iret hx hb hr hlocks  h hH hK hX hS d_Md_begin_154
    · replace h := fr_iff c36 h
      refine lv_aload_n hx hb d_Md_begin_75 rfl (lv_at hl 0 rfl) ?_
      obtain ⟨q41, e41, h⟩ := fr_bind h
      refine fr_gP hx hb hts in_Md hown hK hH e41 rfl 28 (by decide) (hts _ k_568) (fun _ h9 => h9) rfl d_Md_begin_76 ?_
      refine lv_bipush (v := 100) hx hb d_Md_begin_79 (by decide) ?_
      refine lv_iload_n hx hb d_Md_begin_81 rfl (lv_at hl 1 rfl) ?_
      refine lv_imul hx hb d_Md_begin_82 ?_
      refine lv_iload_n hx hb d_Md_begin_83 rfl (lv_at hl 3 rfl) ?_
      refine lv_iadd hx hb d_Md_begin_84 ?_
      refine lv_aload_n hx hb d_Md_begin_85 rfl (lv_at hl 0 rfl) ?_
      obtain ⟨q42, e42, h⟩ := fr_bind h
      refine fr_gP hx hb hts in_Md hown hK hH e42 rfl 34 (by decide) (hts _ k_574) (fun _ h9 => h9) rfl d_Md_begin_86 ?_
      refine lv_bipush (v := 100) hx hb d_Md_begin_89 (by decide) ?_
      refine lv_iload_n hx hb d_Md_begin_91 rfl (lv_at hl 2 rfl) ?_
      refine lv_imul hx hb d_Md_begin_92 ?_
      refine lv_iload_n hx hb d_Md_begin_93 rfl (lv_at hl 3 rfl) ?_
      refine lv_iadd hx hb d_Md_begin_94 ?_
      obtain ⟨v43, e43, h⟩ := fr_bind h
      refine fr_ild hx hb hK hH e43 d_Md_begin_95 ?_
      obtain ⟨σ_44, e44, h⟩ := fr_bind h
      refine fr_ist hx hb hK hH hS e44 d_Md_begin_96 (fun H locs hH hS => ?_)
      refine lv_iinc (v := (y3 + 1)) (lv' := [(3, .int (y3 + 1)), (0, .ref b0), (1, .int y1), (2, .int y2)]) hx hb d_Md_begin_97 hl (k := 3) rfl rfl (by decide) rfl (fun ls hl => ?_)
      refine lv_goto (tgt := 65) hx hb d_Md_begin_100 (by decide) ?_
      exact ih b0 y1 y2 (y3 + 1) σ_44 r σ1 h _ _ hH hS ls (lv_sub hl [1, 2, 3, 0] rfl)
set_option maxHeartbeats 4000000 in
set_option maxRecDepth 100000 in
theorem c_Md_begin (l : Launch) (D : va_G) (T : Nat → ClassId) (A : Nat → Prop) (σ : fr_S) (h0 : Nat) (x1 : Int32) (r : Int32) (σ1 : fr_S) (h : m_Md_begin h0 x1 σ = some (r, σ1)) : Met l y_Md_begin (Cond.code y_Md_begin b_Md_begin 4 (some .int) :: fr_W) ({ frames := 1, cells := 0, slots := 0, locals := 23 } : Room) (va_Pc [.ref h0, .int x1] (fr_B D T A σ)) (fr_Qi D T A r σ1) 0 0 A := by
  refine Met.ofW (cc := b_Md_begin) (maxL := 4) (ret := (some .int)) (by decide) rfl ?_
  intro p e s m args below meth c s₁ B hml hv
  obtain ⟨rfl, hH, hK, hX⟩ := hv
  have C0 : fr_At p s m _ meth c "FetchRulesModel" b_Md_begin 4 (some .int) := fr_at B hml
  obtain ⟨hx, hb, hr, hml, hown, hts, hlocks⟩ := id C0
  have hS : va_S A s.heap s.heap [] := va_S.rf
  have hl := lv_entry ([.ref h0, .int x1]) (n := 4) (Nat.le_of_ble_eq_true rfl)
  rw [lg_entry_eq]
  generalize (lg_sl ([.ref h0, .int x1]) ++ List.replicate (4 - (lg_sl ([.ref h0, .int x1])).length) Slot.unset).toArray = ls at hl ⊢
  have hl : lv_has ls 4 [(0, .ref h0), (1, .int x1)] := hl
  unfold m_Md_begin at h
  refine lv_aload_n hx hb d_Md_begin_0 rfl (lv_at hl 0 rfl) ?_
  refine lv_iconst (v := 0) hx hb d_Md_begin_1 (by decide) ?_
  obtain ⟨σ_1, e1, h⟩ := fr_bind h
  refine fr_putI hx hb hts in_Md ty_Md tk_Md nm_Md hown hK hH hS e1 rfl 1 (by decide) (hts _ k_541) (fun _ h9 => h9) rfl (by decide +kernel) (fs_0_1 _ _ _) (Nat.le_of_ble_eq_true rfl) d_Md_begin_2 (fun H locs hH hS => ?_)
  refine lv_aload_n hx hb d_Md_begin_5 rfl (lv_at hl 0 rfl) ?_
  refine lv_iload_n hx hb d_Md_begin_6 rfl (lv_at hl 1 rfl) ?_
  obtain ⟨u2, e2, h⟩ := fr_bind h
  obtain ⟨r3, e3, h⟩ := fr_bind h
  refine fr_calli (fr_V (As := [.int x1]) (rest := []) ⟨hx, hb, hml, hown, hts⟩ (c_Md_isWant l D T A σ_1 h0 x1 r3 e3) k_714 mv_Md_isWant rfl rfl ⟨Nat.le_of_ble_eq_true rfl, Nat.le_of_ble_eq_true rfl⟩ (fr_preV hK hX hH e2 rfl _) rfl hl.1 rfl (Nat.le_of_ble_eq_true rfl) d_Md_begin_7 ⟨Nat.zero_le _, Nat.zero_le _⟩) hS (fun H locs hH hS => ?_)
  refine lv_if_eq (tgt := 33) hx hb d_Md_begin_10 (by decide) (fun c4 => ?_) (fun c4 => ?_)
  · replace h := fr_ift c4 h
    refine lv_iconst (v := (-1)) hx hb d_Md_begin_33 (by decide) ?_
    exact fr_iret hx hb hr hlocks  h hH hK hX hS d_Md_begin_34
  · replace h := fr_iff c4 h
    refine lv_aload_n hx hb d_Md_begin_13 rfl (lv_at hl 0 rfl) ?_
    obtain ⟨q5, e5, h⟩ := fr_bind h
    refine fr_gP hx hb hts in_Md hown hK hH e5 rfl 25 (by decide) (hts _ k_565) (fun _ h9 => h9) rfl d_Md_begin_14 ?_
    refine lv_iload_n hx hb d_Md_begin_17 rfl (lv_at hl 1 rfl) ?_
    obtain ⟨v6, e6, h⟩ := fr_bind h
    refine fr_ild hx hb hK hH e6 d_Md_begin_18 ?_
    refine lv_iconst (v := 1) hx hb d_Md_begin_19 (by decide) ?_
    refine lv_icmp_eq (tgt := 33) hx hb d_Md_begin_20 (by decide) (fun c7 => ?_) (fun c7 => ?_)
    · replace h := fr_ift c7 h
      refine lv_iconst (v := (-1)) hx hb d_Md_begin_33 (by decide) ?_
      exact fr_iret hx hb hr hlocks  h hH hK hX hS d_Md_begin_34
    · replace h := fr_iff c7 h
      refine lv_aload_n hx hb d_Md_begin_23 rfl (lv_at hl 0 rfl) ?_
      obtain ⟨q8, e8, h⟩ := fr_bind h
      refine fr_gP hx hb hts in_Md hown hK hH e8 rfl 25 (by decide) (hts _ k_565) (fun _ h9 => h9) rfl d_Md_begin_24 ?_
      refine lv_iload_n hx hb d_Md_begin_27 rfl (lv_at hl 1 rfl) ?_
      obtain ⟨v9, e9, h⟩ := fr_bind h
      refine fr_ild hx hb hK hH e9 d_Md_begin_28 ?_
      refine lv_iconst (v := 2) hx hb d_Md_begin_29 (by decide) ?_
      refine lv_icmp_ne (tgt := 35) hx hb d_Md_begin_30 (by decide) (fun c10 => ?_) (fun c10 => ?_)
      · replace h := fr_iff c10 h
        refine lv_aload_n hx hb d_Md_begin_35 rfl (lv_at hl 0 rfl) ?_
        refine lv_aload_n hx hb d_Md_begin_36 rfl (lv_at hl 0 rfl) ?_
        obtain ⟨q11, e11, h⟩ := fr_bind h
        refine fr_gP hx hb hts in_Md hown hK hH e11 rfl 22 (by decide) (hts _ k_562) (fun _ h9 => h9) rfl d_Md_begin_37 ?_
        refine lv_iload_n hx hb d_Md_begin_40 rfl (lv_at hl 1 rfl) ?_
        obtain ⟨v12, e12, h⟩ := fr_bind h
        refine fr_ild hx hb hK hH e12 d_Md_begin_41 ?_
        obtain ⟨u13, e13, h⟩ := fr_bind h
        obtain ⟨r14, e14, h⟩ := fr_bind h
        refine fr_calli (fr_V (As := [.int v12]) (rest := []) ⟨hx, hb, hml, hown, hts⟩ (c_Md_keptOf l D T A σ_1 h0 v12 r14 e14) k_726 mv_Md_keptOf rfl rfl ⟨Nat.le_of_ble_eq_true rfl, Nat.le_of_ble_eq_true rfl⟩ (fr_preV hK hX hH e13 rfl _) rfl hl.1 rfl (Nat.le_of_ble_eq_true rfl) d_Md_begin_42 ⟨Nat.zero_le _, Nat.zero_le _⟩) hS (fun H locs hH hS => ?_)
        refine lv_istore_n (lv' := [(2, .int r14), (0, .ref h0), (1, .int x1)]) hx hb d_Md_begin_45 rfl hl (by decide) rfl (fun ls hl => ?_)
        refine lv_iload_n hx hb d_Md_begin_46 rfl (lv_at hl 0 rfl) ?_
        refine lv_iconst (v := (-1)) hx hb d_Md_begin_47 (by decide) ?_
        refine lv_icmp_eq (tgt := 113) hx hb d_Md_begin_48 (by decide) (fun c15 => ?_) (fun c15 => ?_)
        · replace h := fr_ift c15 h
          refine lv_aload_n hx hb d_Md_begin_113 rfl (lv_at hl 1 rfl) ?_
          obtain ⟨v16, e16, h⟩ := fr_bind h
          refine fr_gI hx hb hts in_Md hown hK hH e16 rfl 3 (by decide) (hts _ k_543) (fun _ h9 => h9) rfl d_Md_begin_114 ?_
          refine lv_if_eq (tgt := 142) hx hb d_Md_begin_117 (by decide) (fun c17 => ?_) (fun c17 => ?_)
          · replace h := fr_ift c17 h
            refine lv_aload_n hx hb d_Md_begin_142 rfl (lv_at hl 1 rfl) ?_
            refine lv_iload_n hx hb d_Md_begin_143 rfl (lv_at hl 2 rfl) ?_
            refine lv_iconst (v := 0) hx hb d_Md_begin_144 (by decide) ?_
            obtain ⟨u18, e18, h⟩ := fr_bind h
            obtain ⟨σ_19, e19, h⟩ := fr_bind h
            refine fr_callv (fr_V (As := [.int x1, .int 0]) (rest := []) ⟨hx, hb, hml, hown, hts⟩ (c_Md_goOn l D T A σ_1 h0 x1 0 σ_19 e19) k_734 mv_Md_goOn rfl rfl ⟨Nat.le_of_ble_eq_true rfl, Nat.le_of_ble_eq_true rfl⟩ (fr_preV hK hX hH e18 rfl _) rfl hl.1 rfl (Nat.le_of_ble_eq_true rfl) d_Md_begin_145 ⟨Nat.zero_le _, Nat.zero_le _⟩) hS (fun H locs hH hS => ?_)
            refine lv_aload_n hx hb d_Md_begin_148 rfl (lv_at hl 1 rfl) ?_
            obtain ⟨q20, e20, h⟩ := fr_bind h
            refine fr_gP hx hb hts in_Md hown hK hH e20 rfl 25 (by decide) (hts _ k_565) (fun _ h9 => h9) rfl d_Md_begin_149 ?_
            refine lv_iload_n hx hb d_Md_begin_152 rfl (lv_at hl 2 rfl) ?_
            obtain ⟨v21, e21, h⟩ := fr_bind h
            refine fr_ild hx hb hK hH e21 d_Md_begin_153 ?_
            exact fr_iret hx hb hr hlocks  h hH hK hX hS d_Md_begin_154
          · replace h := fr_iff c17 h
            refine lv_aload_n hx hb d_Md_begin_120 rfl (lv_at hl 1 rfl) ?_
            obtain ⟨q22, e22, h⟩ := fr_bind h
            refine fr_gP hx hb hts in_Md hown hK hH e22 rfl 27 (by decide) (hts _ k_567) (fun _ h9 => h9) rfl d_Md_begin_121 ?_
            refine lv_iload_n hx hb d_Md_begin_124 rfl (lv_at hl 2 rfl) ?_
            refine lv_iconst (v := 0) hx hb d_Md_begin_125 (by decide) ?_
            obtain ⟨σ_23, e23, h⟩ := fr_bind h
            refine fr_ist hx hb hK hH hS e23 d_Md_begin_126 (fun H locs hH hS => ?_)
            refine lv_aload_n hx hb d_Md_begin_127 rfl (lv_at hl 1 rfl) ?_
            obtain ⟨q24, e24, h⟩ := fr_bind h
            refine fr_gP hx hb hts in_Md hown hK hH e24 rfl 25 (by decide) (hts _ k_565) (fun _ h9 => h9) rfl d_Md_begin_128 ?_
            refine lv_iload_n hx hb d_Md_begin_131 rfl (lv_at hl 2 rfl) ?_
            refine lv_iconst (v := 4) hx hb d_Md_begin_132 (by decide) ?_
            obtain ⟨σ_25, e25, h⟩ := fr_bind h
            refine fr_ist hx hb hK hH hS e25 d_Md_begin_133 (fun H locs hH hS => ?_)
            refine lv_aload_n hx hb d_Md_begin_134 rfl (lv_at hl 1 rfl) ?_
            refine lv_iload_n hx hb d_Md_begin_135 rfl (lv_at hl 2 rfl) ?_
            obtain ⟨u26, e26, h⟩ := fr_bind h
            obtain ⟨σ_27, e27, h⟩ := fr_bind h
            refine fr_callv (fr_V (As := [.int x1]) (rest := []) ⟨hx, hb, hml, hown, hts⟩ (c_Md_tellLack l D T A σ_25 h0 x1 σ_27 e27) k_730 mv_Md_tellLack rfl rfl ⟨Nat.le_of_ble_eq_true rfl, Nat.le_of_ble_eq_true rfl⟩ (fr_preV hK hX hH e26 rfl _) rfl hl.1 rfl (Nat.le_of_ble_eq_true rfl) d_Md_begin_136 ⟨Nat.zero_le _, Nat.zero_le _⟩) hS (fun H locs hH hS => ?_)
            refine lv_goto (tgt := 148) hx hb d_Md_begin_139 (by decide) ?_
            refine lv_aload_n hx hb d_Md_begin_148 rfl (lv_at hl 1 rfl) ?_
            obtain ⟨q28, e28, h⟩ := fr_bind h
            refine fr_gP hx hb hts in_Md hown hK hH e28 rfl 25 (by decide) (hts _ k_565) (fun _ h9 => h9) rfl d_Md_begin_149 ?_
            refine lv_iload_n hx hb d_Md_begin_152 rfl (lv_at hl 2 rfl) ?_
            obtain ⟨v29, e29, h⟩ := fr_bind h
            refine fr_ild hx hb hK hH e29 d_Md_begin_153 ?_
            exact fr_iret hx hb hr hlocks  h hH hK hX hS d_Md_begin_154
        · replace h := fr_iff c15 h
          refine lv_aload_n hx hb d_Md_begin_51 rfl (lv_at hl 1 rfl) ?_
          obtain ⟨q30, e30, h⟩ := fr_bind h
          refine fr_gP hx hb hts in_Md hown hK hH e30 rfl 27 (by decide) (hts _ k_567) (fun _ h9 => h9) rfl d_Md_begin_52 ?_
          refine lv_iload_n hx hb d_Md_begin_55 rfl (lv_at hl 2 rfl) ?_
          refine lv_aload_n hx hb d_Md_begin_56 rfl (lv_at hl 1 rfl) ?_
          obtain ⟨q31, e31, h⟩ := fr_bind h
          refine fr_gP hx hb hts in_Md hown hK hH e31 rfl 33 (by decide) (hts _ k_573) (fun _ h9 => h9) rfl d_Md_begin_57 ?_
          refine lv_iload_n hx hb d_Md_begin_60 rfl (lv_at hl 0 rfl) ?_
          obtain ⟨v32, e32, h⟩ := fr_bind h
          refine fr_ild hx hb hK hH e32 d_Md_begin_61 ?_
          obtain ⟨σ_33, e33, h⟩ := fr_bind h
          refine fr_ist hx hb hK hH hS e33 d_Md_begin_62 (fun H locs hH hS => ?_)
          refine lv_iconst (v := 0) hx hb d_Md_begin_63 (by decide) ?_
          refine lv_istore_n (lv' := [(3, .int 0), (2, .int r14), (0, .ref h0), (1, .int x1)]) hx hb d_Md_begin_64 rfl hl (by decide) rfl (fun ls hl => ?_)
          exact w_Md_begin_L65 C0 hK hX 1000 h0 x1 r14 0 σ_33 r σ1 h _ _ hH hS ls (lv_sub hl [2, 3, 1, 0] rfl)
      · replace h := fr_ift c10 h
        refine lv_iconst (v := (-1)) hx hb d_Md_begin_33 (by decide) ?_
        exact fr_iret hx hb hr hlocks  h hH hK hX hS d_Md_begin_34
