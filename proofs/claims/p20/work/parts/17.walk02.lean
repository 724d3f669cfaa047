set_option maxHeartbeats 4000000 in
set_option maxRecDepth 100000 in
theorem w_Md_keep_L46 {p : Program} {l : Launch} {e : Env} {s : State} {m : MethodId} {args : Array Value} {below : List Frame} {meth : Method} {c : Code} {D : va_G} {T : Nat → ClassId} {A : Nat → Prop} (C0 : fr_At p s m args meth c "FetchRulesModel" b_Md_keep 3 none) (hK : va_K D vwCl (fr_tys T) s) (hX : fr_X s) :
    ∀ (n : Nat) (b0 : Nat) (y1 : Int32) (y2 : Int32) (σ : fr_S) (σ1 : fr_S), m_Md_keep_L46 n b0 y1 y2 σ = some σ1 → ∀ (H : Heap) (locs : List Loc), fr_H D T A σ H → va_S A s.heap H locs → ∀ (ls : Array Slot), lv_has ls 3 [(0, .ref b0), (1, .int y1), (2, .int y2)] → W p l e (headSpec (Cond.code y_Md_keep b_Md_keep 3 none :: fr_W) ({ frames := 1, cells := 0, slots := 0, locals := 23 } : Room)).room s m args below meth c H locs 0 0 (MQ below (fr_Qv D T A σ1) args s 0 0 A) (F0 m 46 ls []) := by
  obtain ⟨hx, hb, hr, hml, hown, hts, hlocks⟩ := id C0
  intro n
  induction n with
  | zero => intro b0 y1 y2 σ σ1 h; cases h
  | succ n ih =>
    intro b0 y1 y2 σ σ1 h H locs hH hS ls hl
    unfold m_Md_keep_L46 at h
    refine lv_iload_n hx hb d_Md_keep_46 rfl (lv_at hl 2 rfl) ?_
    refine lv_aload_n hx hb d_Md_keep_47 rfl (lv_at hl 0 rfl) ?_
    obtain ⟨q18, e18, h⟩ := fr_bind h
    refine fr_gP hx hb hts in_Md hown hK hH e18 rfl 27 (by decide) (hts _ k_567) (fun _ h9 => h9) rfl d_Md_keep_48 ?_
    refine lv_iload_n hx hb d_Md_keep_51 rfl (lv_at hl 1 rfl) ?_
    obtain ⟨v19, e19, h⟩ := fr_bind h
    refine fr_ild hx hb hK hH e19 d_Md_keep_52 ?_
    refine lv_icmp_ge (tgt := 87) hx hb d_Md_keep_53 (by decide) (fun c20 => ?_) (fun c20 => ?_)
    · replace h := fr_ift c20 h
      refine lv_aload_n hx hb d_Md_keep_87 rfl (lv_at hl 0 rfl) ?_
      refine lv_dup hx hb d_Md_keep_88 rfl ?_
      obtain ⟨v21, e21, h⟩ := fr_bind h
      refine fr_gI hx hb hts in_Md hown hK hH e21 rfl 8 (by decide) (hts _ k_548) (fun _ h9 => h9) rfl d_Md_keep_89 ?_
      refine lv_iconst (v := 1) hx hb d_Md_keep_92 (by decide) ?_
      refine lv_iadd hx hb d_Md_keep_93 ?_
      obtain ⟨σ_22, e22, h⟩ := fr_bind h
      refine fr_putI hx hb hts in_Md ty_Md tk_Md nm_Md hown hK hH hS e22 rfl 8 (by decide) (hts _ k_548) (fun _ h9 => h9) rfl (by decide +kernel) (fs_0_8 _ _ _) (Nat.le_of_ble_eq_true rfl) d_Md_keep_94 (fun H locs hH hS => ?_)
      refine lv_aload_n hx hb d_Md_keep_97 rfl (lv_at hl 0 rfl) ?_
      obtain ⟨q23, e23, h⟩ := fr_bind h
      refine fr_gP hx hb hts in_Md hown hK hH e23 rfl 25 (by decide) (hts _ k_565) (fun _ h9 => h9) rfl d_Md_keep_98 ?_
      refine lv_iload_n hx hb d_Md_keep_101 rfl (lv_at hl 1 rfl) ?_
      refine lv_iconst (v := 3) hx hb d_Md_keep_102 (by decide) ?_
      obtain ⟨σ_24, e24, h⟩ := fr_bind h
      refine fr_ist hx hb hK hH hS e24 d_Md_keep_103 (fun H locs hH hS => ?_)
      exact fr_vret hx hb hr hlocks h hH hK hX hS d_Md_keep_104
    · replace h := fr_iff c20 h
      refine lv_aload_n hx hb d_Md_keep_56 rfl (lv_at hl 0 rfl) ?_
      obtain ⟨q25, e25, h⟩ := fr_bind h
      refine fr_gP hx hb hts in_Md hown hK hH e25 rfl 34 (by decide) (hts _ k_574) (fun _ h9 => h9) rfl d_Md_keep_57 ?_
      refine lv_bipush (v := 100) hx hb d_Md_keep_60 (by decide) ?_
      refine lv_aload_n hx hb d_Md_keep_62 rfl (lv_at hl 0 rfl) ?_
      obtain ⟨v26, e26, h⟩ := fr_bind h
      refine fr_gI hx hb hts in_Md hown hK hH e26 rfl 8 (by decide) (hts _ k_548) (fun _ h9 => h9) rfl d_Md_keep_63 ?_
      refine lv_imul hx hb d_Md_keep_66 ?_
      refine lv_iload_n hx hb d_Md_keep_67 rfl (lv_at hl 2 rfl) ?_
      refine lv_iadd hx hb d_Md_keep_68 ?_
      refine lv_aload_n hx hb d_Md_keep_69 rfl (lv_at hl 0 rfl) ?_
      obtain ⟨q27, e27, h⟩ := fr_bind h
      refine fr_gP hx hb hts in_Md hown hK hH e27 rfl 28 (by decide) (hts _ k_568) (fun _ h9 => h9) rfl d_Md_keep_70 ?_
      refine lv_bipush (v := 100) hx hb d_Md_keep_73 (by decide) ?_
      refine lv_iload_n hx hb d_Md_keep_75 rfl (lv_at hl 1 rfl) ?_
      refine lv_imul hx hb d_Md_keep_76 ?_
      refine lv_iload_n hx hb d_Md_keep_77 rfl (lv_at hl 2 rfl) ?_
      refine lv_iadd hx hb d_Md_keep_78 ?_
      obtain ⟨v28, e28, h⟩ := fr_bind h
      refine fr_ild hx hb hK hH e28 d_Md_keep_79 ?_
      obtain ⟨σ_29, e29, h⟩ := fr_bind h
      refine fr_ist hx hb hK hH hS e29 d_Md_keep_80 (fun H locs hH hS => ?_)
      refine lv_iinc (v := (y2 + 1)) (lv' := [(2, .int (y2 + 1)), (0, .ref b0), (1, .int y1)]) hx hb d_Md_keep_81 hl (k := 2) rfl rfl (by decide) rfl (fun ls hl => ?_)
      refine lv_goto (tgt := 46) hx hb d_Md_keep_84 (by decide) ?_
      exact ih b0 y1 (y2 + 1) σ_29 σ1 h _ _ hH hS ls (lv_sub hl [1, 2, 0] rfl)
set_option maxHeartbeats 4000000 in
set_option maxRecDepth 100000 in
theorem c_Md_keep (l : Launch) (D : va_G) (T : Nat → ClassId) (A : Nat → Prop) (σ : fr_S) (h0 : Nat) (x1 : Int32) (σ1 : fr_S) (h : m_Md_keep h0 x1 σ = some σ1) : Met l y_Md_keep (Cond.code y_Md_keep b_Md_keep 3 none :: fr_W) ({ frames := 1, cells := 0, slots := 0, locals := 23 } : Room) (va_Pc [.ref h0, .int x1] (fr_B D T A σ)) (fr_Qv D T A σ1) 0 0 A := by
  refine Met.ofW (cc := b_Md_keep) (maxL := 3) (ret := none) (by decide) rfl ?_
  intro p e s m args below meth c s₁ B hml hv
  obtain ⟨rfl, hH, hK, hX⟩ := hv
  have C0 : fr_At p s m _ meth c "FetchRulesModel" b_Md_keep 3 none := fr_at B hml
  obtain ⟨hx, hb, hr, hml, hown, hts, hlocks⟩ := id C0
  have hS : va_S A s.heap s.heap [] := va_S.rf
  have hl := lv_entry ([.ref h0, .int x1]) (n := 3) (Nat.le_of_ble_eq_true rfl)
  rw [lg_entry_eq]
  generalize (lg_sl ([.ref h0, .int x1]) ++ List.replicate (3 - (lg_sl ([.ref h0, .int x1])).length) Slot.unset).toArray = ls at hl ⊢
  have hl : lv_has ls 3 [(0, .ref h0), (1, .int x1)] := hl
  unfold m_Md_keep at h
  refine lv_aload_n hx hb d_Md_keep_0 rfl (lv_at hl 0 rfl) ?_
  refine lv_aload_n hx hb d_Md_keep_1 rfl (lv_at hl 0 rfl) ?_
  obtain ⟨q1, e1, h⟩ := fr_bind h
  refine fr_gP hx hb hts in_Md hown hK hH e1 rfl 22 (by decide) (hts _ k_562) (fun _ h9 => h9) rfl d_Md_keep_2 ?_
  refine lv_iload_n hx hb d_Md_keep_5 rfl (lv_at hl 1 rfl) ?_
  obtain ⟨v2, e2, h⟩ := fr_bind h
  refine fr_ild hx hb hK hH e2 d_Md_keep_6 ?_
  obtain ⟨u3, e3, h⟩ := fr_bind h
  obtain ⟨r4, e4, h⟩ := fr_bind h
  refine fr_calli (fr_V (As := [.int v2]) (rest := []) ⟨hx, hb, hml, hown, hts⟩ (c_Md_keptOf l D T A σ h0 v2 r4 e4) k_726 mv_Md_keptOf rfl rfl ⟨Nat.le_of_ble_eq_true rfl, Nat.le_of_ble_eq_true rfl⟩ (fr_preV hK hX hH e3 rfl _) rfl hl.1 rfl (Nat.le_of_ble_eq_true rfl) d_Md_keep_7 ⟨Nat.zero_le _, Nat.zero_le _⟩) hS (fun H locs hH hS => ?_)
  refine lv_iconst (v := (-1)) hx hb d_Md_keep_10 (by decide) ?_
  refine lv_icmp_ne (tgt := 97) hx hb d_Md_keep_11 (by decide) (fun c5 => ?_) (fun c5 => ?_)
  · replace h := fr_iff c5 h
    refine lv_aload_n hx hb d_Md_keep_97 rfl (lv_at hl 0 rfl) ?_
    obtain ⟨q6, e6, h⟩ := fr_bind h
    refine fr_gP hx hb hts in_Md hown hK hH e6 rfl 25 (by decide) (hts _ k_565) (fun _ h9 => h9) rfl d_Md_keep_98 ?_
    refine lv_iload_n hx hb d_Md_keep_101 rfl (lv_at hl 1 rfl) ?_
    refine lv_iconst (v := 3) hx hb d_Md_keep_102 (by decide) ?_
    obtain ⟨σ_7, e7, h⟩ := fr_bind h
    refine fr_ist hx hb hK hH hS e7 d_Md_keep_103 (fun H locs hH hS => ?_)
    exact fr_vret hx hb hr hlocks h hH hK hX hS d_Md_keep_104
  · replace h := fr_ift c5 h
    refine lv_aload_n hx hb d_Md_keep_14 rfl (lv_at hl 0 rfl) ?_
    obtain ⟨q8, e8, h⟩ := fr_bind h
    refine fr_gP hx hb hts in_Md hown hK hH e8 rfl 32 (by decide) (hts _ k_572) (fun _ h9 => h9) rfl d_Md_keep_15 ?_
    refine lv_aload_n hx hb d_Md_keep_18 rfl (lv_at hl 0 rfl) ?_
    obtain ⟨v9, e9, h⟩ := fr_bind h
    refine fr_gI hx hb hts in_Md hown hK hH e9 rfl 8 (by decide) (hts _ k_548) (fun _ h9 => h9) rfl d_Md_keep_19 ?_
    refine lv_aload_n hx hb d_Md_keep_22 rfl (lv_at hl 0 rfl) ?_
    obtain ⟨q10, e10, h⟩ := fr_bind h
    refine fr_gP hx hb hts in_Md hown hK hH e10 rfl 22 (by decide) (hts _ k_562) (fun _ h9 => h9) rfl d_Md_keep_23 ?_
    refine lv_iload_n hx hb d_Md_keep_26 rfl (lv_at hl 1 rfl) ?_
    obtain ⟨v11, e11, h⟩ := fr_bind h
    refine fr_ild hx hb hK hH e11 d_Md_keep_27 ?_
    obtain ⟨σ_12, e12, h⟩ := fr_bind h
    refine fr_ist hx hb hK hH hS e12 d_Md_keep_28 (fun H locs hH hS => ?_)
    refine lv_aload_n hx hb d_Md_keep_29 rfl (lv_at hl 0 rfl) ?_
    obtain ⟨q13, e13, h⟩ := fr_bind h
    refine fr_gP hx hb hts in_Md hown hK hH e13 rfl 33 (by decide) (hts _ k_573) (fun _ h9 => h9) rfl d_Md_keep_30 ?_
    refine lv_aload_n hx hb d_Md_keep_33 rfl (lv_at hl 0 rfl) ?_
    obtain ⟨v14, e14, h⟩ := fr_bind h
    refine fr_gI hx hb hts in_Md hown hK hH e14 rfl 8 (by decide) (hts _ k_548) (fun _ h9 => h9) rfl d_Md_keep_34 ?_
    refine lv_aload_n hx hb d_Md_keep_37 rfl (lv_at hl 0 rfl) ?_
    obtain ⟨q15, e15, h⟩ := fr_bind h
    refine fr_gP hx hb hts in_Md hown hK hH e15 rfl 27 (by decide) (hts _ k_567) (fun _ h9 => h9) rfl d_Md_keep_38 ?_
    refine lv_iload_n hx hb d_Md_keep_41 rfl (lv_at hl 1 rfl) ?_
    obtain ⟨v16, e16, h⟩ := fr_bind h
    refine fr_ild hx hb hK hH e16 d_Md_keep_42 ?_
    obtain ⟨σ_17, e17, h⟩ := fr_bind h
    refine fr_ist hx hb hK hH hS e17 d_Md_keep_43 (fun H locs hH hS => ?_)
    refine lv_iconst (v := 0) hx hb d_Md_keep_44 (by decide) ?_
    refine lv_istore_n (lv' := [(2, .int 0), (0, .ref h0), (1, .int x1)]) hx hb d_Md_keep_45 rfl hl (by decide) rfl (fun ls hl => ?_)
    exact w_Md_keep_L46 C0 hK hX 1000 h0 x1 0 σ_17 σ1 h _ _ hH hS ls (lv_sub hl [1, 2, 0] rfl)
set_option maxHeartbeats 4000000 in
set_option maxRecDepth 100000 in
theorem w_Md_ask_L40 {p : Program} {l : Launch} {e : Env} {s : State} {m : MethodId} {args : Array Value} {below : List Frame} {meth : Method} {c : Code} {D : va_G} {T : Nat → ClassId} {A : Nat → Prop} (C0 : fr_At p s m args meth c "FetchRulesModel" b_Md_ask 6 (some .int)) (hK : va_K D vwCl (fr_tys T) s) (hX : fr_X s) :
    ∀ (n : Nat) (b0 : Nat) (y2 : Int32) (y3 : Int32) (y4 : Int32) (σ : fr_S) (r : Int32) (σ1 : fr_S), m_Md_ask_L40 n b0 y2 y3 y4 σ = some (r, σ1) → ∀ (H : Heap) (locs : List Loc), fr_H D T A σ H → va_S A s.heap H locs → ∀ (ls : Array Slot), lv_has ls 6 [(0, .ref b0), (2, .int y2), (3, .int y3), (4, .int y4)] → W p l e (headSpec (Cond.code y_Md_ask b_Md_ask 6 (some .int) :: fr_W) ({ frames := 0, cells := 0, slots := 0, locals := 0 } : Room)).room s m args below meth c H locs 0 0 (MQ below (fr_Qi D T A r σ1) args s 0 0 A) (F0 m 40 ls []) := by
  obtain ⟨hx, hb, hr, hml, hown, hts, hlocks⟩ := id C0
  intro n
  induction n with
  | zero => intro b0 y2 y3 y4 σ r σ1 h; cases h
  | succ n ih =>
    intro b0 y2 y3 y4 σ r σ1 h H locs hH hS ls hl
    unfold m_Md_ask_L40 at h
    refine lv_aload_n hx hb d_Md_ask_40 rfl (lv_at hl 0 rfl) ?_
    obtain ⟨q12, e12, h⟩ := fr_bind h
    refine fr_gP hx hb hts in_Md hown hK hH e12 rfl 18 (by decide) (hts _ k_558) (fun _ h9 => h9) rfl d_Md_ask_41 ?_
    refine lv_iload_n hx hb d_Md_ask_44 rfl (lv_at hl 1 rfl) ?_
    obtain ⟨v13, e13, h⟩ := fr_bind h
    refine fr_zld hx hb hK hH e13 d_Md_ask_45 ?_
    refine lv_if_ne (tgt := 133) hx hb d_Md_ask_46 (by decide) (fun c14 => ?_) (fun c14 => ?_)
    · replace h := fr_iff c14 h
      refine lv_aload_n hx hb d_Md_ask_133 rfl (lv_at hl 0 rfl) ?_
      obtain ⟨q15, e15, h⟩ := fr_bind h
      refine fr_gP hx hb hts in_Md hown hK hH e15 rfl 18 (by decide) (hts _ k_558) (fun _ h9 => h9) rfl d_Md_ask_134 ?_
      refine lv_iload_n hx hb d_Md_ask_137 rfl (lv_at hl 1 rfl) ?_
      obtain ⟨v16, e16, h⟩ := fr_bind h
      refine fr_zld hx hb hK hH e16 d_Md_ask_138 ?_
      refine lv_if_ne (tgt := 155) hx hb d_Md_ask_139 (by decide) (fun c17 => ?_) (fun c17 => ?_)
      · replace h := fr_iff c17 h
        refine lv_iconst (v := (-1)) hx hb d_Md_ask_155 (by decide) ?_
        refine lv_goto (tgt := 160) hx hb d_Md_ask_156 (by decide) ?_
        exact fr_iret hx hb hr hlocks  h hH hK hX hS d_Md_ask_160
      · replace h := fr_ift c17 h
        refine lv_aload_n hx hb d_Md_ask_142 rfl (lv_at hl 0 rfl) ?_
        obtain ⟨q18, e18, h⟩ := fr_bind h
        refine fr_gP hx hb hts in_Md hown hK hH e18 rfl 19 (by decide) (hts _ k_559) (fun _ h9 => h9) rfl d_Md_ask_143 ?_
        refine lv_iload_n hx hb d_Md_ask_146 rfl (lv_at hl 1 rfl) ?_
        obtain ⟨v19, e19, h⟩ := fr_bind h
        refine fr_zld hx hb hK hH e19 d_Md_ask_147 ?_
        refine lv_if_eq (tgt := 159) hx hb d_Md_ask_148 (by decide) (fun c20 => ?_) (fun c20 => ?_)
        · replace h := fr_ift c20 h
          refine lv_iload_n hx hb d_Md_ask_159 rfl (lv_at hl 1 rfl) ?_
          exact fr_iret hx hb hr hlocks  h hH hK hX hS d_Md_ask_160
        · replace h := fr_iff c20 h
          refine lv_iload_n hx hb d_Md_ask_151 rfl (lv_at hl 2 rfl) ?_
          refine lv_if_ne (tgt := 159) hx hb d_Md_ask_152 (by decide) (fun c21 => ?_) (fun c21 => ?_)
          · replace h := fr_iff c21 h
            refine lv_iload_n hx hb d_Md_ask_159 rfl (lv_at hl 1 rfl) ?_
            exact fr_iret hx hb hr hlocks  h hH hK hX hS d_Md_ask_160
          · replace h := fr_ift c21 h
            refine lv_iconst (v := (-1)) hx hb d_Md_ask_155 (by decide) ?_
            refine lv_goto (tgt := 160) hx hb d_Md_ask_156 (by decide) ?_
            exact fr_iret hx hb hr hlocks  h hH hK hX hS d_Md_ask_160
    · replace h := fr_ift c14 h
      refine lv_aload_n hx hb d_Md_ask_49 rfl (lv_at hl 0 rfl) ?_
      obtain ⟨q22, e22, h⟩ := fr_bind h
      refine fr_gP hx hb hts in_Md hown hK hH e22 rfl 14 (by decide) (hts _ k_554) (fun _ h9 => h9) rfl d_Md_ask_50 ?_
      refine lv_iload_n hx hb d_Md_ask_53 rfl (lv_at hl 1 rfl) ?_
      obtain ⟨v23, e23, h⟩ := fr_bind h
      refine fr_ild hx hb hK hH e23 d_Md_ask_54 ?_
      refine lv_iconst (v := (-1)) hx hb d_Md_ask_55 (by decide) ?_
      refine lv_icmp_eq (tgt := 133) hx hb d_Md_ask_56 (by decide) (fun c24 => ?_) (fun c24 => ?_)
      · replace h := fr_ift c24 h
        refine lv_aload_n hx hb d_Md_ask_133 rfl (lv_at hl 0 rfl) ?_
        obtain ⟨q25, e25, h⟩ := fr_bind h
        refine fr_gP hx hb hts in_Md hown hK hH e25 rfl 18 (by decide) (hts _ k_558) (fun _ h9 => h9) rfl d_Md_ask_134 ?_
        refine lv_iload_n hx hb d_Md_ask_137 rfl (lv_at hl 1 rfl) ?_
        obtain ⟨v26, e26, h⟩ := fr_bind h
        refine fr_zld hx hb hK hH e26 d_Md_ask_138 ?_
        refine lv_if_ne (tgt := 155) hx hb d_Md_ask_139 (by decide) (fun c27 => ?_) (fun c27 => ?_)
        · replace h := fr_iff c27 h
          refine lv_iconst (v := (-1)) hx hb d_Md_ask_155 (by decide) ?_
          refine lv_goto (tgt := 160) hx hb d_Md_ask_156 (by decide) ?_
          exact fr_iret hx hb hr hlocks  h hH hK hX hS d_Md_ask_160
        · replace h := fr_ift c27 h
          refine lv_aload_n hx hb d_Md_ask_142 rfl (lv_at hl 0 rfl) ?_
          obtain ⟨q28, e28, h⟩ := fr_bind h
          refine fr_gP hx hb hts in_Md hown hK hH e28 rfl 19 (by decide) (hts _ k_559) (fun _ h9 => h9) rfl d_Md_ask_143 ?_
          refine lv_iload_n hx hb d_Md_ask_146 rfl (lv_at hl 1 rfl) ?_
          obtain ⟨v29, e29, h⟩ := fr_bind h
          refine fr_zld hx hb hK hH e29 d_Md_ask_147 ?_
          refine lv_if_eq (tgt := 159) hx hb d_Md_ask_148 (by decide) (fun c30 => ?_) (fun c30 => ?_)
          · replace h := fr_ift c30 h
            refine lv_iload_n hx hb d_Md_ask_159 rfl (lv_at hl 1 rfl) ?_
            exact fr_iret hx hb hr hlocks  h hH hK hX hS d_Md_ask_160
          · replace h := fr_iff c30 h
            refine lv_iload_n hx hb d_Md_ask_151 rfl (lv_at hl 2 rfl) ?_
            refine lv_if_ne (tgt := 159) hx hb d_Md_ask_152 (by decide) (fun c31 => ?_) (fun c31 => ?_)
            · replace h := fr_iff c31 h
              refine lv_iload_n hx hb d_Md_ask_159 rfl (lv_at hl 1 rfl) ?_
              exact fr_iret hx hb hr hlocks  h hH hK hX hS d_Md_ask_160
            · replace h := fr_ift c31 h
              refine lv_iconst (v := (-1)) hx hb d_Md_ask_155 (by decide) ?_
              refine lv_goto (tgt := 160) hx hb d_Md_ask_156 (by decide) ?_
              exact fr_iret hx hb hr hlocks  h hH hK hX hS d_Md_ask_160
      · replace h := fr_iff c24 h
        refine lv_iload hx hb d_Md_ask_59 (lv_at hl 3 rfl) ?_
        refine lv_iconst (v := 3) hx hb d_Md_ask_61 (by decide) ?_
        refine lv_icmp_ne (tgt := 67) hx hb d_Md_ask_62 (by decide) (fun c32 => ?_) (fun c32 => ?_)
        · replace h := fr_iff c32 h
          refine lv_iinc (v := (y4 + 1)) (lv' := [(4, .int (y4 + 1)), (0, .ref b0), (2, .int y2), (3, .int y3)]) hx hb d_Md_ask_67 hl (k := 3) rfl rfl (by decide) rfl (fun ls hl => ?_)
          refine lv_aload_n hx hb d_Md_ask_70 rfl (lv_at hl 1 rfl) ?_
          obtain ⟨q33, e33, h⟩ := fr_bind h
          refine fr_gP hx hb hts in_Md hown hK hH e33 rfl 14 (by decide) (hts _ k_554) (fun _ h9 => h9) rfl d_Md_ask_71 ?_
          refine lv_iload_n hx hb d_Md_ask_74 rfl (lv_at hl 2 rfl) ?_
          obtain ⟨v34, e34, h⟩ := fr_bind h
          refine fr_ild hx hb hK hH e34 d_Md_ask_75 ?_
          refine lv_istore (lv' := [(5, .int v34), (4, .int (y4 + 1)), (0, .ref b0), (2, .int y2), (3, .int y3)]) hx hb d_Md_ask_76 hl (by decide) rfl (fun ls hl => ?_)
          refine lv_iload_n hx hb d_Md_ask_78 rfl (lv_at hl 4 rfl) ?_
          refine lv_if_eq (tgt := 102) hx hb d_Md_ask_79 (by decide) (fun c35 => ?_) (fun c35 => ?_)
          · replace h := fr_ift c35 h
            refine lv_iconst (v := 0) hx hb d_Md_ask_102 (by decide) ?_
            refine lv_istore_n (lv' := [(3, .int 0), (5, .int v34), (4, .int (y4 + 1)), (0, .ref b0), (2, .int y2)]) hx hb d_Md_ask_103 rfl hl (by decide) rfl (fun ls hl => ?_)
            refine lv_iload hx hb d_Md_ask_104 (lv_at hl 1 rfl) ?_
            refine lv_istore_n (lv' := [(2, .int v34), (3, .int 0), (5, .int v34), (4, .int (y4 + 1)), (0, .ref b0)]) hx hb d_Md_ask_106 rfl hl (by decide) rfl (fun ls hl => ?_)
            refine lv_aload_n hx hb d_Md_ask_107 rfl (lv_at hl 4 rfl) ?_
            obtain ⟨q36, e36, h⟩ := fr_bind h
            refine fr_gP hx hb hts in_Md hown hK hH e36 rfl 5 (by decide) (hts _ k_545) (fun _ h9 => h9) rfl d_Md_ask_108 ?_
            refine lv_aload_n hx hb d_Md_ask_111 rfl (lv_at hl 4 rfl) ?_
            obtain ⟨q37, e37, h⟩ := fr_bind h
            refine fr_gP hx hb hts in_Md hown hK hH e37 rfl 11 (by decide) (hts _ k_551) (fun _ h9 => h9) rfl d_Md_ask_112 ?_
            refine lv_iload_n hx hb d_Md_ask_115 rfl (lv_at hl 0 rfl) ?_
            obtain ⟨v38, e38, h⟩ := fr_bind h
            refine fr_ild hx hb hK hH e38 d_Md_ask_116 ?_
            refine lv_dup2_11 hx hb d_Md_ask_117 rfl rfl ?_
            obtain ⟨v39, e39, h⟩ := fr_bind h
            refine fr_ild hx hb hK hH e39 d_Md_ask_118 ?_
            refine lv_iload_n hx hb d_Md_ask_119 rfl (lv_at hl 1 rfl) ?_
            refine lv_if_eq (tgt := 127) hx hb d_Md_ask_120 (by decide) (fun c40 => ?_) (fun c40 => ?_)
            · refine lv_iconst (v := 0) hx hb d_Md_ask_127 (by decide) ?_
              refine lv_iadd hx hb d_Md_ask_128 ?_
              obtain ⟨σ_41, e41, h⟩ := fr_bind h
              refine fr_ist hx hb hK hH hS e41 d_Md_ask_129 (fun H locs hH hS => ?_)
              refine lv_goto (tgt := 40) hx hb d_Md_ask_130 (by decide) ?_
              exact ih b0 v34 0 (y4 + 1) σ_41 r σ1 h _ _ hH hS ls (lv_sub hl [4, 0, 1, 3] rfl)
            · exact absurd (by decide) c40
          · replace h := fr_iff c35 h
            refine lv_aload_n hx hb d_Md_ask_82 rfl (lv_at hl 2 rfl) ?_
            obtain ⟨q42, e42, h⟩ := fr_bind h
            refine fr_gP hx hb hts in_Md hown hK hH e42 rfl 11 (by decide) (hts _ k_551) (fun _ h9 => h9) rfl d_Md_ask_83 ?_
            refine lv_iload hx hb d_Md_ask_86 (lv_at hl 0 rfl) ?_
            obtain ⟨v43, e43, h⟩ := fr_bind h
            refine fr_ild hx hb hK hH e43 d_Md_ask_88 ?_
            refine lv_aload_n hx hb d_Md_ask_89 rfl (lv_at hl 2 rfl) ?_
            obtain ⟨q44, e44, h⟩ := fr_bind h
            refine fr_gP hx hb hts in_Md hown hK hH e44 rfl 11 (by decide) (hts _ k_551) (fun _ h9 => h9) rfl d_Md_ask_90 ?_
            refine lv_iload_n hx hb d_Md_ask_93 rfl (lv_at hl 3 rfl) ?_
            obtain ⟨v45, e45, h⟩ := fr_bind h
            refine fr_ild hx hb hK hH e45 d_Md_ask_94 ?_
            refine lv_icmp_ne (tgt := 102) hx hb d_Md_ask_95 (by decide) (fun c46 => ?_) (fun c46 => ?_)
            · replace h := fr_iff c46 h
              refine lv_iconst (v := 0) hx hb d_Md_ask_102 (by decide) ?_
              refine lv_istore_n (lv' := [(3, .int 0), (5, .int v34), (4, .int (y4 + 1)), (0, .ref b0), (2, .int y2)]) hx hb d_Md_ask_103 rfl hl (by decide) rfl (fun ls hl => ?_)
              refine lv_iload hx hb d_Md_ask_104 (lv_at hl 1 rfl) ?_
              refine lv_istore_n (lv' := [(2, .int v34), (3, .int 0), (5, .int v34), (4, .int (y4 + 1)), (0, .ref b0)]) hx hb d_Md_ask_106 rfl hl (by decide) rfl (fun ls hl => ?_)
              refine lv_aload_n hx hb d_Md_ask_107 rfl (lv_at hl 4 rfl) ?_
              obtain ⟨q47, e47, h⟩ := fr_bind h
              refine fr_gP hx hb hts in_Md hown hK hH e47 rfl 5 (by decide) (hts _ k_545) (fun _ h9 => h9) rfl d_Md_ask_108 ?_
              refine lv_aload_n hx hb d_Md_ask_111 rfl (lv_at hl 4 rfl) ?_
              obtain ⟨q48, e48, h⟩ := fr_bind h
              refine fr_gP hx hb hts in_Md hown hK hH e48 rfl 11 (by decide) (hts _ k_551) (fun _ h9 => h9) rfl d_Md_ask_112 ?_
              refine lv_iload_n hx hb d_Md_ask_115 rfl (lv_at hl 0 rfl) ?_
              obtain ⟨v49, e49, h⟩ := fr_bind h
              refine fr_ild hx hb hK hH e49 d_Md_ask_116 ?_
              refine lv_dup2_11 hx hb d_Md_ask_117 rfl rfl ?_
              obtain ⟨v50, e50, h⟩ := fr_bind h
              refine fr_ild hx hb hK hH e50 d_Md_ask_118 ?_
              refine lv_iload_n hx hb d_Md_ask_119 rfl (lv_at hl 1 rfl) ?_
              refine lv_if_eq (tgt := 127) hx hb d_Md_ask_120 (by decide) (fun c51 => ?_) (fun c51 => ?_)
              · refine lv_iconst (v := 0) hx hb d_Md_ask_127 (by decide) ?_
                refine lv_iadd hx hb d_Md_ask_128 ?_
                obtain ⟨σ_52, e52, h⟩ := fr_bind h
                refine fr_ist hx hb hK hH hS e52 d_Md_ask_129 (fun H locs hH hS => ?_)
                refine lv_goto (tgt := 40) hx hb d_Md_ask_130 (by decide) ?_
                exact ih b0 v34 0 (y4 + 1) σ_52 r σ1 h _ _ hH hS ls (lv_sub hl [4, 0, 1, 3] rfl)
              · exact absurd (by decide) c51
            · replace h := fr_ift c46 h
              refine lv_iconst (v := 1) hx hb d_Md_ask_98 (by decide) ?_
              refine lv_goto (tgt := 103) hx hb d_Md_ask_99 (by decide) ?_
              refine lv_istore_n (lv' := [(3, .int 1), (5, .int v34), (4, .int (y4 + 1)), (0, .ref b0), (2, .int y2)]) hx hb d_Md_ask_103 rfl hl (by decide) rfl (fun ls hl => ?_)
              refine lv_iload hx hb d_Md_ask_104 (lv_at hl 1 rfl) ?_
              refine lv_istore_n (lv' := [(2, .int v34), (3, .int 1), (5, .int v34), (4, .int (y4 + 1)), (0, .ref b0)]) hx hb d_Md_ask_106 rfl hl (by decide) rfl (fun ls hl => ?_)
              refine lv_aload_n hx hb d_Md_ask_107 rfl (lv_at hl 4 rfl) ?_
              obtain ⟨q53, e53, h⟩ := fr_bind h
              refine fr_gP hx hb hts in_Md hown hK hH e53 rfl 5 (by decide) (hts _ k_545) (fun _ h9 => h9) rfl d_Md_ask_108 ?_
              refine lv_aload_n hx hb d_Md_ask_111 rfl (lv_at hl 4 rfl) ?_
              obtain ⟨q54, e54, h⟩ := fr_bind h
              refine fr_gP hx hb hts in_Md hown hK hH e54 rfl 11 (by decide) (hts _ k_551) (fun _ h9 => h9) rfl d_Md_ask_112 ?_
              refine lv_iload_n hx hb d_Md_ask_115 rfl (lv_at hl 0 rfl) ?_
              obtain ⟨v55, e55, h⟩ := fr_bind h
              refine fr_ild hx hb hK hH e55 d_Md_ask_116 ?_
              refine lv_dup2_11 hx hb d_Md_ask_117 rfl rfl ?_
              obtain ⟨v56, e56, h⟩ := fr_bind h
              refine fr_ild hx hb hK hH e56 d_Md_ask_118 ?_
              refine lv_iload_n hx hb d_Md_ask_119 rfl (lv_at hl 1 rfl) ?_
              refine lv_if_eq (tgt := 127) hx hb d_Md_ask_120 (by decide) (fun c57 => ?_) (fun c57 => ?_)
              · exact absurd c57 (by decide)
              · refine lv_iconst (v := 1) hx hb d_Md_ask_123 (by decide) ?_
                refine lv_goto (tgt := 128) hx hb d_Md_ask_124 (by decide) ?_
                refine lv_iadd hx hb d_Md_ask_128 ?_
                obtain ⟨σ_58, e58, h⟩ := fr_bind h
                refine fr_ist hx hb hK hH hS e58 d_Md_ask_129 (fun H locs hH hS => ?_)
                refine lv_goto (tgt := 40) hx hb d_Md_ask_130 (by decide) ?_
                exact ih b0 v34 1 (y4 + 1) σ_58 r σ1 h _ _ hH hS ls (lv_sub hl [4, 0, 1, 3] rfl)
        · replace h := fr_ift c32 h
          refine lv_iconst (v := (-1)) hx hb d_Md_ask_65 (by decide) ?_
          exact fr_iret hx hb hr hlocks  h hH hK hX hS d_Md_ask_66
set_option maxHeartbeats 4000000 in
set_option maxRecDepth 100000 in
theorem c_Md_ask (l : Launch) (D : va_G) (T : Nat → ClassId) (A : Nat → Prop) (σ : fr_S) (h0 : Nat) (x1 : Int32) (r : Int32) (σ1 : fr_S) (h : m_Md_ask h0 x1 σ = some (r, σ1)) : Met l y_Md_ask (Cond.code y_Md_ask b_Md_ask 6 (some .int) :: fr_W) ({ frames := 0, cells := 0, slots := 0, locals := 0 } : Room) (va_Pc [.ref h0, .int x1] (fr_B D T A σ)) (fr_Qi D T A r σ1) 0 0 A := by
  refine Met.ofW (cc := b_Md_ask) (maxL := 6) (ret := (some .int)) (by decide) rfl ?_
  intro p e s m args below meth c s₁ B hml hv
  obtain ⟨rfl, hH, hK, hX⟩ := hv
  have C0 : fr_At p s m _ meth c "FetchRulesModel" b_Md_ask 6 (some .int) := fr_at B hml
  obtain ⟨hx, hb, hr, hml, hown, hts, hlocks⟩ := id C0
  have hS : va_S A s.heap s.heap [] := va_S.rf
  have hl := lv_entry ([.ref h0, .int x1]) (n := 6) (Nat.le_of_ble_eq_true rfl)
  rw [lg_entry_eq]
  generalize (lg_sl ([.ref h0, .int x1]) ++ List.replicate (6 - (lg_sl ([.ref h0, .int x1])).length) Slot.unset).toArray = ls at hl ⊢
  have hl : lv_has ls 6 [(0, .ref h0), (1, .int x1)] := hl
  unfold m_Md_ask at h
  refine lv_iload_n hx hb d_Md_ask_0 rfl (lv_at hl 1 rfl) ?_
  refine lv_istore_n (lv' := [(2, .int x1), (0, .ref h0), (1, .int x1)]) hx hb d_Md_ask_1 rfl hl (by decide) rfl (fun ls hl => ?_)
  refine lv_aload_n hx hb d_Md_ask_2 rfl (lv_at hl 1 rfl) ?_
  obtain ⟨q1, e1, h⟩ := fr_bind h
  refine fr_gP hx hb hts in_Md hown hK hH e1 rfl 4 (by decide) (hts _ k_544) (fun _ h9 => h9) rfl d_Md_ask_3 ?_
  refine lv_aload_n hx hb d_Md_ask_6 rfl (lv_at hl 1 rfl) ?_
  obtain ⟨q2, e2, h⟩ := fr_bind h
  refine fr_gP hx hb hts in_Md hown hK hH e2 rfl 11 (by decide) (hts _ k_551) (fun _ h9 => h9) rfl d_Md_ask_7 ?_
  refine lv_iload_n hx hb d_Md_ask_10 rfl (lv_at hl 0 rfl) ?_
  obtain ⟨v3, e3, h⟩ := fr_bind h
  refine fr_ild hx hb hK hH e3 d_Md_ask_11 ?_
  obtain ⟨v4, e4, h⟩ := fr_bind h
  refine fr_zld hx hb hK hH e4 d_Md_ask_12 ?_
  refine lv_istore_n (lv' := [(3, .int v4), (2, .int x1), (0, .ref h0), (1, .int x1)]) hx hb d_Md_ask_13 rfl hl (by decide) rfl (fun ls hl => ?_)
  refine lv_iconst (v := 0) hx hb d_Md_ask_14 (by decide) ?_
  refine lv_istore (lv' := [(4, .int 0), (3, .int v4), (2, .int x1), (0, .ref h0), (1, .int x1)]) hx hb d_Md_ask_15 hl (by decide) rfl (fun ls hl => ?_)
  refine lv_aload_n hx hb d_Md_ask_17 rfl (lv_at hl 3 rfl) ?_
  obtain ⟨q5, e5, h⟩ := fr_bind h
  refine fr_gP hx hb hts in_Md hown hK hH e5 rfl 5 (by decide) (hts _ k_545) (fun _ h9 => h9) rfl d_Md_ask_18 ?_
  refine lv_aload_n hx hb d_Md_ask_21 rfl (lv_at hl 3 rfl) ?_
  obtain ⟨q6, e6, h⟩ := fr_bind h
  refine fr_gP hx hb hts in_Md hown hK hH e6 rfl 11 (by decide) (hts _ k_551) (fun _ h9 => h9) rfl d_Md_ask_22 ?_
  refine lv_iload_n hx hb d_Md_ask_25 rfl (lv_at hl 2 rfl) ?_
  obtain ⟨v7, e7, h⟩ := fr_bind h
  refine fr_ild hx hb hK hH e7 d_Md_ask_26 ?_
  refine lv_dup2_11 hx hb d_Md_ask_27 rfl rfl ?_
  obtain ⟨v8, e8, h⟩ := fr_bind h
  refine fr_ild hx hb hK hH e8 d_Md_ask_28 ?_
  refine lv_iload_n hx hb d_Md_ask_29 rfl (lv_at hl 1 rfl) ?_
  refine lv_if_eq (tgt := 37) hx hb d_Md_ask_30 (by decide) (fun c9 => ?_) (fun c9 => ?_)
  · replace h := fr_ift c9 h
    refine lv_iconst (v := 0) hx hb d_Md_ask_37 (by decide) ?_
    refine lv_iadd hx hb d_Md_ask_38 ?_
    obtain ⟨σ_10, e10, h⟩ := fr_bind h
    refine fr_ist hx hb hK hH hS e10 d_Md_ask_39 (fun H locs hH hS => ?_)
    exact w_Md_ask_L40 C0 hK hX 1000 h0 x1 v4 0 σ_10 r σ1 h _ _ hH hS ls (lv_sub hl [3, 2, 1, 0] rfl)
  · replace h := fr_iff c9 h
    refine lv_iconst (v := 1) hx hb d_Md_ask_33 (by decide) ?_
    refine lv_goto (tgt := 38) hx hb d_Md_ask_34 (by decide) ?_
    refine lv_iadd hx hb d_Md_ask_38 ?_
    obtain ⟨σ_11, e11, h⟩ := fr_bind h
    refine fr_ist hx hb hK hH hS e11 d_Md_ask_39 (fun H locs hH hS => ?_)
    exact w_Md_ask_L40 C0 hK hX 1000 h0 x1 v4 0 σ_11 r σ1 h _ _ hH hS ls (lv_sub hl [3, 2, 1, 0] rfl)
set_option maxHeartbeats 4000000 in
set_option maxRecDepth 100000 in
theorem c_Md_falter (l : Launch) (D : va_G) (T : Nat → ClassId) (A : Nat → Prop) (σ : fr_S) (h0 : Nat) (x1 : Int32) (σ1 : fr_S) (h : m_Md_falter h0 x1 σ = some σ1) : Met l y_Md_falter (Cond.code y_Md_falter b_Md_falter 2 none :: fr_W) ({ frames := 1, cells := 0, slots := 0, locals := 23 } : Room) (va_Pc [.ref h0, .int x1] (fr_B D T A σ)) (fr_Qv D T A σ1) 0 0 A := by
  refine Met.ofW (cc := b_Md_falter) (maxL := 2) (ret := none) (by decide) rfl ?_
  intro p e s m args below meth c s₁ B hml hv
  obtain ⟨rfl, hH, hK, hX⟩ := hv
  have C0 : fr_At p s m _ meth c "FetchRulesModel" b_Md_falter 2 none := fr_at B hml
  obtain ⟨hx, hb, hr, hml, hown, hts, hlocks⟩ := id C0
  have hS : va_S A s.heap s.heap [] := va_S.rf
  have hl := lv_entry ([.ref h0, .int x1]) (n := 2) (Nat.le_of_ble_eq_true rfl)
  rw [lg_entry_eq]
  generalize (lg_sl ([.ref h0, .int x1]) ++ List.replicate (2 - (lg_sl ([.ref h0, .int x1])).length) Slot.unset).toArray = ls at hl ⊢
  have hl : lv_has ls 2 [(0, .ref h0), (1, .int x1)] := hl
  unfold m_Md_falter at h
  refine lv_aload_n hx hb d_Md_falter_0 rfl (lv_at hl 0 rfl) ?_
  obtain ⟨q1, e1, h⟩ := fr_bind h
  refine fr_gP hx hb hts in_Md hown hK hH e1 rfl 31 (by decide) (hts _ k_571) (fun _ h9 => h9) rfl d_Md_falter_1 ?_
  refine lv_iload_n hx hb d_Md_falter_4 rfl (lv_at hl 1 rfl) ?_
  obtain ⟨v2, e2, h⟩ := fr_bind h
  refine fr_ild hx hb hK hH e2 d_Md_falter_5 ?_
  refine lv_aload_n hx hb d_Md_falter_6 rfl (lv_at hl 0 rfl) ?_
  obtain ⟨v3, e3, h⟩ := fr_bind h
  refine fr_gI hx hb hts in_Md hown hK hH e3 rfl 0 (by decide) (hts _ k_540) (fun _ h9 => h9) rfl d_Md_falter_7 ?_
  refine lv_icmp_ne (tgt := 27) hx hb d_Md_falter_10 (by decide) (fun c4 => ?_) (fun c4 => ?_)
  · replace h := fr_iff c4 h
    refine lv_aload_n hx hb d_Md_falter_27 rfl (lv_at hl 0 rfl) ?_
    obtain ⟨q5, e5, h⟩ := fr_bind h
    refine fr_gP hx hb hts in_Md hown hK hH e5 rfl 25 (by decide) (hts _ k_565) (fun _ h9 => h9) rfl d_Md_falter_28 ?_
    refine lv_iload_n hx hb d_Md_falter_31 rfl (lv_at hl 1 rfl) ?_
    refine lv_iconst (v := 2) hx hb d_Md_falter_32 (by decide) ?_
    obtain ⟨σ_6, e6, h⟩ := fr_bind h
    refine fr_ist hx hb hK hH hS e6 d_Md_falter_33 (fun H locs hH hS => ?_)
    refine lv_aload_n hx hb d_Md_falter_34 rfl (lv_at hl 0 rfl) ?_
    obtain ⟨q7, e7, h⟩ := fr_bind h
    refine fr_gP hx hb hts in_Md hown hK hH e7 rfl 29 (by decide) (hts _ k_569) (fun _ h9 => h9) rfl d_Md_falter_35 ?_
    refine lv_iload_n hx hb d_Md_falter_38 rfl (lv_at hl 1 rfl) ?_
    refine lv_aload_n hx hb d_Md_falter_39 rfl (lv_at hl 0 rfl) ?_
    obtain ⟨v8, e8, h⟩ := fr_bind h
    refine fr_gI hx hb hts in_Md hown hK hH e8 rfl 2 (by decide) (hts _ k_542) (fun _ h9 => h9) rfl d_Md_falter_40 ?_
    refine lv_iconst (v := 1) hx hb d_Md_falter_43 (by decide) ?_
    refine lv_aload_n hx hb d_Md_falter_44 rfl (lv_at hl 0 rfl) ?_
    obtain ⟨q9, e9, h⟩ := fr_bind h
    refine fr_gP hx hb hts in_Md hown hK hH e9 rfl 31 (by decide) (hts _ k_571) (fun _ h9 => h9) rfl d_Md_falter_45 ?_
    refine lv_iload_n hx hb d_Md_falter_48 rfl (lv_at hl 1 rfl) ?_
    obtain ⟨v10, e10, h⟩ := fr_bind h
    refine fr_ild hx hb hK hH e10 d_Md_falter_49 ?_
    refine lv_ishl hx hb d_Md_falter_50 ?_
    refine lv_iadd hx hb d_Md_falter_51 ?_
    obtain ⟨σ_11, e11, h⟩ := fr_bind h
    refine fr_ist hx hb hK hH hS e11 d_Md_falter_52 (fun H locs hH hS => ?_)
    refine lv_aload_n hx hb d_Md_falter_53 rfl (lv_at hl 0 rfl) ?_
    obtain ⟨q12, e12, h⟩ := fr_bind h
    refine fr_gP hx hb hts in_Md hown hK hH e12 rfl 31 (by decide) (hts _ k_571) (fun _ h9 => h9) rfl d_Md_falter_54 ?_
    refine lv_iload_n hx hb d_Md_falter_57 rfl (lv_at hl 1 rfl) ?_
    refine lv_dup2_11 hx hb d_Md_falter_58 rfl rfl ?_
    obtain ⟨v13, e13, h⟩ := fr_bind h
    refine fr_ild hx hb hK hH e13 d_Md_falter_59 ?_
    refine lv_iconst (v := 1) hx hb d_Md_falter_60 (by decide) ?_
    refine lv_iadd hx hb d_Md_falter_61 ?_
    obtain ⟨σ_14, e14, h⟩ := fr_bind h
    refine fr_ist hx hb hK hH hS e14 d_Md_falter_62 (fun H locs hH hS => ?_)
    exact fr_vret hx hb hr hlocks h hH hK hX hS d_Md_falter_63
  · replace h := fr_ift c4 h
    refine lv_aload_n hx hb d_Md_falter_13 rfl (lv_at hl 0 rfl) ?_
    refine lv_iload_n hx hb d_Md_falter_14 rfl (lv_at hl 1 rfl) ?_
    refine lv_aload_n hx hb d_Md_falter_15 rfl (lv_at hl 0 rfl) ?_
    obtain ⟨q15, e15, h⟩ := fr_bind h
    refine fr_gP hx hb hts in_Md hown hK hH e15 rfl 26 (by decide) (hts _ k_566) (fun _ h9 => h9) rfl d_Md_falter_16 ?_
    refine lv_iload_n hx hb d_Md_falter_19 rfl (lv_at hl 1 rfl) ?_
    obtain ⟨v16, e16, h⟩ := fr_bind h
    refine fr_ild hx hb hK hH e16 d_Md_falter_20 ?_
    refine lv_iconst (v := 1) hx hb d_Md_falter_21 (by decide) ?_
    refine lv_iadd hx hb d_Md_falter_22 ?_
    obtain ⟨u17, e17, h⟩ := fr_bind h
    obtain ⟨σ_18, e18, h⟩ := fr_bind h
    refine fr_callv (fr_V (As := [.int x1, .int (v16 + 1)]) (rest := []) ⟨hx, hb, hml, hown, hts⟩ (c_Md_goOn l D T A σ h0 x1 ((v16 + 1)) σ_18 e18) k_734 mv_Md_goOn rfl rfl ⟨Nat.le_of_ble_eq_true rfl, Nat.le_of_ble_eq_true rfl⟩ (fr_preV hK hX hH e17 rfl _) rfl hl.1 rfl (Nat.le_of_ble_eq_true rfl) d_Md_falter_23 ⟨Nat.zero_le _, Nat.zero_le _⟩) hS (fun H locs hH hS => ?_)
    exact fr_vret hx hb hr hlocks h hH hK hX hS d_Md_falter_26
set_option maxHeartbeats 4000000 in
set_option maxRecDepth 100000 in
theorem w_Md_judge_L4 {p : Program} {l : Launch} {e : Env} {s : State} {m : MethodId} {args : Array Value} {below : List Frame} {meth : Method} {c : Code} {D : va_G} {T : Nat → ClassId} {A : Nat → Prop} (C0 : fr_At p s m args meth c "FetchRulesModel" b_Md_judge 4 none) (hK : va_K D vwCl (fr_tys T) s) (hX : fr_X s) :
    ∀ (n : Nat) (b0 : Nat) (y1 : Int32) (y2 : Int32) (y3 : Int32) (σ : fr_S) (σ1 : fr_S), m_Md_judge_L4 n b0 y1 y2 y3 σ = some σ1 → ∀ (H : Heap) (locs : List Loc), fr_H D T A σ H → va_S A s.heap H locs → ∀ (ls : Array Slot), lv_has ls 4 [(0, .ref b0), (1, .int y1), (2, .int y2), (3, .int y3)] → W p l e (headSpec (Cond.code y_Md_judge b_Md_judge 4 none :: fr_W) ({ frames := 2, cells := 0, slots := 0, locals := 45 } : Room)).room s m args below meth c H locs 0 0 (MQ below (fr_Qv D T A σ1) args s 0 0 A) (F0 m 4 ls []) := by
  obtain ⟨hx, hb, hr, hml, hown, hts, hlocks⟩ := id C0
  intro n
  induction n with
  | zero => intro b0 y1 y2 y3 σ σ1 h; cases h
  | succ n ih =>
    intro b0 y1 y2 y3 σ σ1 h H locs hH hS ls hl
    unfold m_Md_judge_L4 at h
    refine lv_iload_n hx hb d_Md_judge_4 rfl (lv_at hl 3 rfl) ?_
    refine lv_aload_n hx hb d_Md_judge_5 rfl (lv_at hl 0 rfl) ?_
    obtain ⟨q1, e1, h⟩ := fr_bind h
    refine fr_gP hx hb hts in_Md hown hK hH e1 rfl 27 (by decide) (hts _ k_567) (fun _ h9 => h9) rfl d_Md_judge_6 ?_
    refine lv_iload_n hx hb d_Md_judge_9 rfl (lv_at hl 1 rfl) ?_
    obtain ⟨v2, e2, h⟩ := fr_bind h
    refine fr_ild hx hb hK hH e2 d_Md_judge_10 ?_
    refine lv_icmp_ge (tgt := 36) hx hb d_Md_judge_11 (by decide) (fun c3 => ?_) (fun c3 => ?_)
    · replace h := fr_ift c3 h
      refine lv_iload_n hx hb d_Md_judge_36 rfl (lv_at hl 2 rfl) ?_
      refine lv_aload_n hx hb d_Md_judge_37 rfl (lv_at hl 0 rfl) ?_
      obtain ⟨q4, e4, h⟩ := fr_bind h
      refine fr_gP hx hb hts in_Md hown hK hH e4 rfl 22 (by decide) (hts _ k_562) (fun _ h9 => h9) rfl d_Md_judge_38 ?_
      refine lv_iload_n hx hb d_Md_judge_41 rfl (lv_at hl 1 rfl) ?_
      obtain ⟨v5, e5, h⟩ := fr_bind h
      refine fr_ild hx hb hK hH e5 d_Md_judge_42 ?_
      refine lv_icmp_ne (tgt := 52) hx hb d_Md_judge_43 (by decide) (fun c6 => ?_) (fun c6 => ?_)
      · replace h := fr_iff c6 h
        refine lv_aload_n hx hb d_Md_judge_52 rfl (lv_at hl 0 rfl) ?_
        obtain ⟨q7, e7, h⟩ := fr_bind h
        refine fr_gP hx hb hts in_Md hown hK hH e7 rfl 24 (by decide) (hts _ k_564) (fun _ h9 => h9) rfl d_Md_judge_53 ?_
        refine lv_bipush (v := 6) hx hb d_Md_judge_56 (by decide) ?_
        refine lv_iload_n hx hb d_Md_judge_58 rfl (lv_at hl 1 rfl) ?_
        refine lv_imul hx hb d_Md_judge_59 ?_
        refine lv_aload_n hx hb d_Md_judge_60 rfl (lv_at hl 0 rfl) ?_
        obtain ⟨q8, e8, h⟩ := fr_bind h
        refine fr_gP hx hb hts in_Md hown hK hH e8 rfl 26 (by decide) (hts _ k_566) (fun _ h9 => h9) rfl d_Md_judge_61 ?_
        refine lv_iload_n hx hb d_Md_judge_64 rfl (lv_at hl 1 rfl) ?_
        obtain ⟨v9, e9, h⟩ := fr_bind h
        refine fr_ild hx hb hK hH e9 d_Md_judge_65 ?_
        refine lv_iadd hx hb d_Md_judge_66 ?_
        obtain ⟨v10, e10, h⟩ := fr_bind h
        refine fr_ild hx hb hK hH e10 d_Md_judge_67 ?_
        refine lv_istore_n (lv' := [(3, .int v10), (0, .ref b0), (1, .int y1), (2, .int y2)]) hx hb d_Md_judge_68 rfl hl (by decide) rfl (fun ls hl => ?_)
        refine lv_aload_n hx hb d_Md_judge_69 rfl (lv_at hl 1 rfl) ?_
        obtain ⟨q11, e11, h⟩ := fr_bind h
        refine fr_gP hx hb hts in_Md hown hK hH e11 rfl 21 (by decide) (hts _ k_561) (fun _ h9 => h9) rfl d_Md_judge_70 ?_
        refine lv_iload_n hx hb d_Md_judge_73 rfl (lv_at hl 0 rfl) ?_
        refine lv_iconst (v := 1) hx hb d_Md_judge_74 (by decide) ?_
        obtain ⟨σ_12, e12, h⟩ := fr_bind h
        refine fr_zst hx hb hK hH hS e12 d_Md_judge_75 (fun H locs hH hS => ?_)
        refine lv_aload_n hx hb d_Md_judge_76 rfl (lv_at hl 1 rfl) ?_
        obtain ⟨q13, e13, h⟩ := fr_bind h
        refine fr_gP hx hb hts in_Md hown hK hH e13 rfl 35 (by decide) (hts _ k_575) (fun _ h9 => h9) rfl d_Md_judge_77 ?_
        refine lv_aload_n hx hb d_Md_judge_80 rfl (lv_at hl 1 rfl) ?_
        obtain ⟨v14, e14, h⟩ := fr_bind h
        refine fr_gI hx hb hts in_Md hown hK hH e14 rfl 9 (by decide) (hts _ k_549) (fun _ h9 => h9) rfl d_Md_judge_81 ?_
        refine lv_iload_n hx hb d_Md_judge_84 rfl (lv_at hl 2 rfl) ?_
        obtain ⟨σ_15, e15, h⟩ := fr_bind h
        refine fr_ist hx hb hK hH hS e15 d_Md_judge_85 (fun H locs hH hS => ?_)
        refine lv_aload_n hx hb d_Md_judge_86 rfl (lv_at hl 1 rfl) ?_
        obtain ⟨q16, e16, h⟩ := fr_bind h
        refine fr_gP hx hb hts in_Md hown hK hH e16 rfl 36 (by decide) (hts _ k_576) (fun _ h9 => h9) rfl d_Md_judge_87 ?_
        refine lv_aload_n hx hb d_Md_judge_90 rfl (lv_at hl 1 rfl) ?_
        obtain ⟨v17, e17, h⟩ := fr_bind h
        refine fr_gI hx hb hts in_Md hown hK hH e17 rfl 9 (by decide) (hts _ k_549) (fun _ h9 => h9) rfl d_Md_judge_91 ?_
        refine lv_iload_n hx hb d_Md_judge_94 rfl (lv_at hl 0 rfl) ?_
        obtain ⟨σ_18, e18, h⟩ := fr_bind h
        refine fr_ist hx hb hK hH hS e18 d_Md_judge_95 (fun H locs hH hS => ?_)
        refine lv_aload_n hx hb d_Md_judge_96 rfl (lv_at hl 1 rfl) ?_
        obtain ⟨q19, e19, h⟩ := fr_bind h
        refine fr_gP hx hb hts in_Md hown hK hH e19 rfl 37 (by decide) (hts _ k_577) (fun _ h9 => h9) rfl d_Md_judge_97 ?_
        refine lv_aload_n hx hb d_Md_judge_100 rfl (lv_at hl 1 rfl) ?_
        obtain ⟨v20, e20, h⟩ := fr_bind h
        refine fr_gI hx hb hts in_Md hown hK hH e20 rfl 9 (by decide) (hts _ k_549) (fun _ h9 => h9) rfl d_Md_judge_101 ?_
        refine lv_iload_n hx hb d_Md_judge_104 rfl (lv_at hl 3 rfl) ?_
        obtain ⟨σ_21, e21, h⟩ := fr_bind h
        refine fr_ist hx hb hK hH hS e21 d_Md_judge_105 (fun H locs hH hS => ?_)
        refine lv_aload_n hx hb d_Md_judge_106 rfl (lv_at hl 1 rfl) ?_
        refine lv_dup hx hb d_Md_judge_107 rfl ?_
        obtain ⟨v22, e22, h⟩ := fr_bind h
        refine fr_gI hx hb hts in_Md hown hK hH e22 rfl 9 (by decide) (hts _ k_549) (fun _ h9 => h9) rfl d_Md_judge_108 ?_
        refine lv_iconst (v := 1) hx hb d_Md_judge_111 (by decide) ?_
        refine lv_iadd hx hb d_Md_judge_112 ?_
        obtain ⟨σ_23, e23, h⟩ := fr_bind h
        refine fr_putI hx hb hts in_Md ty_Md tk_Md nm_Md hown hK hH hS e23 rfl 9 (by decide) (hts _ k_549) (fun _ h9 => h9) rfl (by decide +kernel) (fs_0_9 _ _ _) (Nat.le_of_ble_eq_true rfl) d_Md_judge_113 (fun H locs hH hS => ?_)
        refine lv_aload_n hx hb d_Md_judge_116 rfl (lv_at hl 1 rfl) ?_
        refine lv_iload_n hx hb d_Md_judge_117 rfl (lv_at hl 2 rfl) ?_
        refine lv_aload_n hx hb d_Md_judge_118 rfl (lv_at hl 1 rfl) ?_
        obtain ⟨q24, e24, h⟩ := fr_bind h
        refine fr_gP hx hb hts in_Md hown hK hH e24 rfl 26 (by decide) (hts _ k_566) (fun _ h9 => h9) rfl d_Md_judge_119 ?_
        refine lv_iload_n hx hb d_Md_judge_122 rfl (lv_at hl 2 rfl) ?_
        obtain ⟨v25, e25, h⟩ := fr_bind h
        refine fr_ild hx hb hK hH e25 d_Md_judge_123 ?_
        refine lv_iconst (v := 1) hx hb d_Md_judge_124 (by decide) ?_
        refine lv_iadd hx hb d_Md_judge_125 ?_
        obtain ⟨u26, e26, h⟩ := fr_bind h
        obtain ⟨σ_27, e27, h⟩ := fr_bind h
        refine fr_callv (fr_V (As := [.int y1, .int (v25 + 1)]) (rest := []) ⟨hx, hb, hml, hown, hts⟩ (c_Md_goOn l D T A σ_23 b0 y1 ((v25 + 1)) σ_27 e27) k_734 mv_Md_goOn rfl rfl ⟨Nat.le_of_ble_eq_true rfl, Nat.le_of_ble_eq_true rfl⟩ (fr_preV hK hX hH e26 rfl _) rfl hl.1 rfl (Nat.le_of_ble_eq_true rfl) d_Md_judge_126 ⟨Nat.zero_le _, Nat.zero_le _⟩) hS (fun H locs hH hS => ?_)
        exact fr_vret hx hb hr hlocks h hH hK hX hS d_Md_judge_129
      · replace h := fr_ift c6 h
        refine lv_aload_n hx hb d_Md_judge_46 rfl (lv_at hl 0 rfl) ?_
        refine lv_iload_n hx hb d_Md_judge_47 rfl (lv_at hl 1 rfl) ?_
        obtain ⟨u28, e28, h⟩ := fr_bind h
        obtain ⟨σ_29, e29, h⟩ := fr_bind h
        refine fr_callv (fr_V (As := [.int y1]) (rest := []) ⟨hx, hb, hml, hown, hts⟩ (c_Md_keep l D T A σ b0 y1 σ_29 e29) k_754 mv_Md_keep rfl rfl ⟨Nat.le_of_ble_eq_true rfl, Nat.le_of_ble_eq_true rfl⟩ (fr_preV hK hX hH e28 rfl _) rfl hl.1 rfl (Nat.le_of_ble_eq_true rfl) d_Md_judge_48 ⟨Nat.zero_le _, Nat.zero_le _⟩) hS (fun H locs hH hS => ?_)
        exact fr_vret hx hb hr hlocks h hH hK hX hS d_Md_judge_51
    · replace h := fr_iff c3 h
      refine lv_iload_n hx hb d_Md_judge_14 rfl (lv_at hl 2 rfl) ?_
      refine lv_aload_n hx hb d_Md_judge_15 rfl (lv_at hl 0 rfl) ?_
      obtain ⟨q30, e30, h⟩ := fr_bind h
      refine fr_gP hx hb hts in_Md hown hK hH e30 rfl 28 (by decide) (hts _ k_568) (fun _ h9 => h9) rfl d_Md_judge_16 ?_
      refine lv_bipush (v := 100) hx hb d_Md_judge_19 (by decide) ?_
      refine lv_iload_n hx hb d_Md_judge_21 rfl (lv_at hl 1 rfl) ?_
      refine lv_imul hx hb d_Md_judge_22 ?_
      refine lv_iload_n hx hb d_Md_judge_23 rfl (lv_at hl 3 rfl) ?_
      refine lv_iadd hx hb d_Md_judge_24 ?_
      obtain ⟨v31, e31, h⟩ := fr_bind h
      refine fr_ild hx hb hK hH e31 d_Md_judge_25 ?_
      obtain ⟨r32, e32, h⟩ := fr_bind h
      refine fr_calli (fr_Sc (As := [.int y2, .int v31]) (rest := []) ⟨hx, hb, hml, hown, hts⟩ (c_Md_next l D T A σ y2 v31 r32 e32) k_702 ms_Md_next rfl rfl ⟨Nat.le_of_ble_eq_true rfl, Nat.le_of_ble_eq_true rfl⟩ (fr_preS hK hX hH _) rfl hl.1 rfl (Nat.le_of_ble_eq_true rfl) d_Md_judge_26 ⟨Nat.zero_le _, Nat.zero_le _⟩) hS (fun H locs hH hS => ?_)
      refine lv_istore_n (lv' := [(2, .int r32), (0, .ref b0), (1, .int y1), (3, .int y3)]) hx hb d_Md_judge_29 rfl hl (by decide) rfl (fun ls hl => ?_)
      refine lv_iinc (v := (y3 + 1)) (lv' := [(3, .int (y3 + 1)), (2, .int r32), (0, .ref b0), (1, .int y1)]) hx hb d_Md_judge_30 hl (k := 3) rfl rfl (by decide) rfl (fun ls hl => ?_)
      refine lv_goto (tgt := 4) hx hb d_Md_judge_33 (by decide) ?_
      exact ih b0 y1 r32 (y3 + 1) σ σ1 h _ _ hH hS ls (lv_sub hl [2, 3, 1, 0] rfl)
set_option maxHeartbeats 4000000 in
set_option maxRecDepth 100000 in
theorem c_Md_judge (l : Launch) (D : va_G) (T : Nat → ClassId) (A : Nat → Prop) (σ : fr_S) (h0 : Nat) (x1 : Int32) (σ1 : fr_S) (h : m_Md_judge h0 x1 σ = some σ1) : Met l y_Md_judge (Cond.code y_Md_judge b_Md_judge 4 none :: fr_W) ({ frames := 2, cells := 0, slots := 0, locals := 45 } : Room) (va_Pc [.ref h0, .int x1] (fr_B D T A σ)) (fr_Qv D T A σ1) 0 0 A := by
  refine Met.ofW (cc := b_Md_judge) (maxL := 4) (ret := none) (by decide) rfl ?_
  intro p e s m args below meth c s₁ B hml hv
  obtain ⟨rfl, hH, hK, hX⟩ := hv
  have C0 : fr_At p s m _ meth c "FetchRulesModel" b_Md_judge 4 none := fr_at B hml
  obtain ⟨hx, hb, hr, hml, hown, hts, hlocks⟩ := id C0
  have hS : va_S A s.heap s.heap [] := va_S.rf
  have hl := lv_entry ([.ref h0, .int x1]) (n := 4) (Nat.le_of_ble_eq_true rfl)
  rw [lg_entry_eq]
  generalize (lg_sl ([.ref h0, .int x1]) ++ List.replicate (4 - (lg_sl ([.ref h0, .int x1])).length) Slot.unset).toArray = ls at hl ⊢
  have hl : lv_has ls 4 [(0, .ref h0), (1, .int x1)] := hl
  unfold m_Md_judge at h
  refine lv_iconst (v := 0) hx hb d_Md_judge_0 (by decide) ?_
  refine lv_istore_n (lv' := [(2, .int 0), (0, .ref h0), (1, .int x1)]) hx hb d_Md_judge_1 rfl hl (by decide) rfl (fun ls hl => ?_)
  refine lv_iconst (v := 0) hx hb d_Md_judge_2 (by decide) ?_
  refine lv_istore_n (lv' := [(3, .int 0), (2, .int 0), (0, .ref h0), (1, .int x1)]) hx hb d_Md_judge_3 rfl hl (by decide) rfl (fun ls hl => ?_)
  exact w_Md_judge_L4 C0 hK hX 1000 h0 x1 0 0 σ σ1 h _ _ hH hS ls (lv_sub hl [2, 3, 1, 0] rfl)
