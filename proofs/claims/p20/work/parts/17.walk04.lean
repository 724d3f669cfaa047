set_option maxHeartbeats 4000000 in
set_option maxRecDepth 100000 in
theorem c_Md_about (l : Launch) (D : va_G) (T : Nat → ClassId) (A : Nat → Prop) (σ : fr_S) (h0 : Nat) (x1 : Int32) (x2 : Int32) (r : Int32) (σ1 : fr_S) (h : m_Md_about h0 x1 x2 σ = some (r, σ1)) : Met l y_Md_about (Cond.code y_Md_about b_Md_about 4 (some .int) :: fr_W) ({ frames := 1, cells := 0, slots := 0, locals := 21 } : Room) (va_Pc [.ref h0, .int x1, .int x2] (fr_B D T A σ)) (fr_Qi D T A r σ1) 0 0 A := by
  refine Met.ofW (cc := b_Md_about) (maxL := 4) (ret := (some .int)) (by decide) rfl ?_
  intro p e s m args below meth c s₁ B hml hv
  obtain ⟨rfl, hH, hK, hX⟩ := hv
  have C0 : fr_At p s m _ meth c "FetchRulesModel" b_Md_about 4 (some .int) := fr_at B hml
  obtain ⟨hx, hb, hr, hml, hown, hts, hlocks⟩ := id C0
  have hS : va_S A s.heap s.heap [] := va_S.rf
  have hl := lv_entry ([.ref h0, .int x1, .int x2]) (n := 4) (Nat.le_of_ble_eq_true rfl)
  rw [lg_entry_eq]
  generalize (lg_sl ([.ref h0, .int x1, .int x2]) ++ List.replicate (4 - (lg_sl ([.ref h0, .int x1, .int x2])).length) Slot.unset).toArray = ls at hl ⊢
  have hl : lv_has ls 4 [(0, .ref h0), (1, .int x1), (2, .int x2)] := hl
  unfold m_Md_about at h
  refine lv_aload_n hx hb d_Md_about_0 rfl (lv_at hl 0 rfl) ?_
  refine lv_iconst (v := 0) hx hb d_Md_about_1 (by decide) ?_
  obtain ⟨σ_1, e1, h⟩ := fr_bind h
  refine fr_putI hx hb hts in_Md ty_Md tk_Md nm_Md hown hK hH hS e1 rfl 1 (by decide) (hts _ k_541) (fun _ h9 => h9) rfl (by decide +kernel) (fs_0_1 _ _ _) (Nat.le_of_ble_eq_true rfl) d_Md_about_2 (fun H locs hH hS => ?_)
  refine lv_aload_n hx hb d_Md_about_5 rfl (lv_at hl 0 rfl) ?_
  refine lv_iload_n hx hb d_Md_about_6 rfl (lv_at hl 1 rfl) ?_
  obtain ⟨u2, e2, h⟩ := fr_bind h
  obtain ⟨r3, e3, h⟩ := fr_bind h
  refine fr_calli (fr_V (As := [.int x1]) (rest := []) ⟨hx, hb, hml, hown, hts⟩ (c_Md_isWant l D T A σ_1 h0 x1 r3 e3) k_714 mv_Md_isWant rfl rfl ⟨Nat.le_of_ble_eq_true rfl, Nat.le_of_ble_eq_true rfl⟩ (fr_preV hK hX hH e2 rfl _) rfl hl.1 rfl (Nat.le_of_ble_eq_true rfl) d_Md_about_7 ⟨Nat.zero_le _, Nat.zero_le _⟩) hS (fun H locs hH hS => ?_)
  refine lv_if_ne (tgt := 15) hx hb d_Md_about_10 (by decide) (fun c4 => ?_) (fun c4 => ?_)
  · replace h := fr_iff c4 h
    refine lv_aload_n hx hb d_Md_about_15 rfl (lv_at hl 0 rfl) ?_
    obtain ⟨q5, e5, h⟩ := fr_bind h
    refine fr_gP hx hb hts in_Md hown hK hH e5 rfl 25 (by decide) (hts _ k_565) (fun _ h9 => h9) rfl d_Md_about_16 ?_
    refine lv_iload_n hx hb d_Md_about_19 rfl (lv_at hl 1 rfl) ?_
    obtain ⟨v6, e6, h⟩ := fr_bind h
    refine fr_ild hx hb hK hH e6 d_Md_about_20 ?_
    refine lv_iconst (v := 1) hx hb d_Md_about_21 (by decide) ?_
    refine lv_icmp_eq (tgt := 35) hx hb d_Md_about_22 (by decide) (fun c7 => ?_) (fun c7 => ?_)
    · replace h := fr_ift c7 h
      refine lv_iconst (v := 1) hx hb d_Md_about_35 (by decide) ?_
      refine lv_goto (tgt := 40) hx hb d_Md_about_36 (by decide) ?_
      refine lv_istore_n (lv' := [(3, .int 1), (0, .ref h0), (1, .int x1), (2, .int x2)]) hx hb d_Md_about_40 rfl hl (by decide) rfl (fun ls hl => ?_)
      refine lv_iload_n hx hb d_Md_about_41 rfl (lv_at hl 3 rfl) ?_
      by_cases c8 : x2 = 0
      · replace h := fr_ift c8 h
        refine lv_tableIn (tgt := 76) hx hb d_Md_about_42 (by rw [c8]; decide) (by rw [c8]; decide) (by rw [c8]; rfl) (by decide) ?_
        refine lv_aload_n hx hb d_Md_about_76 rfl (lv_at hl 1 rfl) ?_
        obtain ⟨q9, e9, h⟩ := fr_bind h
        refine fr_gP hx hb hts in_Md hown hK hH e9 rfl 25 (by decide) (hts _ k_565) (fun _ h9 => h9) rfl d_Md_about_77 ?_
        refine lv_iload_n hx hb d_Md_about_80 rfl (lv_at hl 2 rfl) ?_
        obtain ⟨v10, e10, h⟩ := fr_bind h
        refine fr_ild hx hb hK hH e10 d_Md_about_81 ?_
        exact fr_iret hx hb hr hlocks  h hH hK hX hS d_Md_about_82
      · replace h := fr_iff c8 h
        by_cases c11 : x2 = 1
        · replace h := fr_ift c11 h
          refine lv_tableIn (tgt := 83) hx hb d_Md_about_42 (by rw [c11]; decide) (by rw [c11]; decide) (by rw [c11]; rfl) (by decide) ?_
          refine lv_iload_n hx hb d_Md_about_83 rfl (lv_at hl 0 rfl) ?_
          refine lv_if_eq (tgt := 106) hx hb d_Md_about_84 (by decide) (fun c12 => ?_) (fun c12 => ?_)
          · exact absurd c12 (by decide)
          · refine lv_aload_n hx hb d_Md_about_87 rfl (lv_at hl 1 rfl) ?_
            obtain ⟨q13, e13, h⟩ := fr_bind h
            refine fr_gP hx hb hts in_Md hown hK hH e13 rfl 24 (by decide) (hts _ k_564) (fun _ h9 => h9) rfl d_Md_about_88 ?_
            refine lv_bipush (v := 6) hx hb d_Md_about_91 (by decide) ?_
            refine lv_iload_n hx hb d_Md_about_93 rfl (lv_at hl 2 rfl) ?_
            refine lv_imul hx hb d_Md_about_94 ?_
            refine lv_aload_n hx hb d_Md_about_95 rfl (lv_at hl 1 rfl) ?_
            obtain ⟨q14, e14, h⟩ := fr_bind h
            refine fr_gP hx hb hts in_Md hown hK hH e14 rfl 26 (by decide) (hts _ k_566) (fun _ h9 => h9) rfl d_Md_about_96 ?_
            refine lv_iload_n hx hb d_Md_about_99 rfl (lv_at hl 2 rfl) ?_
            obtain ⟨v15, e15, h⟩ := fr_bind h
            refine fr_ild hx hb hK hH e15 d_Md_about_100 ?_
            refine lv_iadd hx hb d_Md_about_101 ?_
            obtain ⟨v16, e16, h⟩ := fr_bind h
            refine fr_ild hx hb hK hH e16 d_Md_about_102 ?_
            refine lv_goto (tgt := 107) hx hb d_Md_about_103 (by decide) ?_
            exact fr_iret hx hb hr hlocks  h hH hK hX hS d_Md_about_107
        · replace h := fr_iff c11 h
          by_cases c17 : x2 = 2
          · replace h := fr_ift c17 h
            refine lv_tableIn (tgt := 108) hx hb d_Md_about_42 (by rw [c17]; decide) (by rw [c17]; decide) (by rw [c17]; rfl) (by decide) ?_
            refine lv_aload_n hx hb d_Md_about_108 rfl (lv_at hl 1 rfl) ?_
            obtain ⟨q18, e18, h⟩ := fr_bind h
            refine fr_gP hx hb hts in_Md hown hK hH e18 rfl 27 (by decide) (hts _ k_567) (fun _ h9 => h9) rfl d_Md_about_109 ?_
            refine lv_iload_n hx hb d_Md_about_112 rfl (lv_at hl 2 rfl) ?_
            obtain ⟨v19, e19, h⟩ := fr_bind h
            refine fr_ild hx hb hK hH e19 d_Md_about_113 ?_
            exact fr_iret hx hb hr hlocks  h hH hK hX hS d_Md_about_114
          · replace h := fr_iff c17 h
            by_cases c20 : x2 = 3
            · replace h := fr_ift c20 h
              refine lv_tableIn (tgt := 115) hx hb d_Md_about_42 (by rw [c20]; decide) (by rw [c20]; decide) (by rw [c20]; rfl) (by decide) ?_
              refine lv_aload_n hx hb d_Md_about_115 rfl (lv_at hl 1 rfl) ?_
              obtain ⟨q21, e21, h⟩ := fr_bind h
              refine fr_gP hx hb hts in_Md hown hK hH e21 rfl 25 (by decide) (hts _ k_565) (fun _ h9 => h9) rfl d_Md_about_116 ?_
              refine lv_iload_n hx hb d_Md_about_119 rfl (lv_at hl 2 rfl) ?_
              obtain ⟨v22, e22, h⟩ := fr_bind h
              refine fr_ild hx hb hK hH e22 d_Md_about_120 ?_
              refine lv_iconst (v := 2) hx hb d_Md_about_121 (by decide) ?_
              refine lv_icmp_ne (tgt := 134) hx hb d_Md_about_122 (by decide) (fun c23 => ?_) (fun c23 => ?_)
              · replace h := fr_iff c23 h
                refine lv_iconst (v := (-1)) hx hb d_Md_about_134 (by decide) ?_
                exact fr_iret hx hb hr hlocks  h hH hK hX hS d_Md_about_135
              · replace h := fr_ift c23 h
                refine lv_aload_n hx hb d_Md_about_125 rfl (lv_at hl 1 rfl) ?_
                obtain ⟨q24, e24, h⟩ := fr_bind h
                refine fr_gP hx hb hts in_Md hown hK hH e24 rfl 29 (by decide) (hts _ k_569) (fun _ h9 => h9) rfl d_Md_about_126 ?_
                refine lv_iload_n hx hb d_Md_about_129 rfl (lv_at hl 2 rfl) ?_
                obtain ⟨v25, e25, h⟩ := fr_bind h
                refine fr_ild hx hb hK hH e25 d_Md_about_130 ?_
                refine lv_goto (tgt := 135) hx hb d_Md_about_131 (by decide) ?_
                exact fr_iret hx hb hr hlocks  h hH hK hX hS d_Md_about_135
            · replace h := fr_iff c20 h
              by_cases c26 : x2 = 4
              · replace h := fr_ift c26 h
                refine lv_tableIn (tgt := 136) hx hb d_Md_about_42 (by rw [c26]; decide) (by rw [c26]; decide) (by rw [c26]; rfl) (by decide) ?_
                refine lv_aload_n hx hb d_Md_about_136 rfl (lv_at hl 1 rfl) ?_
                obtain ⟨q27, e27, h⟩ := fr_bind h
                refine fr_gP hx hb hts in_Md hown hK hH e27 rfl 30 (by decide) (hts _ k_570) (fun _ h9 => h9) rfl d_Md_about_137 ?_
                refine lv_iload_n hx hb d_Md_about_140 rfl (lv_at hl 2 rfl) ?_
                obtain ⟨v28, e28, h⟩ := fr_bind h
                refine fr_ild hx hb hK hH e28 d_Md_about_141 ?_
                exact fr_iret hx hb hr hlocks  h hH hK hX hS d_Md_about_142
              · replace h := fr_iff c26 h
                refine lv_tableOut (tgt := 143) hx hb d_Md_about_42 (by have z0 := lv_neT c8 (a := 0) (by decide); have z1 := lv_neT c11 (a := 1) (by decide); have z2 := lv_neT c17 (a := 2) (by decide); have z3 := lv_neT c20 (a := 3) (by decide); have z4 := lv_neT c26 (a := 4) (by decide); omega) (by decide) ?_
                refine lv_iconst (v := (-1)) hx hb d_Md_about_143 (by decide) ?_
                exact fr_iret hx hb hr hlocks  h hH hK hX hS d_Md_about_144
    · replace h := fr_iff c7 h
      refine lv_aload_n hx hb d_Md_about_25 rfl (lv_at hl 0 rfl) ?_
      obtain ⟨q29, e29, h⟩ := fr_bind h
      refine fr_gP hx hb hts in_Md hown hK hH e29 rfl 25 (by decide) (hts _ k_565) (fun _ h9 => h9) rfl d_Md_about_26 ?_
      refine lv_iload_n hx hb d_Md_about_29 rfl (lv_at hl 1 rfl) ?_
      obtain ⟨v30, e30, h⟩ := fr_bind h
      refine fr_ild hx hb hK hH e30 d_Md_about_30 ?_
      refine lv_iconst (v := 2) hx hb d_Md_about_31 (by decide) ?_
      refine lv_icmp_ne (tgt := 39) hx hb d_Md_about_32 (by decide) (fun c31 => ?_) (fun c31 => ?_)
      · replace h := fr_iff c31 h
        refine lv_iconst (v := 0) hx hb d_Md_about_39 (by decide) ?_
        refine lv_istore_n (lv' := [(3, .int 0), (0, .ref h0), (1, .int x1), (2, .int x2)]) hx hb d_Md_about_40 rfl hl (by decide) rfl (fun ls hl => ?_)
        refine lv_iload_n hx hb d_Md_about_41 rfl (lv_at hl 3 rfl) ?_
        by_cases c32 : x2 = 0
        · replace h := fr_ift c32 h
          refine lv_tableIn (tgt := 76) hx hb d_Md_about_42 (by rw [c32]; decide) (by rw [c32]; decide) (by rw [c32]; rfl) (by decide) ?_
          refine lv_aload_n hx hb d_Md_about_76 rfl (lv_at hl 1 rfl) ?_
          obtain ⟨q33, e33, h⟩ := fr_bind h
          refine fr_gP hx hb hts in_Md hown hK hH e33 rfl 25 (by decide) (hts _ k_565) (fun _ h9 => h9) rfl d_Md_about_77 ?_
          refine lv_iload_n hx hb d_Md_about_80 rfl (lv_at hl 2 rfl) ?_
          obtain ⟨v34, e34, h⟩ := fr_bind h
          refine fr_ild hx hb hK hH e34 d_Md_about_81 ?_
          exact fr_iret hx hb hr hlocks  h hH hK hX hS d_Md_about_82
        · replace h := fr_iff c32 h
          by_cases c35 : x2 = 1
          · replace h := fr_ift c35 h
            refine lv_tableIn (tgt := 83) hx hb d_Md_about_42 (by rw [c35]; decide) (by rw [c35]; decide) (by rw [c35]; rfl) (by decide) ?_
            refine lv_iload_n hx hb d_Md_about_83 rfl (lv_at hl 0 rfl) ?_
            refine lv_if_eq (tgt := 106) hx hb d_Md_about_84 (by decide) (fun c36 => ?_) (fun c36 => ?_)
            · refine lv_iconst (v := (-1)) hx hb d_Md_about_106 (by decide) ?_
              exact fr_iret hx hb hr hlocks  h hH hK hX hS d_Md_about_107
            · exact absurd (by decide) c36
          · replace h := fr_iff c35 h
            by_cases c37 : x2 = 2
            · replace h := fr_ift c37 h
              refine lv_tableIn (tgt := 108) hx hb d_Md_about_42 (by rw [c37]; decide) (by rw [c37]; decide) (by rw [c37]; rfl) (by decide) ?_
              refine lv_aload_n hx hb d_Md_about_108 rfl (lv_at hl 1 rfl) ?_
              obtain ⟨q38, e38, h⟩ := fr_bind h
              refine fr_gP hx hb hts in_Md hown hK hH e38 rfl 27 (by decide) (hts _ k_567) (fun _ h9 => h9) rfl d_Md_about_109 ?_
              refine lv_iload_n hx hb d_Md_about_112 rfl (lv_at hl 2 rfl) ?_
              obtain ⟨v39, e39, h⟩ := fr_bind h
              refine fr_ild hx hb hK hH e39 d_Md_about_113 ?_
              exact fr_iret hx hb hr hlocks  h hH hK hX hS d_Md_about_114
            · replace h := fr_iff c37 h
              by_cases c40 : x2 = 3
              · replace h := fr_ift c40 h
                refine lv_tableIn (tgt := 115) hx hb d_Md_about_42 (by rw [c40]; decide) (by rw [c40]; decide) (by rw [c40]; rfl) (by decide) ?_
                refine lv_aload_n hx hb d_Md_about_115 rfl (lv_at hl 1 rfl) ?_
                obtain ⟨q41, e41, h⟩ := fr_bind h
                refine fr_gP hx hb hts in_Md hown hK hH e41 rfl 25 (by decide) (hts _ k_565) (fun _ h9 => h9) rfl d_Md_about_116 ?_
                refine lv_iload_n hx hb d_Md_about_119 rfl (lv_at hl 2 rfl) ?_
                obtain ⟨v42, e42, h⟩ := fr_bind h
                refine fr_ild hx hb hK hH e42 d_Md_about_120 ?_
                refine lv_iconst (v := 2) hx hb d_Md_about_121 (by decide) ?_
                refine lv_icmp_ne (tgt := 134) hx hb d_Md_about_122 (by decide) (fun c43 => ?_) (fun c43 => ?_)
                · replace h := fr_iff c43 h
                  refine lv_iconst (v := (-1)) hx hb d_Md_about_134 (by decide) ?_
                  exact fr_iret hx hb hr hlocks  h hH hK hX hS d_Md_about_135
                · replace h := fr_ift c43 h
                  refine lv_aload_n hx hb d_Md_about_125 rfl (lv_at hl 1 rfl) ?_
                  obtain ⟨q44, e44, h⟩ := fr_bind h
                  refine fr_gP hx hb hts in_Md hown hK hH e44 rfl 29 (by decide) (hts _ k_569) (fun _ h9 => h9) rfl d_Md_about_126 ?_
                  refine lv_iload_n hx hb d_Md_about_129 rfl (lv_at hl 2 rfl) ?_
                  obtain ⟨v45, e45, h⟩ := fr_bind h
                  refine fr_ild hx hb hK hH e45 d_Md_about_130 ?_
                  refine lv_goto (tgt := 135) hx hb d_Md_about_131 (by decide) ?_
                  exact fr_iret hx hb hr hlocks  h hH hK hX hS d_Md_about_135
              · replace h := fr_iff c40 h
                by_cases c46 : x2 = 4
                · replace h := fr_ift c46 h
                  refine lv_tableIn (tgt := 136) hx hb d_Md_about_42 (by rw [c46]; decide) (by rw [c46]; decide) (by rw [c46]; rfl) (by decide) ?_
                  refine lv_aload_n hx hb d_Md_about_136 rfl (lv_at hl 1 rfl) ?_
                  obtain ⟨q47, e47, h⟩ := fr_bind h
                  refine fr_gP hx hb hts in_Md hown hK hH e47 rfl 30 (by decide) (hts _ k_570) (fun _ h9 => h9) rfl d_Md_about_137 ?_
                  refine lv_iload_n hx hb d_Md_about_140 rfl (lv_at hl 2 rfl) ?_
                  obtain ⟨v48, e48, h⟩ := fr_bind h
                  refine fr_ild hx hb hK hH e48 d_Md_about_141 ?_
                  exact fr_iret hx hb hr hlocks  h hH hK hX hS d_Md_about_142
                · replace h := fr_iff c46 h
                  refine lv_tableOut (tgt := 143) hx hb d_Md_about_42 (by have z0 := lv_neT c32 (a := 0) (by decide); have z1 := lv_neT c35 (a := 1) (by decide); have z2 := lv_neT c37 (a := 2) (by decide); have z3 := lv_neT c40 (a := 3) (by decide); have z4 := lv_neT c46 (a := 4) (by decide); omega) (by decide) ?_
                  refine lv_iconst (v := (-1)) hx hb d_Md_about_143 (by decide) ?_
                  exact fr_iret hx hb hr hlocks  h hH hK hX hS d_Md_about_144
      · replace h := fr_ift c31 h
        refine lv_iconst (v := 1) hx hb d_Md_about_35 (by decide) ?_
        refine lv_goto (tgt := 40) hx hb d_Md_about_36 (by decide) ?_
        refine lv_istore_n (lv' := [(3, .int 1), (0, .ref h0), (1, .int x1), (2, .int x2)]) hx hb d_Md_about_40 rfl hl (by decide) rfl (fun ls hl => ?_)
        refine lv_iload_n hx hb d_Md_about_41 rfl (lv_at hl 3 rfl) ?_
        by_cases c49 : x2 = 0
        · replace h := fr_ift c49 h
          refine lv_tableIn (tgt := 76) hx hb d_Md_about_42 (by rw [c49]; decide) (by rw [c49]; decide) (by rw [c49]; rfl) (by decide) ?_
          refine lv_aload_n hx hb d_Md_about_76 rfl (lv_at hl 1 rfl) ?_
          obtain ⟨q50, e50, h⟩ := fr_bind h
          refine fr_gP hx hb hts in_Md hown hK hH e50 rfl 25 (by decide) (hts _ k_565) (fun _ h9 => h9) rfl d_Md_about_77 ?_
          refine lv_iload_n hx hb d_Md_about_80 rfl (lv_at hl 2 rfl) ?_
          obtain ⟨v51, e51, h⟩ := fr_bind h
          refine fr_ild hx hb hK hH e51 d_Md_about_81 ?_
          exact fr_iret hx hb hr hlocks  h hH hK hX hS d_Md_about_82
        · replace h := fr_iff c49 h
          by_cases c52 : x2 = 1
          · replace h := fr_ift c52 h
            refine lv_tableIn (tgt := 83) hx hb d_Md_about_42 (by rw [c52]; decide) (by rw [c52]; decide) (by rw [c52]; rfl) (by decide) ?_
            refine lv_iload_n hx hb d_Md_about_83 rfl (lv_at hl 0 rfl) ?_
            refine lv_if_eq (tgt := 106) hx hb d_Md_about_84 (by decide) (fun c53 => ?_) (fun c53 => ?_)
            · exact absurd c53 (by decide)
            · refine lv_aload_n hx hb d_Md_about_87 rfl (lv_at hl 1 rfl) ?_
              obtain ⟨q54, e54, h⟩ := fr_bind h
              refine fr_gP hx hb hts in_Md hown hK hH e54 rfl 24 (by decide) (hts _ k_564) (fun _ h9 => h9) rfl d_Md_about_88 ?_
              refine lv_bipush (v := 6) hx hb d_Md_about_91 (by decide) ?_
              refine lv_iload_n hx hb d_Md_about_93 rfl (lv_at hl 2 rfl) ?_
              refine lv_imul hx hb d_Md_about_94 ?_
              refine lv_aload_n hx hb d_Md_about_95 rfl (lv_at hl 1 rfl) ?_
              obtain ⟨q55, e55, h⟩ := fr_bind h
              refine fr_gP hx hb hts in_Md hown hK hH e55 rfl 26 (by decide) (hts _ k_566) (fun _ h9 => h9) rfl d_Md_about_96 ?_
              refine lv_iload_n hx hb d_Md_about_99 rfl (lv_at hl 2 rfl) ?_
              obtain ⟨v56, e56, h⟩ := fr_bind h
              refine fr_ild hx hb hK hH e56 d_Md_about_100 ?_
              refine lv_iadd hx hb d_Md_about_101 ?_
              obtain ⟨v57, e57, h⟩ := fr_bind h
              refine fr_ild hx hb hK hH e57 d_Md_about_102 ?_
              refine lv_goto (tgt := 107) hx hb d_Md_about_103 (by decide) ?_
              exact fr_iret hx hb hr hlocks  h hH hK hX hS d_Md_about_107
          · replace h := fr_iff c52 h
            by_cases c58 : x2 = 2
            · replace h := fr_ift c58 h
              refine lv_tableIn (tgt := 108) hx hb d_Md_about_42 (by rw [c58]; decide) (by rw [c58]; decide) (by rw [c58]; rfl) (by decide) ?_
              refine lv_aload_n hx hb d_Md_about_108 rfl (lv_at hl 1 rfl) ?_
              obtain ⟨q59, e59, h⟩ := fr_bind h
              refine fr_gP hx hb hts in_Md hown hK hH e59 rfl 27 (by decide) (hts _ k_567) (fun _ h9 => h9) rfl d_Md_about_109 ?_
              refine lv_iload_n hx hb d_Md_about_112 rfl (lv_at hl 2 rfl) ?_
              obtain ⟨v60, e60, h⟩ := fr_bind h
              refine fr_ild hx hb hK hH e60 d_Md_about_113 ?_
              exact fr_iret hx hb hr hlocks  h hH hK hX hS d_Md_about_114
            · replace h := fr_iff c58 h
              by_cases c61 : x2 = 3
              · replace h := fr_ift c61 h
                refine lv_tableIn (tgt := 115) hx hb d_Md_about_42 (by rw [c61]; decide) (by rw [c61]; decide) (by rw [c61]; rfl) (by decide) ?_
                refine lv_aload_n hx hb d_Md_about_115 rfl (lv_at hl 1 rfl) ?_
                obtain ⟨q62, e62, h⟩ := fr_bind h
                refine fr_gP hx hb hts in_Md hown hK hH e62 rfl 25 (by decide) (hts _ k_565) (fun _ h9 => h9) rfl d_Md_about_116 ?_
                refine lv_iload_n hx hb d_Md_about_119 rfl (lv_at hl 2 rfl) ?_
                obtain ⟨v63, e63, h⟩ := fr_bind h
                refine fr_ild hx hb hK hH e63 d_Md_about_120 ?_
                refine lv_iconst (v := 2) hx hb d_Md_about_121 (by decide) ?_
                refine lv_icmp_ne (tgt := 134) hx hb d_Md_about_122 (by decide) (fun c64 => ?_) (fun c64 => ?_)
                · replace h := fr_iff c64 h
                  refine lv_iconst (v := (-1)) hx hb d_Md_about_134 (by decide) ?_
                  exact fr_iret hx hb hr hlocks  h hH hK hX hS d_Md_about_135
                · replace h := fr_ift c64 h
                  refine lv_aload_n hx hb d_Md_about_125 rfl (lv_at hl 1 rfl) ?_
                  obtain ⟨q65, e65, h⟩ := fr_bind h
                  refine fr_gP hx hb hts in_Md hown hK hH e65 rfl 29 (by decide) (hts _ k_569) (fun _ h9 => h9) rfl d_Md_about_126 ?_
                  refine lv_iload_n hx hb d_Md_about_129 rfl (lv_at hl 2 rfl) ?_
                  obtain ⟨v66, e66, h⟩ := fr_bind h
                  refine fr_ild hx hb hK hH e66 d_Md_about_130 ?_
                  refine lv_goto (tgt := 135) hx hb d_Md_about_131 (by decide) ?_
                  exact fr_iret hx hb hr hlocks  h hH hK hX hS d_Md_about_135
              · replace h := fr_iff c61 h
                by_cases c67 : x2 = 4
                · replace h := fr_ift c67 h
                  refine lv_tableIn (tgt := 136) hx hb d_Md_about_42 (by rw [c67]; decide) (by rw [c67]; decide) (by rw [c67]; rfl) (by decide) ?_
                  refine lv_aload_n hx hb d_Md_about_136 rfl (lv_at hl 1 rfl) ?_
                  obtain ⟨q68, e68, h⟩ := fr_bind h
                  refine fr_gP hx hb hts in_Md hown hK hH e68 rfl 30 (by decide) (hts _ k_570) (fun _ h9 => h9) rfl d_Md_about_137 ?_
                  refine lv_iload_n hx hb d_Md_about_140 rfl (lv_at hl 2 rfl) ?_
                  obtain ⟨v69, e69, h⟩ := fr_bind h
                  refine fr_ild hx hb hK hH e69 d_Md_about_141 ?_
                  exact fr_iret hx hb hr hlocks  h hH hK hX hS d_Md_about_142
                · replace h := fr_iff c67 h
                  refine lv_tableOut (tgt := 143) hx hb d_Md_about_42 (by have z0 := lv_neT c49 (a := 0) (by decide); have z1 := lv_neT c52 (a := 1) (by decide); have z2 := lv_neT c58 (a := 2) (by decide); have z3 := lv_neT c61 (a := 3) (by decide); have z4 := lv_neT c67 (a := 4) (by decide); omega) (by decide) ?_
                  refine lv_iconst (v := (-1)) hx hb d_Md_about_143 (by decide) ?_
                  exact fr_iret hx hb hr hlocks  h hH hK hX hS d_Md_about_144
  · replace h := fr_ift c4 h
    refine lv_iconst (v := (-1)) hx hb d_Md_about_13 (by decide) ?_
    exact fr_iret hx hb hr hlocks  h hH hK hX hS d_Md_about_14
set_option maxHeartbeats 4000000 in
set_option maxRecDepth 100000 in
theorem c_Md_byteOf (l : Launch) (D : va_G) (T : Nat → ClassId) (A : Nat → Prop) (σ : fr_S) (h0 : Nat) (x1 : Int32) (x2 : Int32) (r : Int32) (σ1 : fr_S) (h : m_Md_byteOf h0 x1 x2 σ = some (r, σ1)) : Met l y_Md_byteOf (Cond.code y_Md_byteOf b_Md_byteOf 3 (some .int) :: fr_W) ({ frames := 1, cells := 0, slots := 0, locals := 21 } : Room) (va_Pc [.ref h0, .int x1, .int x2] (fr_B D T A σ)) (fr_Qi D T A r σ1) 0 0 A := by
  refine Met.ofW (cc := b_Md_byteOf) (maxL := 3) (ret := (some .int)) (by decide) rfl ?_
  intro p e s m args below meth c s₁ B hml hv
  obtain ⟨rfl, hH, hK, hX⟩ := hv
  have C0 : fr_At p s m _ meth c "FetchRulesModel" b_Md_byteOf 3 (some .int) := fr_at B hml
  obtain ⟨hx, hb, hr, hml, hown, hts, hlocks⟩ := id C0
  have hS : va_S A s.heap s.heap [] := va_S.rf
  have hl := lv_entry ([.ref h0, .int x1, .int x2]) (n := 3) (Nat.le_of_ble_eq_true rfl)
  rw [lg_entry_eq]
  generalize (lg_sl ([.ref h0, .int x1, .int x2]) ++ List.replicate (3 - (lg_sl ([.ref h0, .int x1, .int x2])).length) Slot.unset).toArray = ls at hl ⊢
  have hl : lv_has ls 3 [(0, .ref h0), (1, .int x1), (2, .int x2)] := hl
  unfold m_Md_byteOf at h
  refine lv_aload_n hx hb d_Md_byteOf_0 rfl (lv_at hl 0 rfl) ?_
  refine lv_iconst (v := 0) hx hb d_Md_byteOf_1 (by decide) ?_
  obtain ⟨σ_1, e1, h⟩ := fr_bind h
  refine fr_putI hx hb hts in_Md ty_Md tk_Md nm_Md hown hK hH hS e1 rfl 1 (by decide) (hts _ k_541) (fun _ h9 => h9) rfl (by decide +kernel) (fs_0_1 _ _ _) (Nat.le_of_ble_eq_true rfl) d_Md_byteOf_2 (fun H locs hH hS => ?_)
  refine lv_aload_n hx hb d_Md_byteOf_5 rfl (lv_at hl 0 rfl) ?_
  refine lv_iload_n hx hb d_Md_byteOf_6 rfl (lv_at hl 1 rfl) ?_
  obtain ⟨u2, e2, h⟩ := fr_bind h
  obtain ⟨r3, e3, h⟩ := fr_bind h
  refine fr_calli (fr_V (As := [.int x1]) (rest := []) ⟨hx, hb, hml, hown, hts⟩ (c_Md_isWant l D T A σ_1 h0 x1 r3 e3) k_714 mv_Md_isWant rfl rfl ⟨Nat.le_of_ble_eq_true rfl, Nat.le_of_ble_eq_true rfl⟩ (fr_preV hK hX hH e2 rfl _) rfl hl.1 rfl (Nat.le_of_ble_eq_true rfl) d_Md_byteOf_7 ⟨Nat.zero_le _, Nat.zero_le _⟩) hS (fun H locs hH hS => ?_)
  refine lv_if_eq (tgt := 27) hx hb d_Md_byteOf_10 (by decide) (fun c4 => ?_) (fun c4 => ?_)
  · replace h := fr_ift c4 h
    refine lv_iconst (v := (-1)) hx hb d_Md_byteOf_27 (by decide) ?_
    refine lv_goto (tgt := 42) hx hb d_Md_byteOf_28 (by decide) ?_
    exact fr_iret hx hb hr hlocks  h hH hK hX hS d_Md_byteOf_42
  · replace h := fr_iff c4 h
    refine lv_iload_n hx hb d_Md_byteOf_13 rfl (lv_at hl 2 rfl) ?_
    refine lv_if_lt (tgt := 27) hx hb d_Md_byteOf_14 (by decide) (fun c5 => ?_) (fun c5 => ?_)
    · replace h := fr_ift c5 h
      refine lv_iconst (v := (-1)) hx hb d_Md_byteOf_27 (by decide) ?_
      refine lv_goto (tgt := 42) hx hb d_Md_byteOf_28 (by decide) ?_
      exact fr_iret hx hb hr hlocks  h hH hK hX hS d_Md_byteOf_42
    · replace h := fr_iff c5 h
      refine lv_iload_n hx hb d_Md_byteOf_17 rfl (lv_at hl 2 rfl) ?_
      refine lv_aload_n hx hb d_Md_byteOf_18 rfl (lv_at hl 0 rfl) ?_
      obtain ⟨q6, e6, h⟩ := fr_bind h
      refine fr_gP hx hb hts in_Md hown hK hH e6 rfl 27 (by decide) (hts _ k_567) (fun _ h9 => h9) rfl d_Md_byteOf_19 ?_
      refine lv_iload_n hx hb d_Md_byteOf_22 rfl (lv_at hl 1 rfl) ?_
      obtain ⟨v7, e7, h⟩ := fr_bind h
      refine fr_ild hx hb hK hH e7 d_Md_byteOf_23 ?_
      refine lv_icmp_lt (tgt := 31) hx hb d_Md_byteOf_24 (by decide) (fun c8 => ?_) (fun c8 => ?_)
      · replace h := fr_ift c8 h
        refine lv_aload_n hx hb d_Md_byteOf_31 rfl (lv_at hl 0 rfl) ?_
        obtain ⟨q9, e9, h⟩ := fr_bind h
        refine fr_gP hx hb hts in_Md hown hK hH e9 rfl 28 (by decide) (hts _ k_568) (fun _ h9 => h9) rfl d_Md_byteOf_32 ?_
        refine lv_bipush (v := 100) hx hb d_Md_byteOf_35 (by decide) ?_
        refine lv_iload_n hx hb d_Md_byteOf_37 rfl (lv_at hl 1 rfl) ?_
        refine lv_imul hx hb d_Md_byteOf_38 ?_
        refine lv_iload_n hx hb d_Md_byteOf_39 rfl (lv_at hl 2 rfl) ?_
        refine lv_iadd hx hb d_Md_byteOf_40 ?_
        obtain ⟨v10, e10, h⟩ := fr_bind h
        refine fr_ild hx hb hK hH e10 d_Md_byteOf_41 ?_
        exact fr_iret hx hb hr hlocks  h hH hK hX hS d_Md_byteOf_42
      · replace h := fr_iff c8 h
        refine lv_iconst (v := (-1)) hx hb d_Md_byteOf_27 (by decide) ?_
        refine lv_goto (tgt := 42) hx hb d_Md_byteOf_28 (by decide) ?_
        exact fr_iret hx hb hr hlocks  h hH hK hX hS d_Md_byteOf_42
set_option maxHeartbeats 4000000 in
set_option maxRecDepth 100000 in
theorem c_Md_barred (l : Launch) (D : va_G) (T : Nat → ClassId) (A : Nat → Prop) (σ : fr_S) (h0 : Nat) (x1 : Int32) (x2 : Int32) (r : Int32) (σ1 : fr_S) (h : m_Md_barred h0 x1 x2 σ = some (r, σ1)) : Met l y_Md_barred (Cond.code y_Md_barred b_Md_barred 3 (some .int) :: fr_W) ({ frames := 0, cells := 0, slots := 0, locals := 0 } : Room) (va_Pc [.ref h0, .int x1, .int x2] (fr_B D T A σ)) (fr_Qi D T A r σ1) 0 0 A := by
  refine Met.ofW (cc := b_Md_barred) (maxL := 3) (ret := (some .int)) (by decide) rfl ?_
  intro p e s m args below meth c s₁ B hml hv
  obtain ⟨rfl, hH, hK, hX⟩ := hv
  have C0 : fr_At p s m _ meth c "FetchRulesModel" b_Md_barred 3 (some .int) := fr_at B hml
  obtain ⟨hx, hb, hr, hml, hown, hts, hlocks⟩ := id C0
  have hS : va_S A s.heap s.heap [] := va_S.rf
  have hl := lv_entry ([.ref h0, .int x1, .int x2]) (n := 3) (Nat.le_of_ble_eq_true rfl)
  rw [lg_entry_eq]
  generalize (lg_sl ([.ref h0, .int x1, .int x2]) ++ List.replicate (3 - (lg_sl ([.ref h0, .int x1, .int x2])).length) Slot.unset).toArray = ls at hl ⊢
  have hl : lv_has ls 3 [(0, .ref h0), (1, .int x1), (2, .int x2)] := hl
  unfold m_Md_barred at h
  refine lv_aload_n hx hb d_Md_barred_0 rfl (lv_at hl 0 rfl) ?_
  refine lv_iconst (v := 0) hx hb d_Md_barred_1 (by decide) ?_
  obtain ⟨σ_1, e1, h⟩ := fr_bind h
  refine fr_putI hx hb hts in_Md ty_Md tk_Md nm_Md hown hK hH hS e1 rfl 1 (by decide) (hts _ k_541) (fun _ h9 => h9) rfl (by decide +kernel) (fs_0_1 _ _ _) (Nat.le_of_ble_eq_true rfl) d_Md_barred_2 (fun H locs hH hS => ?_)
  refine lv_iload_n hx hb d_Md_barred_5 rfl (lv_at hl 1 rfl) ?_
  refine lv_if_lt (tgt := 17) hx hb d_Md_barred_6 (by decide) (fun c2 => ?_) (fun c2 => ?_)
  · replace h := fr_ift c2 h
    refine lv_iconst (v := (-1)) hx hb d_Md_barred_17 (by decide) ?_
    exact fr_iret hx hb hr hlocks  h hH hK hX hS d_Md_barred_18
  · replace h := fr_iff c2 h
    refine lv_iload_n hx hb d_Md_barred_9 rfl (lv_at hl 1 rfl) ?_
    refine lv_aload_n hx hb d_Md_barred_10 rfl (lv_at hl 0 rfl) ?_
    obtain ⟨v3, e3, h⟩ := fr_bind h
    refine fr_gI hx hb hts in_Md hown hK hH e3 rfl 9 (by decide) (hts _ k_549) (fun _ h9 => h9) rfl d_Md_barred_11 ?_
    refine lv_icmp_lt (tgt := 19) hx hb d_Md_barred_14 (by decide) (fun c4 => ?_) (fun c4 => ?_)
    · replace h := fr_ift c4 h
      refine lv_iload_n hx hb d_Md_barred_19 rfl (lv_at hl 2 rfl) ?_
      refine lv_if_ne (tgt := 32) hx hb d_Md_barred_20 (by decide) (fun c5 => ?_) (fun c5 => ?_)
      · replace h := fr_iff c5 h
        refine lv_iload_n hx hb d_Md_barred_32 rfl (lv_at hl 2 rfl) ?_
        refine lv_iconst (v := 1) hx hb d_Md_barred_33 (by decide) ?_
        refine lv_icmp_ne (tgt := 46) hx hb d_Md_barred_34 (by decide) (fun c6 => ?_) (fun c6 => ?_)
        · replace h := fr_iff c6 h
          refine lv_iconst (v := (-1)) hx hb d_Md_barred_46 (by decide) ?_
          exact fr_iret hx hb hr hlocks  h hH hK hX hS d_Md_barred_47
        · replace h := fr_ift c6 h
          refine lv_aload_n hx hb d_Md_barred_37 rfl (lv_at hl 0 rfl) ?_
          obtain ⟨q7, e7, h⟩ := fr_bind h
          refine fr_gP hx hb hts in_Md hown hK hH e7 rfl 36 (by decide) (hts _ k_576) (fun _ h9 => h9) rfl d_Md_barred_38 ?_
          refine lv_iload_n hx hb d_Md_barred_41 rfl (lv_at hl 1 rfl) ?_
          obtain ⟨v8, e8, h⟩ := fr_bind h
          refine fr_ild hx hb hK hH e8 d_Md_barred_42 ?_
          refine lv_goto (tgt := 47) hx hb d_Md_barred_43 (by decide) ?_
          exact fr_iret hx hb hr hlocks  h hH hK hX hS d_Md_barred_47
      · replace h := fr_ift c5 h
        refine lv_aload_n hx hb d_Md_barred_23 rfl (lv_at hl 0 rfl) ?_
        obtain ⟨q9, e9, h⟩ := fr_bind h
        refine fr_gP hx hb hts in_Md hown hK hH e9 rfl 35 (by decide) (hts _ k_575) (fun _ h9 => h9) rfl d_Md_barred_24 ?_
        refine lv_iload_n hx hb d_Md_barred_27 rfl (lv_at hl 1 rfl) ?_
        obtain ⟨v10, e10, h⟩ := fr_bind h
        refine fr_ild hx hb hK hH e10 d_Md_barred_28 ?_
        refine lv_goto (tgt := 47) hx hb d_Md_barred_29 (by decide) ?_
        exact fr_iret hx hb hr hlocks  h hH hK hX hS d_Md_barred_47
    · replace h := fr_iff c4 h
      refine lv_iconst (v := (-1)) hx hb d_Md_barred_17 (by decide) ?_
      exact fr_iret hx hb hr hlocks  h hH hK hX hS d_Md_barred_18
set_option maxHeartbeats 4000000 in
set_option maxRecDepth 100000 in
theorem c_Md_came (l : Launch) (D : va_G) (T : Nat → ClassId) (A : Nat → Prop) (σ : fr_S) (h0 : Nat) (x1 : Int32) (r : Int32) (σ1 : fr_S) (h : m_Md_came h0 x1 σ = some (r, σ1)) : Met l y_Md_came (Cond.code y_Md_came b_Md_came 2 (some .int) :: fr_W) ({ frames := 0, cells := 0, slots := 0, locals := 0 } : Room) (va_Pc [.ref h0, .int x1] (fr_B D T A σ)) (fr_Qi D T A r σ1) 0 0 A := by
  refine Met.ofW (cc := b_Md_came) (maxL := 2) (ret := (some .int)) (by decide) rfl ?_
  intro p e s m args below meth c s₁ B hml hv
  obtain ⟨rfl, hH, hK, hX⟩ := hv
  have C0 : fr_At p s m _ meth c "FetchRulesModel" b_Md_came 2 (some .int) := fr_at B hml
  obtain ⟨hx, hb, hr, hml, hown, hts, hlocks⟩ := id C0
  have hS : va_S A s.heap s.heap [] := va_S.rf
  have hl := lv_entry ([.ref h0, .int x1]) (n := 2) (Nat.le_of_ble_eq_true rfl)
  rw [lg_entry_eq]
  generalize (lg_sl ([.ref h0, .int x1]) ++ List.replicate (2 - (lg_sl ([.ref h0, .int x1])).length) Slot.unset).toArray = ls at hl ⊢
  have hl : lv_has ls 2 [(0, .ref h0), (1, .int x1)] := hl
  unfold m_Md_came at h
  refine lv_aload_n hx hb d_Md_came_0 rfl (lv_at hl 0 rfl) ?_
  refine lv_iconst (v := 0) hx hb d_Md_came_1 (by decide) ?_
  obtain ⟨σ_1, e1, h⟩ := fr_bind h
  refine fr_putI hx hb hts in_Md ty_Md tk_Md nm_Md hown hK hH hS e1 rfl 1 (by decide) (hts _ k_541) (fun _ h9 => h9) rfl (by decide +kernel) (fs_0_1 _ _ _) (Nat.le_of_ble_eq_true rfl) d_Md_came_2 (fun H locs hH hS => ?_)
  refine lv_iload_n hx hb d_Md_came_5 rfl (lv_at hl 1 rfl) ?_
  refine lv_if_lt (tgt := 17) hx hb d_Md_came_6 (by decide) (fun c2 => ?_) (fun c2 => ?_)
  · replace h := fr_ift c2 h
    refine lv_iconst (v := 0) hx hb d_Md_came_17 (by decide) ?_
    refine lv_goto (tgt := 27) hx hb d_Md_came_18 (by decide) ?_
    exact fr_iret hx hb hr hlocks  h hH hK hX hS d_Md_came_27
  · replace h := fr_iff c2 h
    refine lv_iload_n hx hb d_Md_came_9 rfl (lv_at hl 1 rfl) ?_
    refine lv_aload_n hx hb d_Md_came_10 rfl (lv_at hl 0 rfl) ?_
    obtain ⟨v3, e3, h⟩ := fr_bind h
    refine fr_gI hx hb hts in_Md hown hK hH e3 rfl 9 (by decide) (hts _ k_549) (fun _ h9 => h9) rfl d_Md_came_11 ?_
    refine lv_icmp_lt (tgt := 21) hx hb d_Md_came_14 (by decide) (fun c4 => ?_) (fun c4 => ?_)
    · replace h := fr_ift c4 h
      refine lv_aload_n hx hb d_Md_came_21 rfl (lv_at hl 0 rfl) ?_
      obtain ⟨q5, e5, h⟩ := fr_bind h
      refine fr_gP hx hb hts in_Md hown hK hH e5 rfl 37 (by decide) (hts _ k_577) (fun _ h9 => h9) rfl d_Md_came_22 ?_
      refine lv_iload_n hx hb d_Md_came_25 rfl (lv_at hl 1 rfl) ?_
      obtain ⟨v6, e6, h⟩ := fr_bind h
      refine fr_ild hx hb hK hH e6 d_Md_came_26 ?_
      exact fr_iret hx hb hr hlocks  h hH hK hX hS d_Md_came_27
    · replace h := fr_iff c4 h
      refine lv_iconst (v := 0) hx hb d_Md_came_17 (by decide) ?_
      refine lv_goto (tgt := 27) hx hb d_Md_came_18 (by decide) ?_
      exact fr_iret hx hb hr hlocks  h hH hK hX hS d_Md_came_27
set_option maxHeartbeats 4000000 in
set_option maxRecDepth 100000 in
theorem c_Md_lacks (l : Launch) (D : va_G) (T : Nat → ClassId) (A : Nat → Prop) (σ : fr_S) (h0 : Nat) (x1 : Int32) (r : Int32) (σ1 : fr_S) (h : m_Md_lacks h0 x1 σ = some (r, σ1)) : Met l y_Md_lacks (Cond.code y_Md_lacks b_Md_lacks 2 (some .int) :: fr_W) ({ frames := 0, cells := 0, slots := 0, locals := 0 } : Room) (va_Pc [.ref h0, .int x1] (fr_B D T A σ)) (fr_Qi D T A r σ1) 0 0 A := by
  refine Met.ofW (cc := b_Md_lacks) (maxL := 2) (ret := (some .int)) (by decide) rfl ?_
  intro p e s m args below meth c s₁ B hml hv
  obtain ⟨rfl, hH, hK, hX⟩ := hv
  have C0 : fr_At p s m _ meth c "FetchRulesModel" b_Md_lacks 2 (some .int) := fr_at B hml
  obtain ⟨hx, hb, hr, hml, hown, hts, hlocks⟩ := id C0
  have hS : va_S A s.heap s.heap [] := va_S.rf
  have hl := lv_entry ([.ref h0, .int x1]) (n := 2) (Nat.le_of_ble_eq_true rfl)
  rw [lg_entry_eq]
  generalize (lg_sl ([.ref h0, .int x1]) ++ List.replicate (2 - (lg_sl ([.ref h0, .int x1])).length) Slot.unset).toArray = ls at hl ⊢
  have hl : lv_has ls 2 [(0, .ref h0), (1, .int x1)] := hl
  unfold m_Md_lacks at h
  refine lv_aload_n hx hb d_Md_lacks_0 rfl (lv_at hl 0 rfl) ?_
  refine lv_iconst (v := 0) hx hb d_Md_lacks_1 (by decide) ?_
  obtain ⟨σ_1, e1, h⟩ := fr_bind h
  refine fr_putI hx hb hts in_Md ty_Md tk_Md nm_Md hown hK hH hS e1 rfl 1 (by decide) (hts _ k_541) (fun _ h9 => h9) rfl (by decide +kernel) (fs_0_1 _ _ _) (Nat.le_of_ble_eq_true rfl) d_Md_lacks_2 (fun H locs hH hS => ?_)
  refine lv_iload_n hx hb d_Md_lacks_5 rfl (lv_at hl 1 rfl) ?_
  refine lv_if_lt (tgt := 17) hx hb d_Md_lacks_6 (by decide) (fun c2 => ?_) (fun c2 => ?_)
  · replace h := fr_ift c2 h
    refine lv_iconst (v := (-1)) hx hb d_Md_lacks_17 (by decide) ?_
    refine lv_goto (tgt := 27) hx hb d_Md_lacks_18 (by decide) ?_
    exact fr_iret hx hb hr hlocks  h hH hK hX hS d_Md_lacks_27
  · replace h := fr_iff c2 h
    refine lv_iload_n hx hb d_Md_lacks_9 rfl (lv_at hl 1 rfl) ?_
    refine lv_aload_n hx hb d_Md_lacks_10 rfl (lv_at hl 0 rfl) ?_
    obtain ⟨v3, e3, h⟩ := fr_bind h
    refine fr_gI hx hb hts in_Md hown hK hH e3 rfl 10 (by decide) (hts _ k_550) (fun _ h9 => h9) rfl d_Md_lacks_11 ?_
    refine lv_icmp_lt (tgt := 21) hx hb d_Md_lacks_14 (by decide) (fun c4 => ?_) (fun c4 => ?_)
    · replace h := fr_ift c4 h
      refine lv_aload_n hx hb d_Md_lacks_21 rfl (lv_at hl 0 rfl) ?_
      obtain ⟨q5, e5, h⟩ := fr_bind h
      refine fr_gP hx hb hts in_Md hown hK hH e5 rfl 38 (by decide) (hts _ k_578) (fun _ h9 => h9) rfl d_Md_lacks_22 ?_
      refine lv_iload_n hx hb d_Md_lacks_25 rfl (lv_at hl 1 rfl) ?_
      obtain ⟨v6, e6, h⟩ := fr_bind h
      refine fr_ild hx hb hK hH e6 d_Md_lacks_26 ?_
      exact fr_iret hx hb hr hlocks  h hH hK hX hS d_Md_lacks_27
    · replace h := fr_iff c4 h
      refine lv_iconst (v := (-1)) hx hb d_Md_lacks_17 (by decide) ?_
      refine lv_goto (tgt := 27) hx hb d_Md_lacks_18 (by decide) ?_
      exact fr_iret hx hb hr hlocks  h hH hK hX hS d_Md_lacks_27
set_option maxHeartbeats 4000000 in
set_option maxRecDepth 100000 in
theorem c_Md_sent (l : Launch) (D : va_G) (T : Nat → ClassId) (A : Nat → Prop) (σ : fr_S) (h0 : Nat) (x1 : Int32) (r : Int32) (σ1 : fr_S) (h : m_Md_sent h0 x1 σ = some (r, σ1)) : Met l y_Md_sent (Cond.code y_Md_sent b_Md_sent 2 (some .int) :: fr_W) ({ frames := 0, cells := 0, slots := 0, locals := 0 } : Room) (va_Pc [.ref h0, .int x1] (fr_B D T A σ)) (fr_Qi D T A r σ1) 0 0 A := by
  refine Met.ofW (cc := b_Md_sent) (maxL := 2) (ret := (some .int)) (by decide) rfl ?_
  intro p e s m args below meth c s₁ B hml hv
  obtain ⟨rfl, hH, hK, hX⟩ := hv
  have C0 : fr_At p s m _ meth c "FetchRulesModel" b_Md_sent 2 (some .int) := fr_at B hml
  obtain ⟨hx, hb, hr, hml, hown, hts, hlocks⟩ := id C0
  have hS : va_S A s.heap s.heap [] := va_S.rf
  have hl := lv_entry ([.ref h0, .int x1]) (n := 2) (Nat.le_of_ble_eq_true rfl)
  rw [lg_entry_eq]
  generalize (lg_sl ([.ref h0, .int x1]) ++ List.replicate (2 - (lg_sl ([.ref h0, .int x1])).length) Slot.unset).toArray = ls at hl ⊢
  have hl : lv_has ls 2 [(0, .ref h0), (1, .int x1)] := hl
  unfold m_Md_sent at h
  refine lv_aload_n hx hb d_Md_sent_0 rfl (lv_at hl 0 rfl) ?_
  refine lv_iconst (v := 0) hx hb d_Md_sent_1 (by decide) ?_
  obtain ⟨σ_1, e1, h⟩ := fr_bind h
  refine fr_putI hx hb hts in_Md ty_Md tk_Md nm_Md hown hK hH hS e1 rfl 1 (by decide) (hts _ k_541) (fun _ h9 => h9) rfl (by decide +kernel) (fs_0_1 _ _ _) (Nat.le_of_ble_eq_true rfl) d_Md_sent_2 (fun H locs hH hS => ?_)
  refine lv_iload_n hx hb d_Md_sent_5 rfl (lv_at hl 1 rfl) ?_
  refine lv_if_lt (tgt := 15) hx hb d_Md_sent_6 (by decide) (fun c2 => ?_) (fun c2 => ?_)
  · replace h := fr_ift c2 h
    refine lv_iconst (v := 0) hx hb d_Md_sent_15 (by decide) ?_
    refine lv_goto (tgt := 25) hx hb d_Md_sent_16 (by decide) ?_
    exact fr_iret hx hb hr hlocks  h hH hK hX hS d_Md_sent_25
  · replace h := fr_iff c2 h
    refine lv_iload_n hx hb d_Md_sent_9 rfl (lv_at hl 1 rfl) ?_
    refine lv_bipush (v := 8) hx hb d_Md_sent_10 (by decide) ?_
    refine lv_icmp_lt (tgt := 19) hx hb d_Md_sent_12 (by decide) (fun c3 => ?_) (fun c3 => ?_)
    · replace h := fr_ift c3 h
      refine lv_aload_n hx hb d_Md_sent_19 rfl (lv_at hl 0 rfl) ?_
      obtain ⟨q4, e4, h⟩ := fr_bind h
      refine fr_gP hx hb hts in_Md hown hK hH e4 rfl 5 (by decide) (hts _ k_545) (fun _ h9 => h9) rfl d_Md_sent_20 ?_
      refine lv_iload_n hx hb d_Md_sent_23 rfl (lv_at hl 1 rfl) ?_
      obtain ⟨v5, e5, h⟩ := fr_bind h
      refine fr_ild hx hb hK hH e5 d_Md_sent_24 ?_
      exact fr_iret hx hb hr hlocks  h hH hK hX hS d_Md_sent_25
    · replace h := fr_iff c3 h
      refine lv_iconst (v := 0) hx hb d_Md_sent_15 (by decide) ?_
      refine lv_goto (tgt := 25) hx hb d_Md_sent_16 (by decide) ?_
      exact fr_iret hx hb hr hlocks  h hH hK hX hS d_Md_sent_25
set_option maxHeartbeats 4000000 in
set_option maxRecDepth 100000 in
theorem c_Md_isSign (l : Launch) (D : va_G) (T : Nat → ClassId) (A : Nat → Prop) (σ : fr_S) (x0 : Int32) (r : Int32) (h : m_Md_isSign x0 σ = some r) : Met l y_Md_isSign (Cond.code y_Md_isSign b_Md_isSign 1 (some .boolean) :: fr_W) ({ frames := 0, cells := 0, slots := 0, locals := 0 } : Room) (va_Pc [.int x0] (fr_B D T A σ)) (fr_Qi D T A r σ) 0 0 A := by
  refine Met.ofW (cc := b_Md_isSign) (maxL := 1) (ret := (some .boolean)) (by decide) rfl ?_
  intro p e s m args below meth c s₁ B hml hv
  obtain ⟨rfl, hH, hK, hX⟩ := hv
  have C0 : fr_At p s m _ meth c "FetchRulesModel" b_Md_isSign 1 (some .boolean) := fr_at B hml
  obtain ⟨hx, hb, hr, hml, hown, hts, hlocks⟩ := id C0
  have hS : va_S A s.heap s.heap [] := va_S.rf
  have hl := lv_entry ([.int x0]) (n := 1) (Nat.le_of_ble_eq_true rfl)
  rw [lg_entry_eq]
  generalize (lg_sl ([.int x0]) ++ List.replicate (1 - (lg_sl ([.int x0])).length) Slot.unset).toArray = ls at hl ⊢
  have hl : lv_has ls 1 [(0, .int x0)] := hl
  unfold m_Md_isSign at h
  refine lv_iload_n hx hb d_Md_isSign_0 rfl (lv_at hl 0 rfl) ?_
  refine lv_bipush (v := 97) hx hb d_Md_isSign_1 (by decide) ?_
  refine lv_icmp_lt (tgt := 12) hx hb d_Md_isSign_3 (by decide) (fun c1 => ?_) (fun c1 => ?_)
  · replace h := fr_ift c1 h
    refine lv_iload_n hx hb d_Md_isSign_12 rfl (lv_at hl 0 rfl) ?_
    refine lv_bipush (v := 48) hx hb d_Md_isSign_13 (by decide) ?_
    refine lv_icmp_lt (tgt := 24) hx hb d_Md_isSign_15 (by decide) (fun c2 => ?_) (fun c2 => ?_)
    · replace h := fr_ift c2 h
      refine lv_iload_n hx hb d_Md_isSign_24 rfl (lv_at hl 0 rfl) ?_
      refine lv_bipush (v := 46) hx hb d_Md_isSign_25 (by decide) ?_
      refine lv_icmp_eq (tgt := 36) hx hb d_Md_isSign_27 (by decide) (fun c3 => ?_) (fun c3 => ?_)
      · replace h := fr_ift c3 h
        refine lv_iconst (v := 1) hx hb d_Md_isSign_36 (by decide) ?_
        refine lv_goto (tgt := 41) hx hb d_Md_isSign_37 (by decide) ?_
        exact fr_zretO hx hb hr hlocks (Or.inr rfl) h hH hK hX hS d_Md_isSign_41
      · replace h := fr_iff c3 h
        refine lv_iload_n hx hb d_Md_isSign_30 rfl (lv_at hl 0 rfl) ?_
        refine lv_bipush (v := 47) hx hb d_Md_isSign_31 (by decide) ?_
        refine lv_icmp_ne (tgt := 40) hx hb d_Md_isSign_33 (by decide) (fun c4 => ?_) (fun c4 => ?_)
        · replace h := fr_iff c4 h
          refine lv_iconst (v := 0) hx hb d_Md_isSign_40 (by decide) ?_
          exact fr_zretO hx hb hr hlocks (Or.inl rfl) h hH hK hX hS d_Md_isSign_41
        · replace h := fr_ift c4 h
          refine lv_iconst (v := 1) hx hb d_Md_isSign_36 (by decide) ?_
          refine lv_goto (tgt := 41) hx hb d_Md_isSign_37 (by decide) ?_
          exact fr_zretO hx hb hr hlocks (Or.inr rfl) h hH hK hX hS d_Md_isSign_41
    · replace h := fr_iff c2 h
      refine lv_iload_n hx hb d_Md_isSign_18 rfl (lv_at hl 0 rfl) ?_
      refine lv_bipush (v := 57) hx hb d_Md_isSign_19 (by decide) ?_
      refine lv_icmp_le (tgt := 36) hx hb d_Md_isSign_21 (by decide) (fun c5 => ?_) (fun c5 => ?_)
      · replace h := fr_ift c5 h
        refine lv_iconst (v := 1) hx hb d_Md_isSign_36 (by decide) ?_
        refine lv_goto (tgt := 41) hx hb d_Md_isSign_37 (by decide) ?_
        exact fr_zretO hx hb hr hlocks (Or.inr rfl) h hH hK hX hS d_Md_isSign_41
      · replace h := fr_iff c5 h
        refine lv_iload_n hx hb d_Md_isSign_24 rfl (lv_at hl 0 rfl) ?_
        refine lv_bipush (v := 46) hx hb d_Md_isSign_25 (by decide) ?_
        refine lv_icmp_eq (tgt := 36) hx hb d_Md_isSign_27 (by decide) (fun c6 => ?_) (fun c6 => ?_)
        · replace h := fr_ift c6 h
          refine lv_iconst (v := 1) hx hb d_Md_isSign_36 (by decide) ?_
          refine lv_goto (tgt := 41) hx hb d_Md_isSign_37 (by decide) ?_
          exact fr_zretO hx hb hr hlocks (Or.inr rfl) h hH hK hX hS d_Md_isSign_41
        · replace h := fr_iff c6 h
          refine lv_iload_n hx hb d_Md_isSign_30 rfl (lv_at hl 0 rfl) ?_
          refine lv_bipush (v := 47) hx hb d_Md_isSign_31 (by decide) ?_
          refine lv_icmp_ne (tgt := 40) hx hb d_Md_isSign_33 (by decide) (fun c7 => ?_) (fun c7 => ?_)
          · replace h := fr_iff c7 h
            refine lv_iconst (v := 0) hx hb d_Md_isSign_40 (by decide) ?_
            exact fr_zretO hx hb hr hlocks (Or.inl rfl) h hH hK hX hS d_Md_isSign_41
          · replace h := fr_ift c7 h
            refine lv_iconst (v := 1) hx hb d_Md_isSign_36 (by decide) ?_
            refine lv_goto (tgt := 41) hx hb d_Md_isSign_37 (by decide) ?_
            exact fr_zretO hx hb hr hlocks (Or.inr rfl) h hH hK hX hS d_Md_isSign_41
  · replace h := fr_iff c1 h
    refine lv_iload_n hx hb d_Md_isSign_6 rfl (lv_at hl 0 rfl) ?_
    refine lv_bipush (v := 122) hx hb d_Md_isSign_7 (by decide) ?_
    refine lv_icmp_le (tgt := 36) hx hb d_Md_isSign_9 (by decide) (fun c8 => ?_) (fun c8 => ?_)
    · replace h := fr_ift c8 h
      refine lv_iconst (v := 1) hx hb d_Md_isSign_36 (by decide) ?_
      refine lv_goto (tgt := 41) hx hb d_Md_isSign_37 (by decide) ?_
      exact fr_zretO hx hb hr hlocks (Or.inr rfl) h hH hK hX hS d_Md_isSign_41
    · replace h := fr_iff c8 h
      refine lv_iload_n hx hb d_Md_isSign_12 rfl (lv_at hl 0 rfl) ?_
      refine lv_bipush (v := 48) hx hb d_Md_isSign_13 (by decide) ?_
      refine lv_icmp_lt (tgt := 24) hx hb d_Md_isSign_15 (by decide) (fun c9 => ?_) (fun c9 => ?_)
      · replace h := fr_ift c9 h
        refine lv_iload_n hx hb d_Md_isSign_24 rfl (lv_at hl 0 rfl) ?_
        refine lv_bipush (v := 46) hx hb d_Md_isSign_25 (by decide) ?_
        refine lv_icmp_eq (tgt := 36) hx hb d_Md_isSign_27 (by decide) (fun c10 => ?_) (fun c10 => ?_)
        · replace h := fr_ift c10 h
          refine lv_iconst (v := 1) hx hb d_Md_isSign_36 (by decide) ?_
          refine lv_goto (tgt := 41) hx hb d_Md_isSign_37 (by decide) ?_
          exact fr_zretO hx hb hr hlocks (Or.inr rfl) h hH hK hX hS d_Md_isSign_41
        · replace h := fr_iff c10 h
          refine lv_iload_n hx hb d_Md_isSign_30 rfl (lv_at hl 0 rfl) ?_
          refine lv_bipush (v := 47) hx hb d_Md_isSign_31 (by decide) ?_
          refine lv_icmp_ne (tgt := 40) hx hb d_Md_isSign_33 (by decide) (fun c11 => ?_) (fun c11 => ?_)
          · replace h := fr_iff c11 h
            refine lv_iconst (v := 0) hx hb d_Md_isSign_40 (by decide) ?_
            exact fr_zretO hx hb hr hlocks (Or.inl rfl) h hH hK hX hS d_Md_isSign_41
          · replace h := fr_ift c11 h
            refine lv_iconst (v := 1) hx hb d_Md_isSign_36 (by decide) ?_
            refine lv_goto (tgt := 41) hx hb d_Md_isSign_37 (by decide) ?_
            exact fr_zretO hx hb hr hlocks (Or.inr rfl) h hH hK hX hS d_Md_isSign_41
      · replace h := fr_iff c9 h
        refine lv_iload_n hx hb d_Md_isSign_18 rfl (lv_at hl 0 rfl) ?_
        refine lv_bipush (v := 57) hx hb d_Md_isSign_19 (by decide) ?_
        refine lv_icmp_le (tgt := 36) hx hb d_Md_isSign_21 (by decide) (fun c12 => ?_) (fun c12 => ?_)
        · replace h := fr_ift c12 h
          refine lv_iconst (v := 1) hx hb d_Md_isSign_36 (by decide) ?_
          refine lv_goto (tgt := 41) hx hb d_Md_isSign_37 (by decide) ?_
          exact fr_zretO hx hb hr hlocks (Or.inr rfl) h hH hK hX hS d_Md_isSign_41
        · replace h := fr_iff c12 h
          refine lv_iload_n hx hb d_Md_isSign_24 rfl (lv_at hl 0 rfl) ?_
          refine lv_bipush (v := 46) hx hb d_Md_isSign_25 (by decide) ?_
          refine lv_icmp_eq (tgt := 36) hx hb d_Md_isSign_27 (by decide) (fun c13 => ?_) (fun c13 => ?_)
          · replace h := fr_ift c13 h
            refine lv_iconst (v := 1) hx hb d_Md_isSign_36 (by decide) ?_
            refine lv_goto (tgt := 41) hx hb d_Md_isSign_37 (by decide) ?_
            exact fr_zretO hx hb hr hlocks (Or.inr rfl) h hH hK hX hS d_Md_isSign_41
          · replace h := fr_iff c13 h
            refine lv_iload_n hx hb d_Md_isSign_30 rfl (lv_at hl 0 rfl) ?_
            refine lv_bipush (v := 47) hx hb d_Md_isSign_31 (by decide) ?_
            refine lv_icmp_ne (tgt := 40) hx hb d_Md_isSign_33 (by decide) (fun c14 => ?_) (fun c14 => ?_)
            · replace h := fr_iff c14 h
              refine lv_iconst (v := 0) hx hb d_Md_isSign_40 (by decide) ?_
              exact fr_zretO hx hb hr hlocks (Or.inl rfl) h hH hK hX hS d_Md_isSign_41
            · replace h := fr_ift c14 h
              refine lv_iconst (v := 1) hx hb d_Md_isSign_36 (by decide) ?_
              refine lv_goto (tgt := 41) hx hb d_Md_isSign_37 (by decide) ?_
              exact fr_zretO hx hb hr hlocks (Or.inr rfl) h hH hK hX hS d_Md_isSign_41
