set_option maxHeartbeats 4000000 in
set_option maxRecDepth 100000 in
theorem w_Md_isRight_L8 {p : Program} {l : Launch} {e : Env} {s : State} {m : MethodId} {args : Array Value} {below : List Frame} {meth : Method} {c : Code} {D : va_G} {T : Nat → ClassId} {A : Nat → Prop} (C0 : fr_At p s m args meth c "FetchRulesModel" b_Md_isRight 7 (some .boolean)) (hK : va_K D vwCl (fr_tys T) s) (hX : fr_X s) :
    ∀ (n : Nat) (b0 : Nat) (y2 : Int32) (y3 : Int32) (y4 : Int32) (y5 : Int32) (σ : fr_S) (r : Int32), m_Md_isRight_L8 n b0 y2 y3 y4 y5 σ = some r → ∀ (H : Heap) (locs : List Loc), fr_H D T A σ H → va_S A s.heap H locs → ∀ (ls : Array Slot), lv_has ls 7 [(0, .ref b0), (2, .int y2), (3, .int y3), (4, .int y4), (5, .int y5)] → W p l e (headSpec (Cond.code y_Md_isRight b_Md_isRight 7 (some .boolean) :: fr_W) ({ frames := 1, cells := 0, slots := 0, locals := 20 } : Room)).room s m args below meth c H locs 0 0 (MQ below (fr_Qi D T A r σ) args s 0 0 A) (F0 m 8 ls []) := by
  obtain ⟨hx, hb, hr, hml, hown, hts, hlocks⟩ := id C0
  intro n
  induction n with
  | zero => intro b0 y2 y3 y4 y5 σ r h; cases h
  | succ n ih =>
    intro b0 y2 y3 y4 y5 σ r h H locs hH hS ls hl
    unfold m_Md_isRight_L8 at h
    refine lv_iload hx hb d_Md_isRight_8 (lv_at hl 4 rfl) ?_
    refine lv_iload_n hx hb d_Md_isRight_10 rfl (lv_at hl 1 rfl) ?_
    refine lv_icmp_gt (tgt := 102) hx hb d_Md_isRight_11 (by decide) (fun c1 => ?_) (fun c1 => ?_)
    · replace h := fr_ift c1 h
      refine lv_iconst (v := 1) hx hb d_Md_isRight_102 (by decide) ?_
      exact fr_zretO hx hb hr hlocks (Or.inr rfl) h hH hK hX hS d_Md_isRight_103
    · replace h := fr_iff c1 h
      refine lv_iload hx hb d_Md_isRight_14 (lv_at hl 4 rfl) ?_
      refine lv_iload_n hx hb d_Md_isRight_16 rfl (lv_at hl 1 rfl) ?_
      refine lv_icmp_ge (tgt := 30) hx hb d_Md_isRight_17 (by decide) (fun c2 => ?_) (fun c2 => ?_)
      · replace h := fr_ift c2 h
        refine lv_bipush (v := 47) hx hb d_Md_isRight_30 (by decide) ?_
        refine lv_istore (lv' := [(6, .int 47), (0, .ref b0), (2, .int y2), (3, .int y3), (4, .int y4), (5, .int y5)]) hx hb d_Md_isRight_32 hl (by decide) rfl (fun ls hl => ?_)
        refine lv_iload hx hb d_Md_isRight_34 (lv_at hl 0 rfl) ?_
        obtain ⟨r3, e3, h⟩ := fr_bind h
        refine fr_calli (fr_Sc (As := [.int 47]) (rest := []) ⟨hx, hb, hml, hown, hts⟩ (c_Md_isSign l D T A σ 47 r3 e3) k_798 ms_Md_isSign rfl rfl ⟨Nat.le_of_ble_eq_true rfl, Nat.le_of_ble_eq_true rfl⟩ (fr_preS hK hX hH _) rfl hl.1 rfl (Nat.le_of_ble_eq_true rfl) d_Md_isRight_36 ⟨Nat.zero_le _, Nat.zero_le _⟩) hS (fun H locs hH hS => ?_)
        refine lv_if_ne (tgt := 44) hx hb d_Md_isRight_39 (by decide) (fun c4 => ?_) (fun c4 => ?_)
        · replace h := fr_iff c4 h
          refine lv_iload hx hb d_Md_isRight_44 (lv_at hl 0 rfl) ?_
          refine lv_bipush (v := 47) hx hb d_Md_isRight_46 (by decide) ?_
          refine lv_icmp_ne (tgt := 76) hx hb d_Md_isRight_48 (by decide) (fun c5 => ?_) (fun c5 => ?_)
          · exact absurd (by decide) c5
          · refine lv_iload_n hx hb d_Md_isRight_51 rfl (lv_at hl 3 rfl) ?_
            refine lv_if_eq (tgt := 66) hx hb d_Md_isRight_52 (by decide) (fun c6 => ?_) (fun c6 => ?_)
            · replace h := fr_ift c6 h
              refine lv_iconst (v := 0) hx hb d_Md_isRight_66 (by decide) ?_
              exact fr_zretO hx hb hr hlocks (Or.inl rfl) h hH hK hX hS d_Md_isRight_67
            · replace h := fr_iff c6 h
              refine lv_iload_n hx hb d_Md_isRight_55 rfl (lv_at hl 3 rfl) ?_
              refine lv_iload hx hb d_Md_isRight_56 (lv_at hl 4 rfl) ?_
              refine lv_icmp_ne (tgt := 68) hx hb d_Md_isRight_58 (by decide) (fun c7 => ?_) (fun c7 => ?_)
              · replace h := fr_iff c7 h
                refine lv_iconst (v := 0) hx hb d_Md_isRight_68 (by decide) ?_
                refine lv_istore_n (lv' := [(3, .int 0), (6, .int 47), (0, .ref b0), (2, .int y2), (4, .int y4), (5, .int y5)]) hx hb d_Md_isRight_69 rfl hl (by decide) rfl (fun ls hl => ?_)
                refine lv_iconst (v := 0) hx hb d_Md_isRight_70 (by decide) ?_
                refine lv_istore (lv' := [(4, .int 0), (3, .int 0), (6, .int 47), (0, .ref b0), (2, .int y2), (5, .int y5)]) hx hb d_Md_isRight_71 hl (by decide) rfl (fun ls hl => ?_)
                refine lv_goto (tgt := 96) hx hb d_Md_isRight_73 (by decide) ?_
                refine lv_iinc (v := (y5 + 1)) (lv' := [(5, .int (y5 + 1)), (4, .int 0), (3, .int 0), (6, .int 47), (0, .ref b0), (2, .int y2)]) hx hb d_Md_isRight_96 hl (k := 5) rfl rfl (by decide) rfl (fun ls hl => ?_)
                refine lv_goto (tgt := 8) hx hb d_Md_isRight_99 (by decide) ?_
                exact ih b0 y2 0 0 (y5 + 1) σ r h _ _ hH hS ls (lv_sub hl [4, 5, 2, 1, 0] rfl)
              · replace h := fr_ift c7 h
                refine lv_iload_n hx hb d_Md_isRight_61 rfl (lv_at hl 3 rfl) ?_
                refine lv_iconst (v := 3) hx hb d_Md_isRight_62 (by decide) ?_
                refine lv_icmp_ge (tgt := 68) hx hb d_Md_isRight_63 (by decide) (fun c8 => ?_) (fun c8 => ?_)
                · replace h := fr_ift c8 h
                  refine lv_iconst (v := 0) hx hb d_Md_isRight_68 (by decide) ?_
                  refine lv_istore_n (lv' := [(3, .int 0), (6, .int 47), (0, .ref b0), (2, .int y2), (4, .int y4), (5, .int y5)]) hx hb d_Md_isRight_69 rfl hl (by decide) rfl (fun ls hl => ?_)
                  refine lv_iconst (v := 0) hx hb d_Md_isRight_70 (by decide) ?_
                  refine lv_istore (lv' := [(4, .int 0), (3, .int 0), (6, .int 47), (0, .ref b0), (2, .int y2), (5, .int y5)]) hx hb d_Md_isRight_71 hl (by decide) rfl (fun ls hl => ?_)
                  refine lv_goto (tgt := 96) hx hb d_Md_isRight_73 (by decide) ?_
                  refine lv_iinc (v := (y5 + 1)) (lv' := [(5, .int (y5 + 1)), (4, .int 0), (3, .int 0), (6, .int 47), (0, .ref b0), (2, .int y2)]) hx hb d_Md_isRight_96 hl (k := 5) rfl rfl (by decide) rfl (fun ls hl => ?_)
                  refine lv_goto (tgt := 8) hx hb d_Md_isRight_99 (by decide) ?_
                  exact ih b0 y2 0 0 (y5 + 1) σ r h _ _ hH hS ls (lv_sub hl [4, 5, 2, 1, 0] rfl)
                · replace h := fr_iff c8 h
                  refine lv_iconst (v := 0) hx hb d_Md_isRight_66 (by decide) ?_
                  exact fr_zretO hx hb hr hlocks (Or.inl rfl) h hH hK hX hS d_Md_isRight_67
        · replace h := fr_ift c4 h
          refine lv_iconst (v := 0) hx hb d_Md_isRight_42 (by decide) ?_
          exact fr_zretO hx hb hr hlocks (Or.inl rfl) h hH hK hX hS d_Md_isRight_43
      · replace h := fr_iff c2 h
        refine lv_aload_n hx hb d_Md_isRight_20 rfl (lv_at hl 0 rfl) ?_
        obtain ⟨q9, e9, h⟩ := fr_bind h
        refine fr_gP hx hb hts in_Md hown hK hH e9 rfl 28 (by decide) (hts _ k_568) (fun _ h9 => h9) rfl d_Md_isRight_21 ?_
        refine lv_iload hx hb d_Md_isRight_24 (lv_at hl 4 rfl) ?_
        obtain ⟨v10, e10, h⟩ := fr_bind h
        refine fr_ild hx hb hK hH e10 d_Md_isRight_26 ?_
        refine lv_goto (tgt := 32) hx hb d_Md_isRight_27 (by decide) ?_
        refine lv_istore (lv' := [(6, .int v10), (0, .ref b0), (2, .int y2), (3, .int y3), (4, .int y4), (5, .int y5)]) hx hb d_Md_isRight_32 hl (by decide) rfl (fun ls hl => ?_)
        refine lv_iload hx hb d_Md_isRight_34 (lv_at hl 0 rfl) ?_
        obtain ⟨r11, e11, h⟩ := fr_bind h
        refine fr_calli (fr_Sc (As := [.int v10]) (rest := []) ⟨hx, hb, hml, hown, hts⟩ (c_Md_isSign l D T A σ v10 r11 e11) k_798 ms_Md_isSign rfl rfl ⟨Nat.le_of_ble_eq_true rfl, Nat.le_of_ble_eq_true rfl⟩ (fr_preS hK hX hH _) rfl hl.1 rfl (Nat.le_of_ble_eq_true rfl) d_Md_isRight_36 ⟨Nat.zero_le _, Nat.zero_le _⟩) hS (fun H locs hH hS => ?_)
        refine lv_if_ne (tgt := 44) hx hb d_Md_isRight_39 (by decide) (fun c12 => ?_) (fun c12 => ?_)
        · replace h := fr_iff c12 h
          refine lv_iload hx hb d_Md_isRight_44 (lv_at hl 0 rfl) ?_
          refine lv_bipush (v := 47) hx hb d_Md_isRight_46 (by decide) ?_
          refine lv_icmp_ne (tgt := 76) hx hb d_Md_isRight_48 (by decide) (fun c13 => ?_) (fun c13 => ?_)
          · replace h := fr_iff c13 h
            refine lv_iinc (v := (y3 + 1)) (lv' := [(3, .int (y3 + 1)), (6, .int v10), (0, .ref b0), (2, .int y2), (4, .int y4), (5, .int y5)]) hx hb d_Md_isRight_76 hl (k := 3) rfl rfl (by decide) rfl (fun ls hl => ?_)
            refine lv_iload hx hb d_Md_isRight_79 (lv_at hl 4 rfl) ?_
            refine lv_iload hx hb d_Md_isRight_81 (lv_at hl 1 rfl) ?_
            refine lv_bipush (v := 46) hx hb d_Md_isRight_83 (by decide) ?_
            refine lv_icmp_ne (tgt := 92) hx hb d_Md_isRight_85 (by decide) (fun c14 => ?_) (fun c14 => ?_)
            · replace h := fr_iff c14 h
              refine lv_iconst (v := 0) hx hb d_Md_isRight_92 (by decide) ?_
              refine lv_iadd hx hb d_Md_isRight_93 ?_
              refine lv_istore (lv' := [(4, .int (y4 + 0)), (3, .int (y3 + 1)), (6, .int v10), (0, .ref b0), (2, .int y2), (5, .int y5)]) hx hb d_Md_isRight_94 hl (by decide) rfl (fun ls hl => ?_)
              refine lv_iinc (v := (y5 + 1)) (lv' := [(5, .int (y5 + 1)), (4, .int (y4 + 0)), (3, .int (y3 + 1)), (6, .int v10), (0, .ref b0), (2, .int y2)]) hx hb d_Md_isRight_96 hl (k := 5) rfl rfl (by decide) rfl (fun ls hl => ?_)
              refine lv_goto (tgt := 8) hx hb d_Md_isRight_99 (by decide) ?_
              exact ih b0 y2 (y3 + 1) (y4 + 0) (y5 + 1) σ r h _ _ hH hS ls (lv_sub hl [4, 5, 2, 1, 0] rfl)
            · replace h := fr_ift c14 h
              refine lv_iconst (v := 1) hx hb d_Md_isRight_88 (by decide) ?_
              refine lv_goto (tgt := 93) hx hb d_Md_isRight_89 (by decide) ?_
              refine lv_iadd hx hb d_Md_isRight_93 ?_
              refine lv_istore (lv' := [(4, .int (y4 + 1)), (3, .int (y3 + 1)), (6, .int v10), (0, .ref b0), (2, .int y2), (5, .int y5)]) hx hb d_Md_isRight_94 hl (by decide) rfl (fun ls hl => ?_)
              refine lv_iinc (v := (y5 + 1)) (lv' := [(5, .int (y5 + 1)), (4, .int (y4 + 1)), (3, .int (y3 + 1)), (6, .int v10), (0, .ref b0), (2, .int y2)]) hx hb d_Md_isRight_96 hl (k := 5) rfl rfl (by decide) rfl (fun ls hl => ?_)
              refine lv_goto (tgt := 8) hx hb d_Md_isRight_99 (by decide) ?_
              exact ih b0 y2 (y3 + 1) (y4 + 1) (y5 + 1) σ r h _ _ hH hS ls (lv_sub hl [4, 5, 2, 1, 0] rfl)
          · replace h := fr_ift c13 h
            refine lv_iload_n hx hb d_Md_isRight_51 rfl (lv_at hl 3 rfl) ?_
            refine lv_if_eq (tgt := 66) hx hb d_Md_isRight_52 (by decide) (fun c15 => ?_) (fun c15 => ?_)
            · replace h := fr_ift c15 h
              refine lv_iconst (v := 0) hx hb d_Md_isRight_66 (by decide) ?_
              exact fr_zretO hx hb hr hlocks (Or.inl rfl) h hH hK hX hS d_Md_isRight_67
            · replace h := fr_iff c15 h
              refine lv_iload_n hx hb d_Md_isRight_55 rfl (lv_at hl 3 rfl) ?_
              refine lv_iload hx hb d_Md_isRight_56 (lv_at hl 4 rfl) ?_
              refine lv_icmp_ne (tgt := 68) hx hb d_Md_isRight_58 (by decide) (fun c16 => ?_) (fun c16 => ?_)
              · replace h := fr_iff c16 h
                refine lv_iconst (v := 0) hx hb d_Md_isRight_68 (by decide) ?_
                refine lv_istore_n (lv' := [(3, .int 0), (6, .int v10), (0, .ref b0), (2, .int y2), (4, .int y4), (5, .int y5)]) hx hb d_Md_isRight_69 rfl hl (by decide) rfl (fun ls hl => ?_)
                refine lv_iconst (v := 0) hx hb d_Md_isRight_70 (by decide) ?_
                refine lv_istore (lv' := [(4, .int 0), (3, .int 0), (6, .int v10), (0, .ref b0), (2, .int y2), (5, .int y5)]) hx hb d_Md_isRight_71 hl (by decide) rfl (fun ls hl => ?_)
                refine lv_goto (tgt := 96) hx hb d_Md_isRight_73 (by decide) ?_
                refine lv_iinc (v := (y5 + 1)) (lv' := [(5, .int (y5 + 1)), (4, .int 0), (3, .int 0), (6, .int v10), (0, .ref b0), (2, .int y2)]) hx hb d_Md_isRight_96 hl (k := 5) rfl rfl (by decide) rfl (fun ls hl => ?_)
                refine lv_goto (tgt := 8) hx hb d_Md_isRight_99 (by decide) ?_
                exact ih b0 y2 0 0 (y5 + 1) σ r h _ _ hH hS ls (lv_sub hl [4, 5, 2, 1, 0] rfl)
              · replace h := fr_ift c16 h
                refine lv_iload_n hx hb d_Md_isRight_61 rfl (lv_at hl 3 rfl) ?_
                refine lv_iconst (v := 3) hx hb d_Md_isRight_62 (by decide) ?_
                refine lv_icmp_ge (tgt := 68) hx hb d_Md_isRight_63 (by decide) (fun c17 => ?_) (fun c17 => ?_)
                · replace h := fr_ift c17 h
                  refine lv_iconst (v := 0) hx hb d_Md_isRight_68 (by decide) ?_
                  refine lv_istore_n (lv' := [(3, .int 0), (6, .int v10), (0, .ref b0), (2, .int y2), (4, .int y4), (5, .int y5)]) hx hb d_Md_isRight_69 rfl hl (by decide) rfl (fun ls hl => ?_)
                  refine lv_iconst (v := 0) hx hb d_Md_isRight_70 (by decide) ?_
                  refine lv_istore (lv' := [(4, .int 0), (3, .int 0), (6, .int v10), (0, .ref b0), (2, .int y2), (5, .int y5)]) hx hb d_Md_isRight_71 hl (by decide) rfl (fun ls hl => ?_)
                  refine lv_goto (tgt := 96) hx hb d_Md_isRight_73 (by decide) ?_
                  refine lv_iinc (v := (y5 + 1)) (lv' := [(5, .int (y5 + 1)), (4, .int 0), (3, .int 0), (6, .int v10), (0, .ref b0), (2, .int y2)]) hx hb d_Md_isRight_96 hl (k := 5) rfl rfl (by decide) rfl (fun ls hl => ?_)
                  refine lv_goto (tgt := 8) hx hb d_Md_isRight_99 (by decide) ?_
                  exact ih b0 y2 0 0 (y5 + 1) σ r h _ _ hH hS ls (lv_sub hl [4, 5, 2, 1, 0] rfl)
                · replace h := fr_iff c17 h
                  refine lv_iconst (v := 0) hx hb d_Md_isRight_66 (by decide) ?_
                  exact fr_zretO hx hb hr hlocks (Or.inl rfl) h hH hK hX hS d_Md_isRight_67
        · replace h := fr_ift c12 h
          refine lv_iconst (v := 0) hx hb d_Md_isRight_42 (by decide) ?_
          exact fr_zretO hx hb hr hlocks (Or.inl rfl) h hH hK hX hS d_Md_isRight_43
set_option maxHeartbeats 4000000 in
set_option maxRecDepth 100000 in
theorem c_Md_isRight (l : Launch) (D : va_G) (T : Nat → ClassId) (A : Nat → Prop) (σ : fr_S) (h0 : Nat) (x1 : Int32) (x2 : Int32) (r : Int32) (h : m_Md_isRight h0 x1 x2 σ = some r) : Met l y_Md_isRight (Cond.code y_Md_isRight b_Md_isRight 7 (some .boolean) :: fr_W) ({ frames := 1, cells := 0, slots := 0, locals := 20 } : Room) (va_Pc [.ref h0, .int x1, .int x2] (fr_B D T A σ)) (fr_Qi D T A r σ) 0 0 A := by
  refine Met.ofW (cc := b_Md_isRight) (maxL := 7) (ret := (some .boolean)) (by decide) rfl ?_
  intro p e s m args below meth c s₁ B hml hv
  obtain ⟨rfl, hH, hK, hX⟩ := hv
  have C0 : fr_At p s m _ meth c "FetchRulesModel" b_Md_isRight 7 (some .boolean) := fr_at B hml
  obtain ⟨hx, hb, hr, hml, hown, hts, hlocks⟩ := id C0
  have hS : va_S A s.heap s.heap [] := va_S.rf
  have hl := lv_entry ([.ref h0, .int x1, .int x2]) (n := 7) (Nat.le_of_ble_eq_true rfl)
  rw [lg_entry_eq]
  generalize (lg_sl ([.ref h0, .int x1, .int x2]) ++ List.replicate (7 - (lg_sl ([.ref h0, .int x1, .int x2])).length) Slot.unset).toArray = ls at hl ⊢
  have hl : lv_has ls 7 [(0, .ref h0), (1, .int x1), (2, .int x2)] := hl
  unfold m_Md_isRight at h
  refine lv_iconst (v := 0) hx hb d_Md_isRight_0 (by decide) ?_
  refine lv_istore_n (lv' := [(3, .int 0), (0, .ref h0), (1, .int x1), (2, .int x2)]) hx hb d_Md_isRight_1 rfl hl (by decide) rfl (fun ls hl => ?_)
  refine lv_iconst (v := 0) hx hb d_Md_isRight_2 (by decide) ?_
  refine lv_istore (lv' := [(4, .int 0), (3, .int 0), (0, .ref h0), (1, .int x1), (2, .int x2)]) hx hb d_Md_isRight_3 hl (by decide) rfl (fun ls hl => ?_)
  refine lv_iload_n hx hb d_Md_isRight_5 rfl (lv_at hl 3 rfl) ?_
  refine lv_istore (lv' := [(5, .int x1), (4, .int 0), (3, .int 0), (0, .ref h0), (1, .int x1), (2, .int x2)]) hx hb d_Md_isRight_6 hl (by decide) rfl (fun ls hl => ?_)
  exact w_Md_isRight_L8 C0 hK hX 1000 h0 x2 0 0 x1 σ r h _ _ hH hS ls (lv_sub hl [3, 5, 2, 1, 0] rfl)
set_option maxHeartbeats 4000000 in
set_option maxRecDepth 100000 in
theorem w_Md_strip_L6 {p : Program} {l : Launch} {e : Env} {s : State} {m : MethodId} {args : Array Value} {below : List Frame} {meth : Method} {c : Code} {D : va_G} {T : Nat → ClassId} {A : Nat → Prop} (C0 : fr_At p s m args meth c "FetchRulesModel" b_Md_strip 6 (some .int)) (hK : va_K D vwCl (fr_tys T) s) (hX : fr_X s) :
    ∀ (n : Nat) (b0 : Nat) (y2 : Int32) (y4 : Int32) (y5 : Int32) (σ : fr_S) (r : Int32), m_Md_strip_L6 n b0 y2 y4 y5 σ = some r → ∀ (H : Heap) (locs : List Loc), fr_H D T A σ H → va_S A s.heap H locs → ∀ (ls : Array Slot), lv_has ls 6 [(0, .ref b0), (2, .int y2), (4, .int y4), (5, .int y5)] → W p l e (headSpec (Cond.code y_Md_strip b_Md_strip 6 (some .int) :: fr_W) ({ frames := 0, cells := 0, slots := 0, locals := 0 } : Room)).room s m args below meth c H locs 0 0 (MQ below (fr_Qi D T A r σ) args s 0 0 A) (F0 m 6 ls []) := by
  obtain ⟨hx, hb, hr, hml, hown, hts, hlocks⟩ := id C0
  intro n
  induction n with
  | zero => intro b0 y2 y4 y5 σ r h; cases h
  | succ n ih =>
    intro b0 y2 y4 y5 σ r h H locs hH hS ls hl
    unfold m_Md_strip_L6 at h
    refine lv_iload hx hb d_Md_strip_6 (lv_at hl 2 rfl) ?_
    refine lv_if_le (tgt := 45) hx hb d_Md_strip_8 (by decide) (fun c1 => ?_) (fun c1 => ?_)
    · replace h := fr_ift c1 h
      refine lv_iload hx hb d_Md_strip_45 (lv_at hl 2 rfl) ?_
      refine lv_if_le (tgt := 54) hx hb d_Md_strip_47 (by decide) (fun c2 => ?_) (fun c2 => ?_)
      · replace h := fr_ift c2 h
        refine lv_iload hx hb d_Md_strip_54 (lv_at hl 3 rfl) ?_
        exact fr_iretO hx hb hr hlocks  h hH hK hX hS d_Md_strip_56
      · replace h := fr_iff c2 h
        refine lv_iload_n hx hb d_Md_strip_50 rfl (lv_at hl 1 rfl) ?_
        refine lv_goto (tgt := 56) hx hb d_Md_strip_51 (by decide) ?_
        exact fr_iretO hx hb hr hlocks  h hH hK hX hS d_Md_strip_56
    · replace h := fr_iff c1 h
      refine lv_iload hx hb d_Md_strip_11 (lv_at hl 3 rfl) ?_
      refine lv_iload_n hx hb d_Md_strip_13 rfl (lv_at hl 1 rfl) ?_
      refine lv_icmp_ge (tgt := 45) hx hb d_Md_strip_14 (by decide) (fun c3 => ?_) (fun c3 => ?_)
      · replace h := fr_ift c3 h
        refine lv_iload hx hb d_Md_strip_45 (lv_at hl 2 rfl) ?_
        refine lv_if_le (tgt := 54) hx hb d_Md_strip_47 (by decide) (fun c4 => ?_) (fun c4 => ?_)
        · replace h := fr_ift c4 h
          refine lv_iload hx hb d_Md_strip_54 (lv_at hl 3 rfl) ?_
          exact fr_iretO hx hb hr hlocks  h hH hK hX hS d_Md_strip_56
        · replace h := fr_iff c4 h
          refine lv_iload_n hx hb d_Md_strip_50 rfl (lv_at hl 1 rfl) ?_
          refine lv_goto (tgt := 56) hx hb d_Md_strip_51 (by decide) ?_
          exact fr_iretO hx hb hr hlocks  h hH hK hX hS d_Md_strip_56
      · replace h := fr_iff c3 h
        refine lv_iload hx hb d_Md_strip_17 (lv_at hl 2 rfl) ?_
        refine lv_aload_n hx hb d_Md_strip_19 rfl (lv_at hl 0 rfl) ?_
        obtain ⟨q5, e5, h⟩ := fr_bind h
        refine fr_gP hx hb hts in_Md hown hK hH e5 rfl 28 (by decide) (hts _ k_568) (fun _ h9 => h9) rfl d_Md_strip_20 ?_
        refine lv_iload hx hb d_Md_strip_23 (lv_at hl 3 rfl) ?_
        obtain ⟨v6, e6, h⟩ := fr_bind h
        refine fr_ild hx hb hK hH e6 d_Md_strip_25 ?_
        refine lv_bipush (v := 47) hx hb d_Md_strip_26 (by decide) ?_
        refine lv_icmp_ne (tgt := 35) hx hb d_Md_strip_28 (by decide) (fun c7 => ?_) (fun c7 => ?_)
        · replace h := fr_iff c7 h
          refine lv_iconst (v := 0) hx hb d_Md_strip_35 (by decide) ?_
          refine lv_isub hx hb d_Md_strip_36 ?_
          refine lv_istore (lv' := [(4, .int (y4 - 0)), (0, .ref b0), (2, .int y2), (5, .int y5)]) hx hb d_Md_strip_37 hl (by decide) rfl (fun ls hl => ?_)
          refine lv_iinc (v := (y5 + 1)) (lv' := [(5, .int (y5 + 1)), (4, .int (y4 - 0)), (0, .ref b0), (2, .int y2)]) hx hb d_Md_strip_39 hl (k := 3) rfl rfl (by decide) rfl (fun ls hl => ?_)
          refine lv_goto (tgt := 6) hx hb d_Md_strip_42 (by decide) ?_
          exact ih b0 y2 (y4 - 0) (y5 + 1) σ r h _ _ hH hS ls (lv_sub hl [2, 3, 1, 0] rfl)
        · replace h := fr_ift c7 h
          refine lv_iconst (v := 1) hx hb d_Md_strip_31 (by decide) ?_
          refine lv_goto (tgt := 36) hx hb d_Md_strip_32 (by decide) ?_
          refine lv_isub hx hb d_Md_strip_36 ?_
          refine lv_istore (lv' := [(4, .int (y4 - 1)), (0, .ref b0), (2, .int y2), (5, .int y5)]) hx hb d_Md_strip_37 hl (by decide) rfl (fun ls hl => ?_)
          refine lv_iinc (v := (y5 + 1)) (lv' := [(5, .int (y5 + 1)), (4, .int (y4 - 1)), (0, .ref b0), (2, .int y2)]) hx hb d_Md_strip_39 hl (k := 3) rfl rfl (by decide) rfl (fun ls hl => ?_)
          refine lv_goto (tgt := 6) hx hb d_Md_strip_42 (by decide) ?_
          exact ih b0 y2 (y4 - 1) (y5 + 1) σ r h _ _ hH hS ls (lv_sub hl [2, 3, 1, 0] rfl)
set_option maxHeartbeats 4000000 in
set_option maxRecDepth 100000 in
theorem c_Md_strip (l : Launch) (D : va_G) (T : Nat → ClassId) (A : Nat → Prop) (σ : fr_S) (h0 : Nat) (x1 : Int32) (x2 : Int32) (x3 : Int32) (r : Int32) (h : m_Md_strip h0 x1 x2 x3 σ = some r) : Met l y_Md_strip (Cond.code y_Md_strip b_Md_strip 6 (some .int) :: fr_W) ({ frames := 0, cells := 0, slots := 0, locals := 0 } : Room) (va_Pc [.ref h0, .int x1, .int x2, .int x3] (fr_B D T A σ)) (fr_Qi D T A r σ) 0 0 A := by
  refine Met.ofW (cc := b_Md_strip) (maxL := 6) (ret := (some .int)) (by decide) rfl ?_
  intro p e s m args below meth c s₁ B hml hv
  obtain ⟨rfl, hH, hK, hX⟩ := hv
  have C0 : fr_At p s m _ meth c "FetchRulesModel" b_Md_strip 6 (some .int) := fr_at B hml
  obtain ⟨hx, hb, hr, hml, hown, hts, hlocks⟩ := id C0
  have hS : va_S A s.heap s.heap [] := va_S.rf
  have hl := lv_entry ([.ref h0, .int x1, .int x2, .int x3]) (n := 6) (Nat.le_of_ble_eq_true rfl)
  rw [lg_entry_eq]
  generalize (lg_sl ([.ref h0, .int x1, .int x2, .int x3]) ++ List.replicate (6 - (lg_sl ([.ref h0, .int x1, .int x2, .int x3])).length) Slot.unset).toArray = ls at hl ⊢
  have hl : lv_has ls 6 [(0, .ref h0), (1, .int x1), (2, .int x2), (3, .int x3)] := hl
  unfold m_Md_strip at h
  refine lv_iload_n hx hb d_Md_strip_0 rfl (lv_at hl 3 rfl) ?_
  refine lv_istore (lv' := [(4, .int x3), (0, .ref h0), (1, .int x1), (2, .int x2), (3, .int x3)]) hx hb d_Md_strip_1 hl (by decide) rfl (fun ls hl => ?_)
  refine lv_iload_n hx hb d_Md_strip_3 rfl (lv_at hl 2 rfl) ?_
  refine lv_istore (lv' := [(5, .int x1), (4, .int x3), (0, .ref h0), (1, .int x1), (2, .int x2), (3, .int x3)]) hx hb d_Md_strip_4 hl (by decide) rfl (fun ls hl => ?_)
  exact w_Md_strip_L6 C0 hK hX 1000 h0 x2 x3 x1 σ r h _ _ hH hS ls (lv_sub hl [2, 4, 1, 0] rfl)
set_option maxHeartbeats 4000000 in
set_option maxRecDepth 100000 in
theorem w_Md_isSamePath_L16 {p : Program} {l : Launch} {e : Env} {s : State} {m : MethodId} {args : Array Value} {below : List Frame} {meth : Method} {c : Code} {D : va_G} {T : Nat → ClassId} {A : Nat → Prop} (C0 : fr_At p s m args meth c "FetchRulesModel" b_Md_isSamePath 7 (some .boolean)) (hK : va_K D vwCl (fr_tys T) s) (hX : fr_X s) :
    ∀ (n : Nat) (b0 : Nat) (y1 : Int32) (y2 : Int32) (y3 : Int32) (y5 : Int32) (y6 : Int32) (σ : fr_S) (r : Int32), m_Md_isSamePath_L16 n b0 y1 y2 y3 y5 y6 σ = some r → ∀ (H : Heap) (locs : List Loc), fr_H D T A σ H → va_S A s.heap H locs → ∀ (ls : Array Slot), lv_has ls 7 [(0, .ref b0), (1, .int y1), (2, .int y2), (3, .int y3), (5, .int y5), (6, .int y6)] → W p l e (headSpec (Cond.code y_Md_isSamePath b_Md_isSamePath 7 (some .boolean) :: fr_W) ({ frames := 0, cells := 0, slots := 0, locals := 0 } : Room)).room s m args below meth c H locs 0 0 (MQ below (fr_Qi D T A r σ) args s 0 0 A) (F0 m 16 ls []) := by
  obtain ⟨hx, hb, hr, hml, hown, hts, hlocks⟩ := id C0
  intro n
  induction n with
  | zero => intro b0 y1 y2 y3 y5 y6 σ r h; cases h
  | succ n ih =>
    intro b0 y1 y2 y3 y5 y6 σ r h H locs hH hS ls hl
    unfold m_Md_isSamePath_L16 at h
    refine lv_iload hx hb d_Md_isSamePath_16 (lv_at hl 5 rfl) ?_
    refine lv_iload_n hx hb d_Md_isSamePath_18 rfl (lv_at hl 2 rfl) ?_
    refine lv_icmp_ge (tgt := 61) hx hb d_Md_isSamePath_19 (by decide) (fun c2 => ?_) (fun c2 => ?_)
    · replace h := fr_ift c2 h
      refine lv_iload hx hb d_Md_isSamePath_61 (lv_at hl 4 rfl) ?_
      obtain ⟨u3, e3, h⟩ := fr_bind h
      exact fr_zretO hx hb hr hlocks (oZ_inv e3) h hH hK hX hS d_Md_isSamePath_63
    · replace h := fr_iff c2 h
      refine lv_iload hx hb d_Md_isSamePath_22 (lv_at hl 4 rfl) ?_
      refine lv_if_eq (tgt := 61) hx hb d_Md_isSamePath_24 (by decide) (fun c4 => ?_) (fun c4 => ?_)
      · replace h := fr_ift c4 h
        refine lv_iload hx hb d_Md_isSamePath_61 (lv_at hl 4 rfl) ?_
        obtain ⟨u5, e5, h⟩ := fr_bind h
        exact fr_zretO hx hb hr hlocks (oZ_inv e5) h hH hK hX hS d_Md_isSamePath_63
      · replace h := fr_iff c4 h
        refine lv_aload_n hx hb d_Md_isSamePath_27 rfl (lv_at hl 0 rfl) ?_
        obtain ⟨q6, e6, h⟩ := fr_bind h
        refine fr_gP hx hb hts in_Md hown hK hH e6 rfl 28 (by decide) (hts _ k_568) (fun _ h9 => h9) rfl d_Md_isSamePath_28 ?_
        refine lv_iload_n hx hb d_Md_isSamePath_31 rfl (lv_at hl 1 rfl) ?_
        refine lv_iload hx hb d_Md_isSamePath_32 (lv_at hl 5 rfl) ?_
        refine lv_iadd hx hb d_Md_isSamePath_34 ?_
        obtain ⟨v7, e7, h⟩ := fr_bind h
        refine fr_ild hx hb hK hH e7 d_Md_isSamePath_35 ?_
        refine lv_aload_n hx hb d_Md_isSamePath_36 rfl (lv_at hl 0 rfl) ?_
        obtain ⟨q8, e8, h⟩ := fr_bind h
        refine fr_gP hx hb hts in_Md hown hK hH e8 rfl 28 (by decide) (hts _ k_568) (fun _ h9 => h9) rfl d_Md_isSamePath_37 ?_
        refine lv_iload_n hx hb d_Md_isSamePath_40 rfl (lv_at hl 3 rfl) ?_
        refine lv_iload hx hb d_Md_isSamePath_41 (lv_at hl 5 rfl) ?_
        refine lv_iadd hx hb d_Md_isSamePath_43 ?_
        obtain ⟨v9, e9, h⟩ := fr_bind h
        refine fr_ild hx hb hK hH e9 d_Md_isSamePath_44 ?_
        refine lv_icmp_ne (tgt := 52) hx hb d_Md_isSamePath_45 (by decide) (fun c10 => ?_) (fun c10 => ?_)
        · replace h := fr_iff c10 h
          refine lv_iconst (v := 0) hx hb d_Md_isSamePath_52 (by decide) ?_
          refine lv_istore (lv' := [(5, .int 0), (0, .ref b0), (1, .int y1), (2, .int y2), (3, .int y3), (6, .int y6)]) hx hb d_Md_isSamePath_53 hl (by decide) rfl (fun ls hl => ?_)
          refine lv_iinc (v := (y6 + 1)) (lv' := [(6, .int (y6 + 1)), (5, .int 0), (0, .ref b0), (1, .int y1), (2, .int y2), (3, .int y3)]) hx hb d_Md_isSamePath_55 hl (k := 5) rfl rfl (by decide) rfl (fun ls hl => ?_)
          refine lv_goto (tgt := 16) hx hb d_Md_isSamePath_58 (by decide) ?_
          exact ih b0 y1 y2 y3 0 (y6 + 1) σ r h _ _ hH hS ls (lv_sub hl [2, 3, 4, 5, 1, 0] rfl)
        · replace h := fr_ift c10 h
          refine lv_iconst (v := 1) hx hb d_Md_isSamePath_48 (by decide) ?_
          refine lv_goto (tgt := 53) hx hb d_Md_isSamePath_49 (by decide) ?_
          refine lv_istore (lv' := [(5, .int 1), (0, .ref b0), (1, .int y1), (2, .int y2), (3, .int y3), (6, .int y6)]) hx hb d_Md_isSamePath_53 hl (by decide) rfl (fun ls hl => ?_)
          refine lv_iinc (v := (y6 + 1)) (lv' := [(6, .int (y6 + 1)), (5, .int 1), (0, .ref b0), (1, .int y1), (2, .int y2), (3, .int y3)]) hx hb d_Md_isSamePath_55 hl (k := 5) rfl rfl (by decide) rfl (fun ls hl => ?_)
          refine lv_goto (tgt := 16) hx hb d_Md_isSamePath_58 (by decide) ?_
          exact ih b0 y1 y2 y3 1 (y6 + 1) σ r h _ _ hH hS ls (lv_sub hl [2, 3, 4, 5, 1, 0] rfl)
set_option maxHeartbeats 4000000 in
set_option maxRecDepth 100000 in
theorem c_Md_isSamePath (l : Launch) (D : va_G) (T : Nat → ClassId) (A : Nat → Prop) (σ : fr_S) (h0 : Nat) (x1 : Int32) (x2 : Int32) (x3 : Int32) (x4 : Int32) (r : Int32) (h : m_Md_isSamePath h0 x1 x2 x3 x4 σ = some r) : Met l y_Md_isSamePath (Cond.code y_Md_isSamePath b_Md_isSamePath 7 (some .boolean) :: fr_W) ({ frames := 0, cells := 0, slots := 0, locals := 0 } : Room) (va_Pc [.ref h0, .int x1, .int x2, .int x3, .int x4] (fr_B D T A σ)) (fr_Qi D T A r σ) 0 0 A := by
  refine Met.ofW (cc := b_Md_isSamePath) (maxL := 7) (ret := (some .boolean)) (by decide) rfl ?_
  intro p e s m args below meth c s₁ B hml hv
  obtain ⟨rfl, hH, hK, hX⟩ := hv
  have C0 : fr_At p s m _ meth c "FetchRulesModel" b_Md_isSamePath 7 (some .boolean) := fr_at B hml
  obtain ⟨hx, hb, hr, hml, hown, hts, hlocks⟩ := id C0
  have hS : va_S A s.heap s.heap [] := va_S.rf
  have hl := lv_entry ([.ref h0, .int x1, .int x2, .int x3, .int x4]) (n := 7) (Nat.le_of_ble_eq_true rfl)
  rw [lg_entry_eq]
  generalize (lg_sl ([.ref h0, .int x1, .int x2, .int x3, .int x4]) ++ List.replicate (7 - (lg_sl ([.ref h0, .int x1, .int x2, .int x3, .int x4])).length) Slot.unset).toArray = ls at hl ⊢
  have hl : lv_has ls 7 [(0, .ref h0), (1, .int x1), (2, .int x2), (3, .int x3), (4, .int x4)] := hl
  unfold m_Md_isSamePath at h
  refine lv_iload_n hx hb d_Md_isSamePath_0 rfl (lv_at hl 2 rfl) ?_
  refine lv_iload hx hb d_Md_isSamePath_1 (lv_at hl 4 rfl) ?_
  refine lv_icmp_ne (tgt := 10) hx hb d_Md_isSamePath_3 (by decide) (fun c1 => ?_) (fun c1 => ?_)
  · replace h := fr_iff c1 h
    refine lv_iconst (v := 0) hx hb d_Md_isSamePath_10 (by decide) ?_
    refine lv_istore (lv' := [(5, .int 0), (0, .ref h0), (1, .int x1), (2, .int x2), (3, .int x3), (4, .int x4)]) hx hb d_Md_isSamePath_11 hl (by decide) rfl (fun ls hl => ?_)
    refine lv_iconst (v := 0) hx hb d_Md_isSamePath_13 (by decide) ?_
    refine lv_istore (lv' := [(6, .int 0), (5, .int 0), (0, .ref h0), (1, .int x1), (2, .int x2), (3, .int x3), (4, .int x4)]) hx hb d_Md_isSamePath_14 hl (by decide) rfl (fun ls hl => ?_)
    exact w_Md_isSamePath_L16 C0 hK hX 1000 h0 x1 x2 x3 0 0 σ r h _ _ hH hS ls (lv_sub hl [2, 3, 4, 5, 1, 0] rfl)
  · replace h := fr_ift c1 h
    refine lv_iconst (v := 1) hx hb d_Md_isSamePath_6 (by decide) ?_
    refine lv_goto (tgt := 11) hx hb d_Md_isSamePath_7 (by decide) ?_
    refine lv_istore (lv' := [(5, .int 1), (0, .ref h0), (1, .int x1), (2, .int x2), (3, .int x3), (4, .int x4)]) hx hb d_Md_isSamePath_11 hl (by decide) rfl (fun ls hl => ?_)
    refine lv_iconst (v := 0) hx hb d_Md_isSamePath_13 (by decide) ?_
    refine lv_istore (lv' := [(6, .int 0), (5, .int 1), (0, .ref h0), (1, .int x1), (2, .int x2), (3, .int x3), (4, .int x4)]) hx hb d_Md_isSamePath_14 hl (by decide) rfl (fun ls hl => ?_)
    exact w_Md_isSamePath_L16 C0 hK hX 1000 h0 x1 x2 x3 1 0 σ r h _ _ hH hS ls (lv_sub hl [2, 3, 4, 5, 1, 0] rfl)
set_option maxHeartbeats 4000000 in
set_option maxRecDepth 100000 in
theorem w_Md_putFile_L3 {p : Program} {l : Launch} {e : Env} {s : State} {m : MethodId} {args : Array Value} {below : List Frame} {meth : Method} {c : Code} {D : va_G} {T : Nat → ClassId} {A : Nat → Prop} (C0 : fr_At p s m args meth c "FetchRulesModel" b_Md_putFile 7 none) (hK : va_K D vwCl (fr_tys T) s) (hX : fr_X s) :
    ∀ (n : Nat) (b0 : Nat) (y1 : Int32) (y2 : Int32) (y3 : Int32) (y4 : Int32) (y5 : Int32) (y6 : Int32) (σ : fr_S) (σ1 : fr_S), m_Md_putFile_L3 n b0 y1 y2 y3 y4 y5 y6 σ = some σ1 → ∀ (H : Heap) (locs : List Loc), fr_H D T A σ H → va_S A s.heap H locs → ∀ (ls : Array Slot), lv_has ls 7 [(0, .ref b0), (1, .int y1), (2, .int y2), (3, .int y3), (4, .int y4), (5, .int y5), (6, .int y6)] → W p l e (headSpec (Cond.code y_Md_putFile b_Md_putFile 7 none :: fr_W) ({ frames := 1, cells := 0, slots := 0, locals := 26 } : Room)).room s m args below meth c H locs 0 0 (MQ below (fr_Qv D T A σ1) args s 0 0 A) (F0 m 3 ls []) := by
  obtain ⟨hx, hb, hr, hml, hown, hts, hlocks⟩ := id C0
  intro n
  induction n with
  | zero => intro b0 y1 y2 y3 y4 y5 y6 σ σ1 h; cases h
  | succ n ih =>
    intro b0 y1 y2 y3 y4 y5 y6 σ σ1 h H locs hH hS ls hl
    unfold m_Md_putFile_L3 at h
    refine lv_iload hx hb d_Md_putFile_3 (lv_at hl 6 rfl) ?_
    refine lv_aload_n hx hb d_Md_putFile_5 rfl (lv_at hl 0 rfl) ?_
    obtain ⟨v1, e1, h⟩ := fr_bind h
    refine fr_gI hx hb hts in_Md hown hK hH e1 rfl 39 (by decide) (hts _ k_579) (fun _ h9 => h9) rfl d_Md_putFile_6 ?_
    refine lv_icmp_ge (tgt := 45) hx hb d_Md_putFile_9 (by decide) (fun c2 => ?_) (fun c2 => ?_)
    · replace h := fr_ift c2 h
      refine lv_iload hx hb d_Md_putFile_45 (lv_at hl 6 rfl) ?_
      refine lv_aload_n hx hb d_Md_putFile_47 rfl (lv_at hl 0 rfl) ?_
      obtain ⟨v3, e3, h⟩ := fr_bind h
      refine fr_gI hx hb hts in_Md hown hK hH e3 rfl 39 (by decide) (hts _ k_579) (fun _ h9 => h9) rfl d_Md_putFile_48 ?_
      refine lv_icmp_ne (tgt := 84) hx hb d_Md_putFile_51 (by decide) (fun c4 => ?_) (fun c4 => ?_)
      · replace h := fr_iff c4 h
        refine lv_aload_n hx hb d_Md_putFile_84 rfl (lv_at hl 0 rfl) ?_
        obtain ⟨q5, e5, h⟩ := fr_bind h
        refine fr_gP hx hb hts in_Md hown hK hH e5 rfl 40 (by decide) (hts _ k_580) (fun _ h9 => h9) rfl d_Md_putFile_85 ?_
        refine lv_iload hx hb d_Md_putFile_88 (lv_at hl 6 rfl) ?_
        refine lv_iload hx hb d_Md_putFile_90 (lv_at hl 4 rfl) ?_
        refine lv_iload_n hx hb d_Md_putFile_92 rfl (lv_at hl 1 rfl) ?_
        refine lv_isub hx hb d_Md_putFile_93 ?_
        obtain ⟨σ_6, e6, h⟩ := fr_bind h
        refine fr_ist hx hb hK hH hS e6 d_Md_putFile_94 (fun H locs hH hS => ?_)
        refine lv_aload_n hx hb d_Md_putFile_95 rfl (lv_at hl 0 rfl) ?_
        obtain ⟨q7, e7, h⟩ := fr_bind h
        refine fr_gP hx hb hts in_Md hown hK hH e7 rfl 41 (by decide) (hts _ k_581) (fun _ h9 => h9) rfl d_Md_putFile_96 ?_
        refine lv_iload hx hb d_Md_putFile_99 (lv_at hl 6 rfl) ?_
        refine lv_iload hx hb d_Md_putFile_101 (lv_at hl 5 rfl) ?_
        obtain ⟨σ_8, e8, h⟩ := fr_bind h
        refine fr_ist hx hb hK hH hS e8 d_Md_putFile_103 (fun H locs hH hS => ?_)
        exact fr_vret hx hb hr hlocks h hH hK hX hS d_Md_putFile_104
      · replace h := fr_ift c4 h
        refine lv_aload_n hx hb d_Md_putFile_54 rfl (lv_at hl 0 rfl) ?_
        obtain ⟨q9, e9, h⟩ := fr_bind h
        refine fr_gP hx hb hts in_Md hown hK hH e9 rfl 42 (by decide) (hts _ k_582) (fun _ h9 => h9) rfl d_Md_putFile_55 ?_
        refine lv_iload hx hb d_Md_putFile_58 (lv_at hl 6 rfl) ?_
        refine lv_iload_n hx hb d_Md_putFile_60 rfl (lv_at hl 2 rfl) ?_
        refine lv_iload_n hx hb d_Md_putFile_61 rfl (lv_at hl 1 rfl) ?_
        refine lv_isub hx hb d_Md_putFile_62 ?_
        obtain ⟨σ_10, e10, h⟩ := fr_bind h
        refine fr_ist hx hb hK hH hS e10 d_Md_putFile_63 (fun H locs hH hS => ?_)
        refine lv_aload_n hx hb d_Md_putFile_64 rfl (lv_at hl 0 rfl) ?_
        obtain ⟨q11, e11, h⟩ := fr_bind h
        refine fr_gP hx hb hts in_Md hown hK hH e11 rfl 43 (by decide) (hts _ k_583) (fun _ h9 => h9) rfl d_Md_putFile_65 ?_
        refine lv_iload hx hb d_Md_putFile_68 (lv_at hl 6 rfl) ?_
        refine lv_iload_n hx hb d_Md_putFile_70 rfl (lv_at hl 3 rfl) ?_
        refine lv_iload_n hx hb d_Md_putFile_71 rfl (lv_at hl 2 rfl) ?_
        refine lv_isub hx hb d_Md_putFile_72 ?_
        obtain ⟨σ_12, e12, h⟩ := fr_bind h
        refine fr_ist hx hb hK hH hS e12 d_Md_putFile_73 (fun H locs hH hS => ?_)
        refine lv_aload_n hx hb d_Md_putFile_74 rfl (lv_at hl 0 rfl) ?_
        refine lv_dup hx hb d_Md_putFile_75 rfl ?_
        obtain ⟨v13, e13, h⟩ := fr_bind h
        refine fr_gI hx hb hts in_Md hown hK hH e13 rfl 39 (by decide) (hts _ k_579) (fun _ h9 => h9) rfl d_Md_putFile_76 ?_
        refine lv_iconst (v := 1) hx hb d_Md_putFile_79 (by decide) ?_
        refine lv_iadd hx hb d_Md_putFile_80 ?_
        obtain ⟨σ_14, e14, h⟩ := fr_bind h
        refine fr_putI hx hb hts in_Md ty_Md tk_Md nm_Md hown hK hH hS e14 rfl 39 (by decide) (hts _ k_579) (fun _ h9 => h9) rfl (by decide +kernel) (fs_0_39 _ _ _) (Nat.le_of_ble_eq_true rfl) d_Md_putFile_81 (fun H locs hH hS => ?_)
        refine lv_aload_n hx hb d_Md_putFile_84 rfl (lv_at hl 0 rfl) ?_
        obtain ⟨q15, e15, h⟩ := fr_bind h
        refine fr_gP hx hb hts in_Md hown hK hH e15 rfl 40 (by decide) (hts _ k_580) (fun _ h9 => h9) rfl d_Md_putFile_85 ?_
        refine lv_iload hx hb d_Md_putFile_88 (lv_at hl 6 rfl) ?_
        refine lv_iload hx hb d_Md_putFile_90 (lv_at hl 4 rfl) ?_
        refine lv_iload_n hx hb d_Md_putFile_92 rfl (lv_at hl 1 rfl) ?_
        refine lv_isub hx hb d_Md_putFile_93 ?_
        obtain ⟨σ_16, e16, h⟩ := fr_bind h
        refine fr_ist hx hb hK hH hS e16 d_Md_putFile_94 (fun H locs hH hS => ?_)
        refine lv_aload_n hx hb d_Md_putFile_95 rfl (lv_at hl 0 rfl) ?_
        obtain ⟨q17, e17, h⟩ := fr_bind h
        refine fr_gP hx hb hts in_Md hown hK hH e17 rfl 41 (by decide) (hts _ k_581) (fun _ h9 => h9) rfl d_Md_putFile_96 ?_
        refine lv_iload hx hb d_Md_putFile_99 (lv_at hl 6 rfl) ?_
        refine lv_iload hx hb d_Md_putFile_101 (lv_at hl 5 rfl) ?_
        obtain ⟨σ_18, e18, h⟩ := fr_bind h
        refine fr_ist hx hb hK hH hS e18 d_Md_putFile_103 (fun H locs hH hS => ?_)
        exact fr_vret hx hb hr hlocks h hH hK hX hS d_Md_putFile_104
    · replace h := fr_iff c2 h
      refine lv_aload_n hx hb d_Md_putFile_12 rfl (lv_at hl 0 rfl) ?_
      refine lv_iload_n hx hb d_Md_putFile_13 rfl (lv_at hl 1 rfl) ?_
      refine lv_aload_n hx hb d_Md_putFile_14 rfl (lv_at hl 0 rfl) ?_
      obtain ⟨q19, e19, h⟩ := fr_bind h
      refine fr_gP hx hb hts in_Md hown hK hH e19 rfl 42 (by decide) (hts _ k_582) (fun _ h9 => h9) rfl d_Md_putFile_15 ?_
      refine lv_iload hx hb d_Md_putFile_18 (lv_at hl 6 rfl) ?_
      obtain ⟨v20, e20, h⟩ := fr_bind h
      refine fr_ild hx hb hK hH e20 d_Md_putFile_20 ?_
      refine lv_iadd hx hb d_Md_putFile_21 ?_
      refine lv_aload_n hx hb d_Md_putFile_22 rfl (lv_at hl 0 rfl) ?_
      obtain ⟨q21, e21, h⟩ := fr_bind h
      refine fr_gP hx hb hts in_Md hown hK hH e21 rfl 43 (by decide) (hts _ k_583) (fun _ h9 => h9) rfl d_Md_putFile_23 ?_
      refine lv_iload hx hb d_Md_putFile_26 (lv_at hl 6 rfl) ?_
      obtain ⟨v22, e22, h⟩ := fr_bind h
      refine fr_ild hx hb hK hH e22 d_Md_putFile_28 ?_
      refine lv_iload_n hx hb d_Md_putFile_29 rfl (lv_at hl 2 rfl) ?_
      refine lv_iload_n hx hb d_Md_putFile_30 rfl (lv_at hl 3 rfl) ?_
      refine lv_iload_n hx hb d_Md_putFile_31 rfl (lv_at hl 2 rfl) ?_
      refine lv_isub hx hb d_Md_putFile_32 ?_
      obtain ⟨u23, e23, h⟩ := fr_bind h
      obtain ⟨r24, e24, h⟩ := fr_bind h
      refine fr_calli (fr_V (As := [.int (y1 + v20), .int v22, .int y2, .int (y3 - y2)]) (rest := []) ⟨hx, hb, hml, hown, hts⟩ (c_Md_isSamePath l D T A σ b0 ((y1 + v20)) v22 y2 ((y3 - y2)) r24 e24) k_809 mv_Md_isSamePath rfl rfl ⟨Nat.le_of_ble_eq_true rfl, Nat.le_of_ble_eq_true rfl⟩ (fr_preV hK hX hH e23 rfl _) rfl hl.1 rfl (Nat.le_of_ble_eq_true rfl) d_Md_putFile_33 ⟨Nat.zero_le _, Nat.zero_le _⟩) hS (fun H locs hH hS => ?_)
      refine lv_if_ne (tgt := 45) hx hb d_Md_putFile_36 (by decide) (fun c25 => ?_) (fun c25 => ?_)
      · replace h := fr_iff c25 h
        refine lv_iload hx hb d_Md_putFile_45 (lv_at hl 6 rfl) ?_
        refine lv_aload_n hx hb d_Md_putFile_47 rfl (lv_at hl 0 rfl) ?_
        obtain ⟨v26, e26, h⟩ := fr_bind h
        refine fr_gI hx hb hts in_Md hown hK hH e26 rfl 39 (by decide) (hts _ k_579) (fun _ h9 => h9) rfl d_Md_putFile_48 ?_
        refine lv_icmp_ne (tgt := 84) hx hb d_Md_putFile_51 (by decide) (fun c27 => ?_) (fun c27 => ?_)
        · replace h := fr_iff c27 h
          refine lv_aload_n hx hb d_Md_putFile_84 rfl (lv_at hl 0 rfl) ?_
          obtain ⟨q28, e28, h⟩ := fr_bind h
          refine fr_gP hx hb hts in_Md hown hK hH e28 rfl 40 (by decide) (hts _ k_580) (fun _ h9 => h9) rfl d_Md_putFile_85 ?_
          refine lv_iload hx hb d_Md_putFile_88 (lv_at hl 6 rfl) ?_
          refine lv_iload hx hb d_Md_putFile_90 (lv_at hl 4 rfl) ?_
          refine lv_iload_n hx hb d_Md_putFile_92 rfl (lv_at hl 1 rfl) ?_
          refine lv_isub hx hb d_Md_putFile_93 ?_
          obtain ⟨σ_29, e29, h⟩ := fr_bind h
          refine fr_ist hx hb hK hH hS e29 d_Md_putFile_94 (fun H locs hH hS => ?_)
          refine lv_aload_n hx hb d_Md_putFile_95 rfl (lv_at hl 0 rfl) ?_
          obtain ⟨q30, e30, h⟩ := fr_bind h
          refine fr_gP hx hb hts in_Md hown hK hH e30 rfl 41 (by decide) (hts _ k_581) (fun _ h9 => h9) rfl d_Md_putFile_96 ?_
          refine lv_iload hx hb d_Md_putFile_99 (lv_at hl 6 rfl) ?_
          refine lv_iload hx hb d_Md_putFile_101 (lv_at hl 5 rfl) ?_
          obtain ⟨σ_31, e31, h⟩ := fr_bind h
          refine fr_ist hx hb hK hH hS e31 d_Md_putFile_103 (fun H locs hH hS => ?_)
          exact fr_vret hx hb hr hlocks h hH hK hX hS d_Md_putFile_104
        · replace h := fr_ift c27 h
          refine lv_aload_n hx hb d_Md_putFile_54 rfl (lv_at hl 0 rfl) ?_
          obtain ⟨q32, e32, h⟩ := fr_bind h
          refine fr_gP hx hb hts in_Md hown hK hH e32 rfl 42 (by decide) (hts _ k_582) (fun _ h9 => h9) rfl d_Md_putFile_55 ?_
          refine lv_iload hx hb d_Md_putFile_58 (lv_at hl 6 rfl) ?_
          refine lv_iload_n hx hb d_Md_putFile_60 rfl (lv_at hl 2 rfl) ?_
          refine lv_iload_n hx hb d_Md_putFile_61 rfl (lv_at hl 1 rfl) ?_
          refine lv_isub hx hb d_Md_putFile_62 ?_
          obtain ⟨σ_33, e33, h⟩ := fr_bind h
          refine fr_ist hx hb hK hH hS e33 d_Md_putFile_63 (fun H locs hH hS => ?_)
          refine lv_aload_n hx hb d_Md_putFile_64 rfl (lv_at hl 0 rfl) ?_
          obtain ⟨q34, e34, h⟩ := fr_bind h
          refine fr_gP hx hb hts in_Md hown hK hH e34 rfl 43 (by decide) (hts _ k_583) (fun _ h9 => h9) rfl d_Md_putFile_65 ?_
          refine lv_iload hx hb d_Md_putFile_68 (lv_at hl 6 rfl) ?_
          refine lv_iload_n hx hb d_Md_putFile_70 rfl (lv_at hl 3 rfl) ?_
          refine lv_iload_n hx hb d_Md_putFile_71 rfl (lv_at hl 2 rfl) ?_
          refine lv_isub hx hb d_Md_putFile_72 ?_
          obtain ⟨σ_35, e35, h⟩ := fr_bind h
          refine fr_ist hx hb hK hH hS e35 d_Md_putFile_73 (fun H locs hH hS => ?_)
          refine lv_aload_n hx hb d_Md_putFile_74 rfl (lv_at hl 0 rfl) ?_
          refine lv_dup hx hb d_Md_putFile_75 rfl ?_
          obtain ⟨v36, e36, h⟩ := fr_bind h
          refine fr_gI hx hb hts in_Md hown hK hH e36 rfl 39 (by decide) (hts _ k_579) (fun _ h9 => h9) rfl d_Md_putFile_76 ?_
          refine lv_iconst (v := 1) hx hb d_Md_putFile_79 (by decide) ?_
          refine lv_iadd hx hb d_Md_putFile_80 ?_
          obtain ⟨σ_37, e37, h⟩ := fr_bind h
          refine fr_putI hx hb hts in_Md ty_Md tk_Md nm_Md hown hK hH hS e37 rfl 39 (by decide) (hts _ k_579) (fun _ h9 => h9) rfl (by decide +kernel) (fs_0_39 _ _ _) (Nat.le_of_ble_eq_true rfl) d_Md_putFile_81 (fun H locs hH hS => ?_)
          refine lv_aload_n hx hb d_Md_putFile_84 rfl (lv_at hl 0 rfl) ?_
          obtain ⟨q38, e38, h⟩ := fr_bind h
          refine fr_gP hx hb hts in_Md hown hK hH e38 rfl 40 (by decide) (hts _ k_580) (fun _ h9 => h9) rfl d_Md_putFile_85 ?_
          refine lv_iload hx hb d_Md_putFile_88 (lv_at hl 6 rfl) ?_
          refine lv_iload hx hb d_Md_putFile_90 (lv_at hl 4 rfl) ?_
          refine lv_iload_n hx hb d_Md_putFile_92 rfl (lv_at hl 1 rfl) ?_
          refine lv_isub hx hb d_Md_putFile_93 ?_
          obtain ⟨σ_39, e39, h⟩ := fr_bind h
          refine fr_ist hx hb hK hH hS e39 d_Md_putFile_94 (fun H locs hH hS => ?_)
          refine lv_aload_n hx hb d_Md_putFile_95 rfl (lv_at hl 0 rfl) ?_
          obtain ⟨q40, e40, h⟩ := fr_bind h
          refine fr_gP hx hb hts in_Md hown hK hH e40 rfl 41 (by decide) (hts _ k_581) (fun _ h9 => h9) rfl d_Md_putFile_96 ?_
          refine lv_iload hx hb d_Md_putFile_99 (lv_at hl 6 rfl) ?_
          refine lv_iload hx hb d_Md_putFile_101 (lv_at hl 5 rfl) ?_
          obtain ⟨σ_41, e41, h⟩ := fr_bind h
          refine fr_ist hx hb hK hH hS e41 d_Md_putFile_103 (fun H locs hH hS => ?_)
          exact fr_vret hx hb hr hlocks h hH hK hX hS d_Md_putFile_104
      · replace h := fr_ift c25 h
        refine lv_iinc (v := (y6 + 1)) (lv' := [(6, .int (y6 + 1)), (0, .ref b0), (1, .int y1), (2, .int y2), (3, .int y3), (4, .int y4), (5, .int y5)]) hx hb d_Md_putFile_39 hl (k := 6) rfl rfl (by decide) rfl (fun ls hl => ?_)
        refine lv_goto (tgt := 3) hx hb d_Md_putFile_42 (by decide) ?_
        exact ih b0 y1 y2 y3 y4 y5 (y6 + 1) σ σ1 h _ _ hH hS ls (lv_sub hl [1, 2, 3, 4, 5, 6, 0] rfl)
set_option maxHeartbeats 4000000 in
set_option maxRecDepth 100000 in
theorem c_Md_putFile (l : Launch) (D : va_G) (T : Nat → ClassId) (A : Nat → Prop) (σ : fr_S) (h0 : Nat) (x1 : Int32) (x2 : Int32) (x3 : Int32) (x4 : Int32) (x5 : Int32) (σ1 : fr_S) (h : m_Md_putFile h0 x1 x2 x3 x4 x5 σ = some σ1) : Met l y_Md_putFile (Cond.code y_Md_putFile b_Md_putFile 7 none :: fr_W) ({ frames := 1, cells := 0, slots := 0, locals := 26 } : Room) (va_Pc [.ref h0, .int x1, .int x2, .int x3, .int x4, .int x5] (fr_B D T A σ)) (fr_Qv D T A σ1) 0 0 A := by
  refine Met.ofW (cc := b_Md_putFile) (maxL := 7) (ret := none) (by decide) rfl ?_
  intro p e s m args below meth c s₁ B hml hv
  obtain ⟨rfl, hH, hK, hX⟩ := hv
  have C0 : fr_At p s m _ meth c "FetchRulesModel" b_Md_putFile 7 none := fr_at B hml
  obtain ⟨hx, hb, hr, hml, hown, hts, hlocks⟩ := id C0
  have hS : va_S A s.heap s.heap [] := va_S.rf
  have hl := lv_entry ([.ref h0, .int x1, .int x2, .int x3, .int x4, .int x5]) (n := 7) (Nat.le_of_ble_eq_true rfl)
  rw [lg_entry_eq]
  generalize (lg_sl ([.ref h0, .int x1, .int x2, .int x3, .int x4, .int x5]) ++ List.replicate (7 - (lg_sl ([.ref h0, .int x1, .int x2, .int x3, .int x4, .int x5])).length) Slot.unset).toArray = ls at hl ⊢
  have hl : lv_has ls 7 [(0, .ref h0), (1, .int x1), (2, .int x2), (3, .int x3), (4, .int x4), (5, .int x5)] := hl
  unfold m_Md_putFile at h
  refine lv_iconst (v := 0) hx hb d_Md_putFile_0 (by decide) ?_
  refine lv_istore (lv' := [(6, .int 0), (0, .ref h0), (1, .int x1), (2, .int x2), (3, .int x3), (4, .int x4), (5, .int x5)]) hx hb d_Md_putFile_1 hl (by decide) rfl (fun ls hl => ?_)
  exact w_Md_putFile_L3 C0 hK hX 1000 h0 x1 x2 x3 x4 x5 0 σ σ1 h _ _ hH hS ls (lv_sub hl [1, 2, 3, 4, 5, 6, 0] rfl)
set_option maxHeartbeats 4000000 in
set_option maxRecDepth 100000 in
theorem w_Md_read_L21 {p : Program} {l : Launch} {e : Env} {s : State} {m : MethodId} {args : Array Value} {below : List Frame} {meth : Method} {c : Code} {D : va_G} {T : Nat → ClassId} {A : Nat → Prop} (C0 : fr_At p s m args meth c "FetchRulesModel" b_Md_read 12 (some .int)) (hK : va_K D vwCl (fr_tys T) s) (hX : fr_X s) :
    ∀ (n : Nat) (b0 : Nat) (y1 : Int32) (y2 : Int32) (y3 : Int32) (y4 : Int32) (y5 : Int32) (y6 : Int32) (σ : fr_S) (r : Int32) (σ1 : fr_S), m_Md_read_L21 n b0 y1 y2 y3 y4 y5 y6 σ = some (r, σ1) → ∀ (H : Heap) (locs : List Loc), fr_H D T A σ H → va_S A s.heap H locs → ∀ (ls : Array Slot), lv_has ls 12 [(0, .ref b0), (1, .int y1), (2, .int y2), (3, .int y3), (4, .int y4), (5, .int y5), (6, .int y6)] → W p l e (headSpec (Cond.code y_Md_read b_Md_read 12 (some .int) :: fr_W) ({ frames := 2, cells := 0, slots := 0, locals := 52 } : Room)).room s m args below meth c H locs 0 0 (MQ below (fr_Qi D T A r σ1) args s 0 0 A) (F0 m 21 ls []) := by
  obtain ⟨hx, hb, hr, hml, hown, hts, hlocks⟩ := id C0
  intro n
  induction n with
  | zero => intro b0 y1 y2 y3 y4 y5 y6 σ r σ1 h; cases h
  | succ n ih =>
    intro b0 y1 y2 y3 y4 y5 y6 σ r σ1 h H locs hH hS ls hl
    unfold m_Md_read_L21 at h
    refine lv_iload hx hb d_Md_read_21 (lv_at hl 6 rfl) ?_
    refine lv_iload hx hb d_Md_read_23 (lv_at hl 5 rfl) ?_
    refine lv_icmp_ge (tgt := 192) hx hb d_Md_read_25 (by decide) (fun c3 => ?_) (fun c3 => ?_)
    · replace h := fr_ift c3 h
      refine lv_iconst (v := (-1)) hx hb d_Md_read_192 (by decide) ?_
      exact fr_iret hx hb hr hlocks  h hH hK hX hS d_Md_read_193
    · replace h := fr_iff c3 h
      refine lv_aload_n hx hb d_Md_read_28 rfl (lv_at hl 0 rfl) ?_
      obtain ⟨q4, e4, h⟩ := fr_bind h
      refine fr_gP hx hb hts in_Md hown hK hH e4 rfl 28 (by decide) (hts _ k_568) (fun _ h9 => h9) rfl d_Md_read_29 ?_
      refine lv_iload hx hb d_Md_read_32 (lv_at hl 6 rfl) ?_
      obtain ⟨v5, e5, h⟩ := fr_bind h
      refine fr_ild hx hb hK hH e5 d_Md_read_34 ?_
      refine lv_istore (lv' := [(7, .int v5), (0, .ref b0), (1, .int y1), (2, .int y2), (3, .int y3), (4, .int y4), (5, .int y5), (6, .int y6)]) hx hb d_Md_read_35 hl (by decide) rfl (fun ls hl => ?_)
      refine lv_iload hx hb d_Md_read_37 (lv_at hl 0 rfl) ?_
      refine lv_iconst (v := 1) hx hb d_Md_read_39 (by decide) ?_
      refine lv_icmp_lt (tgt := 50) hx hb d_Md_read_40 (by decide) (fun c6 => ?_) (fun c6 => ?_)
      · replace h := fr_ift c6 h
        refine lv_iload hx hb d_Md_read_50 (lv_at hl 7 rfl) ?_
        refine lv_iload hx hb d_Md_read_52 (lv_at hl 5 rfl) ?_
        refine lv_isub hx hb d_Md_read_54 ?_
        exact fr_iret hx hb hr hlocks  h hH hK hX hS d_Md_read_55
      · replace h := fr_iff c6 h
        refine lv_iload hx hb d_Md_read_43 (lv_at hl 0 rfl) ?_
        refine lv_bipush (v := 20) hx hb d_Md_read_45 (by decide) ?_
        refine lv_icmp_le (tgt := 56) hx hb d_Md_read_47 (by decide) (fun c7 => ?_) (fun c7 => ?_)
        · replace h := fr_ift c7 h
          refine lv_iload hx hb d_Md_read_56 (lv_at hl 7 rfl) ?_
          refine lv_iconst (v := 1) hx hb d_Md_read_58 (by decide) ?_
          refine lv_iadd hx hb d_Md_read_59 ?_
          refine lv_istore (lv' := [(8, .int (y6 + 1)), (7, .int v5), (0, .ref b0), (1, .int y1), (2, .int y2), (3, .int y3), (4, .int y4), (5, .int y5), (6, .int y6)]) hx hb d_Md_read_60 hl (by decide) rfl (fun ls hl => ?_)
          refine lv_iload hx hb d_Md_read_62 (lv_at hl 0 rfl) ?_
          refine lv_iload hx hb d_Md_read_64 (lv_at hl 1 rfl) ?_
          refine lv_iadd hx hb d_Md_read_66 ?_
          refine lv_iload hx hb d_Md_read_67 (lv_at hl 7 rfl) ?_
          refine lv_icmp_lt (tgt := 79) hx hb d_Md_read_69 (by decide) (fun c8 => ?_) (fun c8 => ?_)
          · replace h := fr_ift c8 h
            refine lv_aload_n hx hb d_Md_read_79 rfl (lv_at hl 2 rfl) ?_
            refine lv_iload hx hb d_Md_read_80 (lv_at hl 0 rfl) ?_
            refine lv_iload hx hb d_Md_read_82 (lv_at hl 0 rfl) ?_
            refine lv_iload hx hb d_Md_read_84 (lv_at hl 1 rfl) ?_
            refine lv_iadd hx hb d_Md_read_86 ?_
            obtain ⟨u9, e9, h⟩ := fr_bind h
            obtain ⟨r10, e10, h⟩ := fr_bind h
            refine fr_calli (fr_V (As := [.int (y6 + 1), .int ((y6 + 1) + v5)]) (rest := []) ⟨hx, hb, hml, hown, hts⟩ (c_Md_isRight l D T A σ b0 ((y6 + 1)) (((y6 + 1) + v5)) r10 e10) k_794 mv_Md_isRight rfl rfl ⟨Nat.le_of_ble_eq_true rfl, Nat.le_of_ble_eq_true rfl⟩ (fr_preV hK hX hH e9 rfl _) rfl hl.1 rfl (Nat.le_of_ble_eq_true rfl) d_Md_read_87 ⟨Nat.zero_le _, Nat.zero_le _⟩) hS (fun H locs hH hS => ?_)
            refine lv_if_ne (tgt := 99) hx hb d_Md_read_90 (by decide) (fun c11 => ?_) (fun c11 => ?_)
            · replace h := fr_iff c11 h
              refine lv_aload_n hx hb d_Md_read_99 rfl (lv_at hl 2 rfl) ?_
              obtain ⟨q12, e12, h⟩ := fr_bind h
              refine fr_gP hx hb hts in_Md hown hK hH e12 rfl 28 (by decide) (hts _ k_568) (fun _ h9 => h9) rfl d_Md_read_100 ?_
              refine lv_iload hx hb d_Md_read_103 (lv_at hl 0 rfl) ?_
              refine lv_iload hx hb d_Md_read_105 (lv_at hl 1 rfl) ?_
              refine lv_iadd hx hb d_Md_read_107 ?_
              obtain ⟨v13, e13, h⟩ := fr_bind h
              refine fr_ild hx hb hK hH e13 d_Md_read_108 ?_
              refine lv_istore (lv' := [(9, .int v13), (8, .int (y6 + 1)), (7, .int v5), (0, .ref b0), (1, .int y1), (2, .int y2), (3, .int y3), (4, .int y4), (5, .int y5), (6, .int y6)]) hx hb d_Md_read_109 hl (by decide) rfl (fun ls hl => ?_)
              refine lv_iload hx hb d_Md_read_111 (lv_at hl 1 rfl) ?_
              refine lv_iload hx hb d_Md_read_113 (lv_at hl 2 rfl) ?_
              refine lv_iadd hx hb d_Md_read_115 ?_
              refine lv_iconst (v := 1) hx hb d_Md_read_116 (by decide) ?_
              refine lv_iadd hx hb d_Md_read_117 ?_
              refine lv_istore (lv' := [(10, .int (((y6 + 1) + v5) + 1)), (9, .int v13), (8, .int (y6 + 1)), (7, .int v5), (0, .ref b0), (1, .int y1), (2, .int y2), (3, .int y3), (4, .int y4), (5, .int y5), (6, .int y6)]) hx hb d_Md_read_118 hl (by decide) rfl (fun ls hl => ?_)
              refine lv_iload hx hb d_Md_read_120 (lv_at hl 0 rfl) ?_
              refine lv_iload hx hb d_Md_read_122 (lv_at hl 1 rfl) ?_
              refine lv_iadd hx hb d_Md_read_124 ?_
              refine lv_iload hx hb d_Md_read_125 (lv_at hl 9 rfl) ?_
              refine lv_icmp_le (tgt := 137) hx hb d_Md_read_127 (by decide) (fun c14 => ?_) (fun c14 => ?_)
              · replace h := fr_ift c14 h
                refine lv_aload_n hx hb d_Md_read_137 rfl (lv_at hl 4 rfl) ?_
                refine lv_iload hx hb d_Md_read_138 (lv_at hl 2 rfl) ?_
                refine lv_iload hx hb d_Md_read_140 (lv_at hl 2 rfl) ?_
                refine lv_iload hx hb d_Md_read_142 (lv_at hl 3 rfl) ?_
                refine lv_iadd hx hb d_Md_read_144 ?_
                refine lv_iload_n hx hb d_Md_read_145 rfl (lv_at hl 6 rfl) ?_
                obtain ⟨u15, e15, h⟩ := fr_bind h
                obtain ⟨r16, e16, h⟩ := fr_bind h
                refine fr_calli (fr_V (As := [.int (y6 + 1), .int ((y6 + 1) + v5), .int y2]) (rest := []) ⟨hx, hb, hml, hown, hts⟩ (c_Md_strip l D T A σ b0 ((y6 + 1)) (((y6 + 1) + v5)) y2 r16 e16) k_801 mv_Md_strip rfl rfl ⟨Nat.le_of_ble_eq_true rfl, Nat.le_of_ble_eq_true rfl⟩ (fr_preV hK hX hH e15 rfl _) rfl hl.1 rfl (Nat.le_of_ble_eq_true rfl) d_Md_read_146 ⟨Nat.zero_le _, Nat.zero_le _⟩) hS (fun H locs hH hS => ?_)
                refine lv_istore (lv' := [(11, .int r16), (10, .int (((y6 + 1) + v5) + 1)), (9, .int v13), (8, .int (y6 + 1)), (7, .int v5), (0, .ref b0), (1, .int y1), (2, .int y2), (3, .int y3), (4, .int y4), (5, .int y5), (6, .int y6)]) hx hb d_Md_read_149 hl (by decide) rfl (fun ls hl => ?_)
                refine lv_iload_n hx hb d_Md_read_151 rfl (lv_at hl 8 rfl) ?_
                refine lv_if_eq (tgt := 182) hx hb d_Md_read_152 (by decide) (fun c17 => ?_) (fun c17 => ?_)
                · replace h := fr_ift c17 h
                  refine lv_iload hx hb d_Md_read_182 (lv_at hl 1 rfl) ?_
                  refine lv_iload hx hb d_Md_read_184 (lv_at hl 2 rfl) ?_
                  refine lv_iadd hx hb d_Md_read_186 ?_
                  refine lv_istore (lv' := [(6, .int ((((y6 + 1) + v5) + 1) + v13)), (11, .int r16), (10, .int (((y6 + 1) + v5) + 1)), (9, .int v13), (8, .int (y6 + 1)), (7, .int v5), (0, .ref b0), (1, .int y1), (2, .int y2), (3, .int y3), (4, .int y4), (5, .int y5)]) hx hb d_Md_read_187 hl (by decide) rfl (fun ls hl => ?_)
                  refine lv_goto (tgt := 21) hx hb d_Md_read_189 (by decide) ?_
                  exact ih b0 y1 y2 y3 y4 y5 ((((y6 + 1) + v5) + 1) + v13) σ r σ1 h _ _ hH hS ls (lv_sub hl [6, 7, 8, 9, 10, 11, 0] rfl)
                · replace h := fr_iff c17 h
                  refine lv_iload hx hb d_Md_read_155 (lv_at hl 0 rfl) ?_
                  refine lv_iload hx hb d_Md_read_157 (lv_at hl 3 rfl) ?_
                  refine lv_iload hx hb d_Md_read_159 (lv_at hl 4 rfl) ?_
                  refine lv_iadd hx hb d_Md_read_161 ?_
                  refine lv_icmp_ge (tgt := 182) hx hb d_Md_read_162 (by decide) (fun c18 => ?_) (fun c18 => ?_)
                  · replace h := fr_ift c18 h
                    refine lv_iload hx hb d_Md_read_182 (lv_at hl 1 rfl) ?_
                    refine lv_iload hx hb d_Md_read_184 (lv_at hl 2 rfl) ?_
                    refine lv_iadd hx hb d_Md_read_186 ?_
                    refine lv_istore (lv' := [(6, .int ((((y6 + 1) + v5) + 1) + v13)), (11, .int r16), (10, .int (((y6 + 1) + v5) + 1)), (9, .int v13), (8, .int (y6 + 1)), (7, .int v5), (0, .ref b0), (1, .int y1), (2, .int y2), (3, .int y3), (4, .int y4), (5, .int y5)]) hx hb d_Md_read_187 hl (by decide) rfl (fun ls hl => ?_)
                    refine lv_goto (tgt := 21) hx hb d_Md_read_189 (by decide) ?_
                    exact ih b0 y1 y2 y3 y4 y5 ((((y6 + 1) + v5) + 1) + v13) σ r σ1 h _ _ hH hS ls (lv_sub hl [6, 7, 8, 9, 10, 11, 0] rfl)
                  · replace h := fr_iff c18 h
                    refine lv_aload_n hx hb d_Md_read_165 rfl (lv_at hl 5 rfl) ?_
                    refine lv_iload hx hb d_Md_read_166 (lv_at hl 9 rfl) ?_
                    refine lv_iload hx hb d_Md_read_168 (lv_at hl 0 rfl) ?_
                    refine lv_iload hx hb d_Md_read_170 (lv_at hl 3 rfl) ?_
                    refine lv_iload hx hb d_Md_read_172 (lv_at hl 4 rfl) ?_
                    refine lv_iadd hx hb d_Md_read_174 ?_
                    refine lv_iload hx hb d_Md_read_175 (lv_at hl 1 rfl) ?_
                    refine lv_iload hx hb d_Md_read_177 (lv_at hl 2 rfl) ?_
                    obtain ⟨u19, e19, h⟩ := fr_bind h
                    obtain ⟨σ_20, e20, h⟩ := fr_bind h
                    refine fr_callv (fr_V (As := [.int y4, .int r16, .int ((y6 + 1) + v5), .int (((y6 + 1) + v5) + 1), .int v13]) (rest := []) ⟨hx, hb, hml, hown, hts⟩ (c_Md_putFile l D T A σ b0 y4 r16 (((y6 + 1) + v5)) ((((y6 + 1) + v5) + 1)) v13 σ_20 e20) k_805 mv_Md_putFile rfl rfl ⟨Nat.le_of_ble_eq_true rfl, Nat.le_of_ble_eq_true rfl⟩ (fr_preV hK hX hH e19 rfl _) rfl hl.1 rfl (Nat.le_of_ble_eq_true rfl) d_Md_read_179 ⟨Nat.zero_le _, Nat.zero_le _⟩) hS (fun H locs hH hS => ?_)
                    refine lv_iload hx hb d_Md_read_182 (lv_at hl 1 rfl) ?_
                    refine lv_iload hx hb d_Md_read_184 (lv_at hl 2 rfl) ?_
                    refine lv_iadd hx hb d_Md_read_186 ?_
                    refine lv_istore (lv' := [(6, .int ((((y6 + 1) + v5) + 1) + v13)), (11, .int r16), (10, .int (((y6 + 1) + v5) + 1)), (9, .int v13), (8, .int (y6 + 1)), (7, .int v5), (0, .ref b0), (1, .int y1), (2, .int y2), (3, .int y3), (4, .int y4), (5, .int y5)]) hx hb d_Md_read_187 hl (by decide) rfl (fun ls hl => ?_)
                    refine lv_goto (tgt := 21) hx hb d_Md_read_189 (by decide) ?_
                    exact ih b0 y1 y2 y3 y4 y5 ((((y6 + 1) + v5) + 1) + v13) σ_20 r σ1 h _ _ hH hS ls (lv_sub hl [6, 7, 8, 9, 10, 11, 0] rfl)
              · replace h := fr_iff c14 h
                refine lv_aload_n hx hb d_Md_read_130 rfl (lv_at hl 4 rfl) ?_
                obtain ⟨q21, e21, h⟩ := fr_bind h
                refine fr_gP hx hb hts in_Md hown hK hH e21 rfl 27 (by decide) (hts _ k_567) (fun _ h9 => h9) rfl d_Md_read_131 ?_
                refine lv_iload_n hx hb d_Md_read_134 rfl (lv_at hl 5 rfl) ?_
                obtain ⟨v22, e22, h⟩ := fr_bind h
                refine fr_ild hx hb hK hH e22 d_Md_read_135 ?_
                exact fr_iret hx hb hr hlocks  h hH hK hX hS d_Md_read_136
            · replace h := fr_ift c11 h
              refine lv_iload hx hb d_Md_read_93 (lv_at hl 0 rfl) ?_
              refine lv_iload hx hb d_Md_read_95 (lv_at hl 6 rfl) ?_
              refine lv_isub hx hb d_Md_read_97 ?_
              exact fr_iret hx hb hr hlocks  h hH hK hX hS d_Md_read_98
          · replace h := fr_iff c8 h
            refine lv_aload_n hx hb d_Md_read_72 rfl (lv_at hl 2 rfl) ?_
            obtain ⟨q23, e23, h⟩ := fr_bind h
            refine fr_gP hx hb hts in_Md hown hK hH e23 rfl 27 (by decide) (hts _ k_567) (fun _ h9 => h9) rfl d_Md_read_73 ?_
            refine lv_iload_n hx hb d_Md_read_76 rfl (lv_at hl 3 rfl) ?_
            obtain ⟨v24, e24, h⟩ := fr_bind h
            refine fr_ild hx hb hK hH e24 d_Md_read_77 ?_
            exact fr_iret hx hb hr hlocks  h hH hK hX hS d_Md_read_78
        · replace h := fr_iff c7 h
          refine lv_iload hx hb d_Md_read_50 (lv_at hl 7 rfl) ?_
          refine lv_iload hx hb d_Md_read_52 (lv_at hl 5 rfl) ?_
          refine lv_isub hx hb d_Md_read_54 ?_
          exact fr_iret hx hb hr hlocks  h hH hK hX hS d_Md_read_55
set_option maxHeartbeats 4000000 in
set_option maxRecDepth 100000 in
theorem c_Md_read (l : Launch) (D : va_G) (T : Nat → ClassId) (A : Nat → Prop) (σ : fr_S) (h0 : Nat) (x1 : Int32) (x2 : Int32) (x3 : Int32) (r : Int32) (σ1 : fr_S) (h : m_Md_read h0 x1 x2 x3 σ = some (r, σ1)) : Met l y_Md_read (Cond.code y_Md_read b_Md_read 12 (some .int) :: fr_W) ({ frames := 2, cells := 0, slots := 0, locals := 52 } : Room) (va_Pc [.ref h0, .int x1, .int x2, .int x3] (fr_B D T A σ)) (fr_Qi D T A r σ1) 0 0 A := by
  refine Met.ofW (cc := b_Md_read) (maxL := 12) (ret := (some .int)) (by decide) rfl ?_
  intro p e s m args below meth c s₁ B hml hv
  obtain ⟨rfl, hH, hK, hX⟩ := hv
  have C0 : fr_At p s m _ meth c "FetchRulesModel" b_Md_read 12 (some .int) := fr_at B hml
  obtain ⟨hx, hb, hr, hml, hown, hts, hlocks⟩ := id C0
  have hS : va_S A s.heap s.heap [] := va_S.rf
  have hl := lv_entry ([.ref h0, .int x1, .int x2, .int x3]) (n := 12) (Nat.le_of_ble_eq_true rfl)
  rw [lg_entry_eq]
  generalize (lg_sl ([.ref h0, .int x1, .int x2, .int x3]) ++ List.replicate (12 - (lg_sl ([.ref h0, .int x1, .int x2, .int x3])).length) Slot.unset).toArray = ls at hl ⊢
  have hl : lv_has ls 12 [(0, .ref h0), (1, .int x1), (2, .int x2), (3, .int x3)] := hl
  unfold m_Md_read at h
  refine lv_bipush (v := 100) hx hb d_Md_read_0 (by decide) ?_
  refine lv_iload_n hx hb d_Md_read_2 rfl (lv_at hl 1 rfl) ?_
  refine lv_imul hx hb d_Md_read_3 ?_
  refine lv_istore (lv' := [(4, .int (100 * x1)), (0, .ref h0), (1, .int x1), (2, .int x2), (3, .int x3)]) hx hb d_Md_read_4 hl (by decide) rfl (fun ls hl => ?_)
  refine lv_iload hx hb d_Md_read_6 (lv_at hl 0 rfl) ?_
  refine lv_aload_n hx hb d_Md_read_8 rfl (lv_at hl 1 rfl) ?_
  obtain ⟨q1, e1, h⟩ := fr_bind h
  refine fr_gP hx hb hts in_Md hown hK hH e1 rfl 27 (by decide) (hts _ k_567) (fun _ h9 => h9) rfl d_Md_read_9 ?_
  refine lv_iload_n hx hb d_Md_read_12 rfl (lv_at hl 2 rfl) ?_
  obtain ⟨v2, e2, h⟩ := fr_bind h
  refine fr_ild hx hb hK hH e2 d_Md_read_13 ?_
  refine lv_iadd hx hb d_Md_read_14 ?_
  refine lv_istore (lv' := [(5, .int ((100 * x1) + v2)), (4, .int (100 * x1)), (0, .ref h0), (1, .int x1), (2, .int x2), (3, .int x3)]) hx hb d_Md_read_15 hl (by decide) rfl (fun ls hl => ?_)
  refine lv_iload hx hb d_Md_read_17 (lv_at hl 1 rfl) ?_
  refine lv_istore (lv' := [(6, .int (100 * x1)), (5, .int ((100 * x1) + v2)), (4, .int (100 * x1)), (0, .ref h0), (1, .int x1), (2, .int x2), (3, .int x3)]) hx hb d_Md_read_19 hl (by decide) rfl (fun ls hl => ?_)
  exact w_Md_read_L21 C0 hK hX 1000 h0 x1 x2 x3 (100 * x1) ((100 * x1) + v2) (100 * x1) σ r σ1 h _ _ hH hS ls (lv_sub hl [3, 4, 5, 6, 2, 1, 0] rfl)
