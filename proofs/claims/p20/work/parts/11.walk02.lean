set_option maxHeartbeats 4000000 in
set_option maxRecDepth 100000 in
theorem c_FR_countSent (l : Launch) (D : va_G) (T : Nat → ClassId) (A : Nat → Prop) (σ : fr_S) (h0 : Nat) (x1 : Int32) (x2 : Int32) (σ1 : fr_S) (h : m_FR_countSent h0 x1 x2 σ = some σ1) : Met l y_FR_countSent (Cond.code y_FR_countSent b_FR_countSent 3 none :: fr_W) ({ frames := 0, cells := 0, slots := 0, locals := 0 } : Room) (va_Pc [.ref h0, .int x1, .int x2] (fr_B D T A σ)) (fr_Qv D T A σ1) 0 0 A := by
  refine Met.ofW (cc := b_FR_countSent) (maxL := 3) (ret := none) (by decide) rfl ?_
  intro p e s m args below meth c s₁ B hml hv
  obtain ⟨rfl, hH, hK, hX⟩ := hv
  have C0 : fr_At p s m _ meth c "FetchRules" b_FR_countSent 3 none := fr_at B hml
  obtain ⟨hx, hb, hr, hml, hown, hts, hlocks⟩ := id C0
  have hS : va_S A s.heap s.heap [] := va_S.rf
  have hl := lv_entry ([.ref h0, .int x1, .int x2]) (n := 3) (Nat.le_of_ble_eq_true rfl)
  rw [lg_entry_eq]
  generalize (lg_sl ([.ref h0, .int x1, .int x2]) ++ List.replicate (3 - (lg_sl ([.ref h0, .int x1, .int x2])).length) Slot.unset).toArray = ls at hl ⊢
  have hl : lv_has ls 3 [(0, .ref h0), (1, .int x1), (2, .int x2)] := hl
  unfold m_FR_countSent at h
  refine lv_iload_n hx hb d_FR_countSent_0 rfl (lv_at hl 2 rfl) ?_
  refine lv_if_eq (tgt := 22) hx hb d_FR_countSent_1 (by decide) (fun c1 => ?_) (fun c1 => ?_)
  · replace h := fr_ift c1 h
    exact fr_vret hx hb hr hlocks h hH hK hX hS d_FR_countSent_22
  · replace h := fr_iff c1 h
    refine lv_aload_n hx hb d_FR_countSent_4 rfl (lv_at hl 0 rfl) ?_
    obtain ⟨q2, e2, h⟩ := fr_bind h
    refine fr_gP hx hb hts in_FR hown hK hH e2 rfl 2 (by decide) (hts _ k_241) (fun _ h9 => h9) rfl d_FR_countSent_5 ?_
    refine lv_aload_n hx hb d_FR_countSent_8 rfl (lv_at hl 0 rfl) ?_
    obtain ⟨q3, e3, h⟩ := fr_bind h
    refine fr_gP hx hb hts in_FR hown hK hH e3 rfl 3 (by decide) (hts _ k_242) (fun _ h9 => h9) rfl d_FR_countSent_9 ?_
    refine lv_iload_n hx hb d_FR_countSent_12 rfl (lv_at hl 1 rfl) ?_
    obtain ⟨q4, e4, h⟩ := fr_bind h
    refine fr_qld hx hb hK hH e4 (by decide) rfl d_FR_countSent_13 ?_
    obtain ⟨v5, e5, h⟩ := fr_bind h
    refine fr_gI hx hb hts in_Place hown hK hH e5 rfl 1 (by decide) (hts _ k_157) (fun _ h9 => h9) rfl d_FR_countSent_14 ?_
    refine lv_dup2_11 hx hb d_FR_countSent_17 rfl rfl ?_
    obtain ⟨v6, e6, h⟩ := fr_bind h
    refine fr_ild hx hb hK hH e6 d_FR_countSent_18 ?_
    refine lv_iconst (v := 1) hx hb d_FR_countSent_19 (by decide) ?_
    refine lv_iadd hx hb d_FR_countSent_20 ?_
    obtain ⟨σ_7, e7, h⟩ := fr_bind h
    refine fr_ist hx hb hK hH hS e7 d_FR_countSent_21 (fun H locs hH hS => ?_)
    exact fr_vret hx hb hr hlocks h hH hK hX hS d_FR_countSent_22
set_option maxHeartbeats 4000000 in
set_option maxRecDepth 100000 in
theorem c_Place_leadsOn (l : Launch) (D : va_G) (T : Nat → ClassId) (A : Nat → Prop) (σ : fr_S) (h0 : Nat) (r : Int32) (h : m_Place_leadsOn h0 σ = some r) : Met l y_Place_leadsOn (Cond.code y_Place_leadsOn b_Place_leadsOn 1 (some .boolean) :: fr_W) ({ frames := 0, cells := 0, slots := 0, locals := 0 } : Room) (va_Pc [.ref h0] (fr_B D T A σ)) (fr_Qi D T A r σ) 0 0 A := by
  refine Met.ofW (cc := b_Place_leadsOn) (maxL := 1) (ret := (some .boolean)) (by decide) rfl ?_
  intro p e s m args below meth c s₁ B hml hv
  obtain ⟨rfl, hH, hK, hX⟩ := hv
  have C0 : fr_At p s m _ meth c "FetchRules$Place" b_Place_leadsOn 1 (some .boolean) := fr_at B hml
  obtain ⟨hx, hb, hr, hml, hown, hts, hlocks⟩ := id C0
  have hS : va_S A s.heap s.heap [] := va_S.rf
  have hl := lv_entry ([.ref h0]) (n := 1) (Nat.le_of_ble_eq_true rfl)
  rw [lg_entry_eq]
  generalize (lg_sl ([.ref h0]) ++ List.replicate (1 - (lg_sl ([.ref h0])).length) Slot.unset).toArray = ls at hl ⊢
  have hl : lv_has ls 1 [(0, .ref h0)] := hl
  unfold m_Place_leadsOn at h
  refine lv_aload_n hx hb d_Place_leadsOn_0 rfl (lv_at hl 0 rfl) ?_
  obtain ⟨v1, e1, h⟩ := fr_bind h
  refine fr_gI hx hb hts in_Place hown hK hH e1 rfl 6 (by decide) (hts _ k_166) (fun _ h9 => h9) rfl d_Place_leadsOn_1 ?_
  refine lv_if_ne (tgt := 19) hx hb d_Place_leadsOn_4 (by decide) (fun c2 => ?_) (fun c2 => ?_)
  · replace h := fr_iff c2 h
    refine lv_iconst (v := 0) hx hb d_Place_leadsOn_19 (by decide) ?_
    exact fr_zretO hx hb hr hlocks (Or.inl rfl) h hH hK hX hS d_Place_leadsOn_20
  · replace h := fr_ift c2 h
    refine lv_aload_n hx hb d_Place_leadsOn_7 rfl (lv_at hl 0 rfl) ?_
    obtain ⟨v3, e3, h⟩ := fr_bind h
    refine fr_gI hx hb hts in_Place hown hK hH e3 rfl 3 (by decide) (hts _ k_160) (fun _ h9 => h9) rfl d_Place_leadsOn_8 ?_
    refine lv_iconst (v := (-1)) hx hb d_Place_leadsOn_11 (by decide) ?_
    refine lv_icmp_eq (tgt := 19) hx hb d_Place_leadsOn_12 (by decide) (fun c4 => ?_) (fun c4 => ?_)
    · replace h := fr_ift c4 h
      refine lv_iconst (v := 0) hx hb d_Place_leadsOn_19 (by decide) ?_
      exact fr_zretO hx hb hr hlocks (Or.inl rfl) h hH hK hX hS d_Place_leadsOn_20
    · replace h := fr_iff c4 h
      refine lv_iconst (v := 1) hx hb d_Place_leadsOn_15 (by decide) ?_
      refine lv_goto (tgt := 20) hx hb d_Place_leadsOn_16 (by decide) ?_
      exact fr_zretO hx hb hr hlocks (Or.inr rfl) h hH hK hX hS d_Place_leadsOn_20
set_option maxHeartbeats 4000000 in
set_option maxRecDepth 100000 in
theorem c_Place_gives (l : Launch) (D : va_G) (T : Nat → ClassId) (A : Nat → Prop) (σ : fr_S) (h0 : Nat) (x1 : Int32) (r : Int32) (h : m_Place_gives h0 x1 σ = some r) : Met l y_Place_gives (Cond.code y_Place_gives b_Place_gives 2 (some .boolean) :: fr_W) ({ frames := 0, cells := 0, slots := 0, locals := 0 } : Room) (va_Pc [.ref h0, .int x1] (fr_B D T A σ)) (fr_Qi D T A r σ) 0 0 A := by
  refine Met.ofW (cc := b_Place_gives) (maxL := 2) (ret := (some .boolean)) (by decide) rfl ?_
  intro p e s m args below meth c s₁ B hml hv
  obtain ⟨rfl, hH, hK, hX⟩ := hv
  have C0 : fr_At p s m _ meth c "FetchRules$Place" b_Place_gives 2 (some .boolean) := fr_at B hml
  obtain ⟨hx, hb, hr, hml, hown, hts, hlocks⟩ := id C0
  have hS : va_S A s.heap s.heap [] := va_S.rf
  have hl := lv_entry ([.ref h0, .int x1]) (n := 2) (Nat.le_of_ble_eq_true rfl)
  rw [lg_entry_eq]
  generalize (lg_sl ([.ref h0, .int x1]) ++ List.replicate (2 - (lg_sl ([.ref h0, .int x1])).length) Slot.unset).toArray = ls at hl ⊢
  have hl : lv_has ls 2 [(0, .ref h0), (1, .int x1)] := hl
  unfold m_Place_gives at h
  refine lv_aload_n hx hb d_Place_gives_0 rfl (lv_at hl 0 rfl) ?_
  obtain ⟨v1, e1, h⟩ := fr_bind h
  refine fr_gI hx hb hts in_Place hown hK hH e1 rfl 6 (by decide) (hts _ k_166) (fun _ h9 => h9) rfl d_Place_gives_1 ?_
  refine lv_if_ne (tgt := 30) hx hb d_Place_gives_4 (by decide) (fun c2 => ?_) (fun c2 => ?_)
  · replace h := fr_iff c2 h
    refine lv_iconst (v := 0) hx hb d_Place_gives_30 (by decide) ?_
    exact fr_zretO hx hb hr hlocks (Or.inl rfl) h hH hK hX hS d_Place_gives_31
  · replace h := fr_ift c2 h
    refine lv_aload_n hx hb d_Place_gives_7 rfl (lv_at hl 0 rfl) ?_
    obtain ⟨v3, e3, h⟩ := fr_bind h
    refine fr_gI hx hb hts in_Place hown hK hH e3 rfl 3 (by decide) (hts _ k_160) (fun _ h9 => h9) rfl d_Place_gives_8 ?_
    refine lv_iconst (v := (-1)) hx hb d_Place_gives_11 (by decide) ?_
    refine lv_icmp_ne (tgt := 30) hx hb d_Place_gives_12 (by decide) (fun c4 => ?_) (fun c4 => ?_)
    · replace h := fr_iff c4 h
      refine lv_iconst (v := 0) hx hb d_Place_gives_30 (by decide) ?_
      exact fr_zretO hx hb hr hlocks (Or.inl rfl) h hH hK hX hS d_Place_gives_31
    · replace h := fr_ift c4 h
      refine lv_iload_n hx hb d_Place_gives_15 rfl (lv_at hl 1 rfl) ?_
      refine lv_if_ne (tgt := 26) hx hb d_Place_gives_16 (by decide) (fun c5 => ?_) (fun c5 => ?_)
      · replace h := fr_iff c5 h
        refine lv_iconst (v := 1) hx hb d_Place_gives_26 (by decide) ?_
        refine lv_goto (tgt := 31) hx hb d_Place_gives_27 (by decide) ?_
        exact fr_zretO hx hb hr hlocks (Or.inr rfl) h hH hK hX hS d_Place_gives_31
      · replace h := fr_ift c5 h
        refine lv_aload_n hx hb d_Place_gives_19 rfl (lv_at hl 0 rfl) ?_
        obtain ⟨v6, e6, h⟩ := fr_bind h
        refine fr_gI hx hb hts in_Place hown hK hH e6 rfl 7 (by decide) (hts _ k_168) (fun _ h9 => h9) rfl d_Place_gives_20 ?_
        refine lv_if_ne (tgt := 30) hx hb d_Place_gives_23 (by decide) (fun c7 => ?_) (fun c7 => ?_)
        · replace h := fr_iff c7 h
          refine lv_iconst (v := 0) hx hb d_Place_gives_30 (by decide) ?_
          exact fr_zretO hx hb hr hlocks (Or.inl rfl) h hH hK hX hS d_Place_gives_31
        · replace h := fr_ift c7 h
          refine lv_iconst (v := 1) hx hb d_Place_gives_26 (by decide) ?_
          refine lv_goto (tgt := 31) hx hb d_Place_gives_27 (by decide) ?_
          exact fr_zretO hx hb hr hlocks (Or.inr rfl) h hH hK hX hS d_Place_gives_31
set_option maxHeartbeats 4000000 in
set_option maxRecDepth 100000 in
theorem w_FR_ask_L36 {p : Program} {l : Launch} {e : Env} {s : State} {m : MethodId} {args : Array Value} {below : List Frame} {meth : Method} {c : Code} {D : va_G} {T : Nat → ClassId} {A : Nat → Prop} (C0 : fr_At p s m args meth c "FetchRules" b_FR_ask 6 (some .int)) (hK : va_K D vwCl (fr_tys T) s) (hX : fr_X s) :
    ∀ (n : Nat) (b0 : Nat) (y2 : Int32) (y3 : Int32) (y4 : Int32) (σ : fr_S) (r : Int32) (σ1 : fr_S), m_FR_ask_L36 n b0 y2 y3 y4 σ = some (r, σ1) → ∀ (H : Heap) (locs : List Loc), fr_H D T A σ H → va_S A s.heap H locs → ∀ (ls : Array Slot), lv_has ls 6 [(0, .ref b0), (2, .int y2), (3, .int y3), (4, .int y4)] → W p l e (headSpec (Cond.code y_FR_ask b_FR_ask 6 (some .int) :: fr_W) ({ frames := 1, cells := 0, slots := 0, locals := 22 } : Room)).room s m args below meth c H locs 0 0 (MQ below (fr_Qi D T A r σ1) args s 0 0 A) (F0 m 36 ls []) := by
  obtain ⟨hx, hb, hr, hml, hown, hts, hlocks⟩ := id C0
  intro n
  induction n with
  | zero => intro b0 y2 y3 y4 σ r σ1 h; cases h
  | succ n ih =>
    intro b0 y2 y3 y4 σ r σ1 h H locs hH hS ls hl
    unfold m_FR_ask_L36 at h
    refine lv_iload hx hb d_FR_ask_36 (lv_at hl 3 rfl) ?_
    refine lv_iconst (v := 3) hx hb d_FR_ask_38 (by decide) ?_
    refine lv_icmp_ge (tgt := 112) hx hb d_FR_ask_39 (by decide) (fun c11 => ?_) (fun c11 => ?_)
    · replace h := fr_ift c11 h
      refine lv_aload_n hx hb d_FR_ask_112 rfl (lv_at hl 0 rfl) ?_
      obtain ⟨q12, e12, h⟩ := fr_bind h
      refine fr_gP hx hb hts in_FR hown hK hH e12 rfl 3 (by decide) (hts _ k_242) (fun _ h9 => h9) rfl d_FR_ask_113 ?_
      refine lv_iload_n hx hb d_FR_ask_116 rfl (lv_at hl 1 rfl) ?_
      obtain ⟨q13, e13, h⟩ := fr_bind h
      refine fr_qld hx hb hK hH e13 (by decide) rfl d_FR_ask_117 ?_
      refine lv_iload_n hx hb d_FR_ask_118 rfl (lv_at hl 2 rfl) ?_
      obtain ⟨u14, e14, h⟩ := fr_bind h
      obtain ⟨r15, e15, h⟩ := fr_bind h
      refine fr_calli (fr_V (As := [.int y3]) (rest := []) ⟨hx, hb, hml, hown, hts⟩ (c_Place_gives l D T A σ q13 y3 r15 e15) k_401 mv_Place_gives rfl rfl ⟨Nat.le_of_ble_eq_true rfl, Nat.le_of_ble_eq_true rfl⟩ (fr_preV hK hX hH e14 rfl _) rfl hl.1 rfl (Nat.le_of_ble_eq_true rfl) d_FR_ask_119 ⟨Nat.zero_le _, Nat.zero_le _⟩) hS (fun H locs hH hS => ?_)
      refine lv_if_eq (tgt := 129) hx hb d_FR_ask_122 (by decide) (fun c16 => ?_) (fun c16 => ?_)
      · replace h := fr_ift c16 h
        refine lv_iconst (v := (-1)) hx hb d_FR_ask_129 (by decide) ?_
        exact fr_iret hx hb hr hlocks  h hH hK hX hS d_FR_ask_130
      · replace h := fr_iff c16 h
        refine lv_iload_n hx hb d_FR_ask_125 rfl (lv_at hl 1 rfl) ?_
        refine lv_goto (tgt := 130) hx hb d_FR_ask_126 (by decide) ?_
        exact fr_iret hx hb hr hlocks  h hH hK hX hS d_FR_ask_130
    · replace h := fr_iff c11 h
      refine lv_aload_n hx hb d_FR_ask_42 rfl (lv_at hl 0 rfl) ?_
      obtain ⟨q17, e17, h⟩ := fr_bind h
      refine fr_gP hx hb hts in_FR hown hK hH e17 rfl 3 (by decide) (hts _ k_242) (fun _ h9 => h9) rfl d_FR_ask_43 ?_
      refine lv_iload_n hx hb d_FR_ask_46 rfl (lv_at hl 1 rfl) ?_
      obtain ⟨q18, e18, h⟩ := fr_bind h
      refine fr_qld hx hb hK hH e18 (by decide) rfl d_FR_ask_47 ?_
      obtain ⟨u19, e19, h⟩ := fr_bind h
      obtain ⟨r20, e20, h⟩ := fr_bind h
      refine fr_calli (fr_V (As := []) (rest := []) ⟨hx, hb, hml, hown, hts⟩ (c_Place_leadsOn l D T A σ q18 r20 e20) k_397 mv_Place_leadsOn rfl rfl ⟨Nat.le_of_ble_eq_true rfl, Nat.le_of_ble_eq_true rfl⟩ (fr_preV hK hX hH e19 rfl _) rfl hl.1 rfl (Nat.le_of_ble_eq_true rfl) d_FR_ask_48 ⟨Nat.zero_le _, Nat.zero_le _⟩) hS (fun H locs hH hS => ?_)
      refine lv_if_eq (tgt := 112) hx hb d_FR_ask_51 (by decide) (fun c21 => ?_) (fun c21 => ?_)
      · replace h := fr_ift c21 h
        refine lv_aload_n hx hb d_FR_ask_112 rfl (lv_at hl 0 rfl) ?_
        obtain ⟨q22, e22, h⟩ := fr_bind h
        refine fr_gP hx hb hts in_FR hown hK hH e22 rfl 3 (by decide) (hts _ k_242) (fun _ h9 => h9) rfl d_FR_ask_113 ?_
        refine lv_iload_n hx hb d_FR_ask_116 rfl (lv_at hl 1 rfl) ?_
        obtain ⟨q23, e23, h⟩ := fr_bind h
        refine fr_qld hx hb hK hH e23 (by decide) rfl d_FR_ask_117 ?_
        refine lv_iload_n hx hb d_FR_ask_118 rfl (lv_at hl 2 rfl) ?_
        obtain ⟨u24, e24, h⟩ := fr_bind h
        obtain ⟨r25, e25, h⟩ := fr_bind h
        refine fr_calli (fr_V (As := [.int y3]) (rest := []) ⟨hx, hb, hml, hown, hts⟩ (c_Place_gives l D T A σ q23 y3 r25 e25) k_401 mv_Place_gives rfl rfl ⟨Nat.le_of_ble_eq_true rfl, Nat.le_of_ble_eq_true rfl⟩ (fr_preV hK hX hH e24 rfl _) rfl hl.1 rfl (Nat.le_of_ble_eq_true rfl) d_FR_ask_119 ⟨Nat.zero_le _, Nat.zero_le _⟩) hS (fun H locs hH hS => ?_)
        refine lv_if_eq (tgt := 129) hx hb d_FR_ask_122 (by decide) (fun c26 => ?_) (fun c26 => ?_)
        · replace h := fr_ift c26 h
          refine lv_iconst (v := (-1)) hx hb d_FR_ask_129 (by decide) ?_
          exact fr_iret hx hb hr hlocks  h hH hK hX hS d_FR_ask_130
        · replace h := fr_iff c26 h
          refine lv_iload_n hx hb d_FR_ask_125 rfl (lv_at hl 1 rfl) ?_
          refine lv_goto (tgt := 130) hx hb d_FR_ask_126 (by decide) ?_
          exact fr_iret hx hb hr hlocks  h hH hK hX hS d_FR_ask_130
      · replace h := fr_iff c21 h
        refine lv_aload_n hx hb d_FR_ask_54 rfl (lv_at hl 0 rfl) ?_
        obtain ⟨q27, e27, h⟩ := fr_bind h
        refine fr_gP hx hb hts in_FR hown hK hH e27 rfl 3 (by decide) (hts _ k_242) (fun _ h9 => h9) rfl d_FR_ask_55 ?_
        refine lv_iload_n hx hb d_FR_ask_58 rfl (lv_at hl 1 rfl) ?_
        obtain ⟨q28, e28, h⟩ := fr_bind h
        refine fr_qld hx hb hK hH e28 (by decide) rfl d_FR_ask_59 ?_
        obtain ⟨v29, e29, h⟩ := fr_bind h
        refine fr_gI hx hb hts in_Place hown hK hH e29 rfl 3 (by decide) (hts _ k_161) (fun _ h9 => h9) rfl d_FR_ask_60 ?_
        refine lv_istore (lv' := [(5, .int v29), (0, .ref b0), (2, .int y2), (3, .int y3), (4, .int y4)]) hx hb d_FR_ask_63 hl (by decide) rfl (fun ls hl => ?_)
        refine lv_iload_n hx hb d_FR_ask_65 rfl (lv_at hl 3 rfl) ?_
        refine lv_if_eq (tgt := 95) hx hb d_FR_ask_66 (by decide) (fun c30 => ?_) (fun c30 => ?_)
        · replace h := fr_ift c30 h
          refine lv_iconst (v := 0) hx hb d_FR_ask_95 (by decide) ?_
          refine lv_istore_n (lv' := [(3, .int 0), (5, .int v29), (0, .ref b0), (2, .int y2), (4, .int y4)]) hx hb d_FR_ask_96 rfl hl (by decide) rfl (fun ls hl => ?_)
          refine lv_iload hx hb d_FR_ask_97 (lv_at hl 1 rfl) ?_
          refine lv_istore_n (lv' := [(2, .int v29), (3, .int 0), (5, .int v29), (0, .ref b0), (4, .int y4)]) hx hb d_FR_ask_99 rfl hl (by decide) rfl (fun ls hl => ?_)
          refine lv_aload_n hx hb d_FR_ask_100 rfl (lv_at hl 3 rfl) ?_
          refine lv_iload_n hx hb d_FR_ask_101 rfl (lv_at hl 0 rfl) ?_
          refine lv_iload_n hx hb d_FR_ask_102 rfl (lv_at hl 1 rfl) ?_
          obtain ⟨u31, e31, h⟩ := fr_bind h
          obtain ⟨σ_32, e32, h⟩ := fr_bind h
          refine fr_callv (fr_V (As := [.int v29, .int 0]) (rest := []) ⟨hx, hb, hml, hown, hts⟩ (c_FR_countSent l D T A σ b0 v29 0 σ_32 e32) k_393 mv_FR_countSent rfl rfl ⟨Nat.le_of_ble_eq_true rfl, Nat.le_of_ble_eq_true rfl⟩ (fr_preV hK hX hH e31 rfl _) rfl hl.1 rfl (Nat.le_of_ble_eq_true rfl) d_FR_ask_103 ⟨Nat.zero_le _, Nat.zero_le _⟩) hS (fun H locs hH hS => ?_)
          refine lv_iinc (v := (y4 + 1)) (lv' := [(4, .int (y4 + 1)), (2, .int v29), (3, .int 0), (5, .int v29), (0, .ref b0)]) hx hb d_FR_ask_106 hl (k := 4) rfl rfl (by decide) rfl (fun ls hl => ?_)
          refine lv_goto (tgt := 36) hx hb d_FR_ask_109 (by decide) ?_
          exact ih b0 v29 0 (y4 + 1) σ_32 r σ1 h _ _ hH hS ls (lv_sub hl [4, 1, 2, 0] rfl)
        · replace h := fr_iff c30 h
          refine lv_aload_n hx hb d_FR_ask_69 rfl (lv_at hl 1 rfl) ?_
          obtain ⟨q33, e33, h⟩ := fr_bind h
          refine fr_gP hx hb hts in_FR hown hK hH e33 rfl 3 (by decide) (hts _ k_242) (fun _ h9 => h9) rfl d_FR_ask_70 ?_
          refine lv_iload hx hb d_FR_ask_73 (lv_at hl 0 rfl) ?_
          obtain ⟨q34, e34, h⟩ := fr_bind h
          refine fr_qld hx hb hK hH e34 (by decide) rfl d_FR_ask_75 ?_
          obtain ⟨v35, e35, h⟩ := fr_bind h
          refine fr_gI hx hb hts in_Place hown hK hH e35 rfl 1 (by decide) (hts _ k_157) (fun _ h9 => h9) rfl d_FR_ask_76 ?_
          refine lv_aload_n hx hb d_FR_ask_79 rfl (lv_at hl 1 rfl) ?_
          obtain ⟨q36, e36, h⟩ := fr_bind h
          refine fr_gP hx hb hts in_FR hown hK hH e36 rfl 3 (by decide) (hts _ k_242) (fun _ h9 => h9) rfl d_FR_ask_80 ?_
          refine lv_iload_n hx hb d_FR_ask_83 rfl (lv_at hl 2 rfl) ?_
          obtain ⟨q37, e37, h⟩ := fr_bind h
          refine fr_qld hx hb hK hH e37 (by decide) rfl d_FR_ask_84 ?_
          obtain ⟨v38, e38, h⟩ := fr_bind h
          refine fr_gI hx hb hts in_Place hown hK hH e38 rfl 1 (by decide) (hts _ k_157) (fun _ h9 => h9) rfl d_FR_ask_85 ?_
          refine lv_icmp_ne (tgt := 95) hx hb d_FR_ask_88 (by decide) (fun c39 => ?_) (fun c39 => ?_)
          · replace h := fr_iff c39 h
            refine lv_iconst (v := 0) hx hb d_FR_ask_95 (by decide) ?_
            refine lv_istore_n (lv' := [(3, .int 0), (5, .int v29), (0, .ref b0), (2, .int y2), (4, .int y4)]) hx hb d_FR_ask_96 rfl hl (by decide) rfl (fun ls hl => ?_)
            refine lv_iload hx hb d_FR_ask_97 (lv_at hl 1 rfl) ?_
            refine lv_istore_n (lv' := [(2, .int v29), (3, .int 0), (5, .int v29), (0, .ref b0), (4, .int y4)]) hx hb d_FR_ask_99 rfl hl (by decide) rfl (fun ls hl => ?_)
            refine lv_aload_n hx hb d_FR_ask_100 rfl (lv_at hl 3 rfl) ?_
            refine lv_iload_n hx hb d_FR_ask_101 rfl (lv_at hl 0 rfl) ?_
            refine lv_iload_n hx hb d_FR_ask_102 rfl (lv_at hl 1 rfl) ?_
            obtain ⟨u40, e40, h⟩ := fr_bind h
            obtain ⟨σ_41, e41, h⟩ := fr_bind h
            refine fr_callv (fr_V (As := [.int v29, .int 0]) (rest := []) ⟨hx, hb, hml, hown, hts⟩ (c_FR_countSent l D T A σ b0 v29 0 σ_41 e41) k_393 mv_FR_countSent rfl rfl ⟨Nat.le_of_ble_eq_true rfl, Nat.le_of_ble_eq_true rfl⟩ (fr_preV hK hX hH e40 rfl _) rfl hl.1 rfl (Nat.le_of_ble_eq_true rfl) d_FR_ask_103 ⟨Nat.zero_le _, Nat.zero_le _⟩) hS (fun H locs hH hS => ?_)
            refine lv_iinc (v := (y4 + 1)) (lv' := [(4, .int (y4 + 1)), (2, .int v29), (3, .int 0), (5, .int v29), (0, .ref b0)]) hx hb d_FR_ask_106 hl (k := 4) rfl rfl (by decide) rfl (fun ls hl => ?_)
            refine lv_goto (tgt := 36) hx hb d_FR_ask_109 (by decide) ?_
            exact ih b0 v29 0 (y4 + 1) σ_41 r σ1 h _ _ hH hS ls (lv_sub hl [4, 1, 2, 0] rfl)
          · replace h := fr_ift c39 h
            refine lv_iconst (v := 1) hx hb d_FR_ask_91 (by decide) ?_
            refine lv_goto (tgt := 96) hx hb d_FR_ask_92 (by decide) ?_
            refine lv_istore_n (lv' := [(3, .int 1), (5, .int v29), (0, .ref b0), (2, .int y2), (4, .int y4)]) hx hb d_FR_ask_96 rfl hl (by decide) rfl (fun ls hl => ?_)
            refine lv_iload hx hb d_FR_ask_97 (lv_at hl 1 rfl) ?_
            refine lv_istore_n (lv' := [(2, .int v29), (3, .int 1), (5, .int v29), (0, .ref b0), (4, .int y4)]) hx hb d_FR_ask_99 rfl hl (by decide) rfl (fun ls hl => ?_)
            refine lv_aload_n hx hb d_FR_ask_100 rfl (lv_at hl 3 rfl) ?_
            refine lv_iload_n hx hb d_FR_ask_101 rfl (lv_at hl 0 rfl) ?_
            refine lv_iload_n hx hb d_FR_ask_102 rfl (lv_at hl 1 rfl) ?_
            obtain ⟨u42, e42, h⟩ := fr_bind h
            obtain ⟨σ_43, e43, h⟩ := fr_bind h
            refine fr_callv (fr_V (As := [.int v29, .int 1]) (rest := []) ⟨hx, hb, hml, hown, hts⟩ (c_FR_countSent l D T A σ b0 v29 1 σ_43 e43) k_393 mv_FR_countSent rfl rfl ⟨Nat.le_of_ble_eq_true rfl, Nat.le_of_ble_eq_true rfl⟩ (fr_preV hK hX hH e42 rfl _) rfl hl.1 rfl (Nat.le_of_ble_eq_true rfl) d_FR_ask_103 ⟨Nat.zero_le _, Nat.zero_le _⟩) hS (fun H locs hH hS => ?_)
            refine lv_iinc (v := (y4 + 1)) (lv' := [(4, .int (y4 + 1)), (2, .int v29), (3, .int 1), (5, .int v29), (0, .ref b0)]) hx hb d_FR_ask_106 hl (k := 4) rfl rfl (by decide) rfl (fun ls hl => ?_)
            refine lv_goto (tgt := 36) hx hb d_FR_ask_109 (by decide) ?_
            exact ih b0 v29 1 (y4 + 1) σ_43 r σ1 h _ _ hH hS ls (lv_sub hl [4, 1, 2, 0] rfl)
set_option maxHeartbeats 4000000 in
set_option maxRecDepth 100000 in
theorem c_FR_ask (l : Launch) (D : va_G) (T : Nat → ClassId) (A : Nat → Prop) (σ : fr_S) (h0 : Nat) (x1 : Int32) (r : Int32) (σ1 : fr_S) (h : m_FR_ask h0 x1 σ = some (r, σ1)) : Met l y_FR_ask (Cond.code y_FR_ask b_FR_ask 6 (some .int) :: fr_W) ({ frames := 1, cells := 0, slots := 0, locals := 22 } : Room) (va_Pc [.ref h0, .int x1] (fr_B D T A σ)) (fr_Qi D T A r σ1) 0 0 A := by
  refine Met.ofW (cc := b_FR_ask) (maxL := 6) (ret := (some .int)) (by decide) rfl ?_
  intro p e s m args below meth c s₁ B hml hv
  obtain ⟨rfl, hH, hK, hX⟩ := hv
  have C0 : fr_At p s m _ meth c "FetchRules" b_FR_ask 6 (some .int) := fr_at B hml
  obtain ⟨hx, hb, hr, hml, hown, hts, hlocks⟩ := id C0
  have hS : va_S A s.heap s.heap [] := va_S.rf
  have hl := lv_entry ([.ref h0, .int x1]) (n := 6) (Nat.le_of_ble_eq_true rfl)
  rw [lg_entry_eq]
  generalize (lg_sl ([.ref h0, .int x1]) ++ List.replicate (6 - (lg_sl ([.ref h0, .int x1])).length) Slot.unset).toArray = ls at hl ⊢
  have hl : lv_has ls 6 [(0, .ref h0), (1, .int x1)] := hl
  unfold m_FR_ask at h
  refine lv_aload_n hx hb d_FR_ask_0 rfl (lv_at hl 0 rfl) ?_
  refine lv_iload_n hx hb d_FR_ask_1 rfl (lv_at hl 1 rfl) ?_
  obtain ⟨u1, e1, h⟩ := fr_bind h
  obtain ⟨r2, e2, h⟩ := fr_bind h
  refine fr_calli (fr_V (As := [.int x1]) (rest := []) ⟨hx, hb, hml, hown, hts⟩ (c_FR_isPlace l D T A σ h0 x1 r2 e2) k_297 mv_FR_isPlace rfl rfl ⟨Nat.le_of_ble_eq_true rfl, Nat.le_of_ble_eq_true rfl⟩ (fr_preV hK hX hH e1 rfl _) rfl hl.1 rfl (Nat.le_of_ble_eq_true rfl) d_FR_ask_2 ⟨Nat.zero_le _, Nat.zero_le _⟩) hS (fun H locs hH hS => ?_)
  refine lv_if_ne (tgt := 10) hx hb d_FR_ask_5 (by decide) (fun c3 => ?_) (fun c3 => ?_)
  · replace h := fr_iff c3 h
    refine lv_iload_n hx hb d_FR_ask_10 rfl (lv_at hl 1 rfl) ?_
    refine lv_istore_n (lv' := [(2, .int x1), (0, .ref h0), (1, .int x1)]) hx hb d_FR_ask_11 rfl hl (by decide) rfl (fun ls hl => ?_)
    refine lv_aload_n hx hb d_FR_ask_12 rfl (lv_at hl 1 rfl) ?_
    obtain ⟨q4, e4, h⟩ := fr_bind h
    refine fr_gP hx hb hts in_FR hown hK hH e4 rfl 1 (by decide) (hts _ k_240) (fun _ h9 => h9) rfl d_FR_ask_13 ?_
    refine lv_aload_n hx hb d_FR_ask_16 rfl (lv_at hl 1 rfl) ?_
    obtain ⟨q5, e5, h⟩ := fr_bind h
    refine fr_gP hx hb hts in_FR hown hK hH e5 rfl 3 (by decide) (hts _ k_242) (fun _ h9 => h9) rfl d_FR_ask_17 ?_
    refine lv_iload_n hx hb d_FR_ask_20 rfl (lv_at hl 0 rfl) ?_
    obtain ⟨q6, e6, h⟩ := fr_bind h
    refine fr_qld hx hb hK hH e6 (by decide) rfl d_FR_ask_21 ?_
    obtain ⟨v7, e7, h⟩ := fr_bind h
    refine fr_gI hx hb hts in_Place hown hK hH e7 rfl 1 (by decide) (hts _ k_157) (fun _ h9 => h9) rfl d_FR_ask_22 ?_
    obtain ⟨v8, e8, h⟩ := fr_bind h
    refine fr_zld hx hb hK hH e8 d_FR_ask_25 ?_
    refine lv_istore_n (lv' := [(3, .int v8), (2, .int x1), (0, .ref h0), (1, .int x1)]) hx hb d_FR_ask_26 rfl hl (by decide) rfl (fun ls hl => ?_)
    refine lv_aload_n hx hb d_FR_ask_27 rfl (lv_at hl 2 rfl) ?_
    refine lv_iload_n hx hb d_FR_ask_28 rfl (lv_at hl 1 rfl) ?_
    refine lv_iload_n hx hb d_FR_ask_29 rfl (lv_at hl 0 rfl) ?_
    obtain ⟨u9, e9, h⟩ := fr_bind h
    obtain ⟨σ_10, e10, h⟩ := fr_bind h
    refine fr_callv (fr_V (As := [.int x1, .int v8]) (rest := []) ⟨hx, hb, hml, hown, hts⟩ (c_FR_countSent l D T A σ h0 x1 v8 σ_10 e10) k_393 mv_FR_countSent rfl rfl ⟨Nat.le_of_ble_eq_true rfl, Nat.le_of_ble_eq_true rfl⟩ (fr_preV hK hX hH e9 rfl _) rfl hl.1 rfl (Nat.le_of_ble_eq_true rfl) d_FR_ask_30 ⟨Nat.zero_le _, Nat.zero_le _⟩) hS (fun H locs hH hS => ?_)
    refine lv_iconst (v := 0) hx hb d_FR_ask_33 (by decide) ?_
    refine lv_istore (lv' := [(4, .int 0), (3, .int v8), (2, .int x1), (0, .ref h0), (1, .int x1)]) hx hb d_FR_ask_34 hl (by decide) rfl (fun ls hl => ?_)
    exact w_FR_ask_L36 C0 hK hX 1000 h0 x1 v8 0 σ_10 r σ1 h _ _ hH hS ls (lv_sub hl [3, 2, 1, 0] rfl)
  · replace h := fr_ift c3 h
    refine lv_iconst (v := (-1)) hx hb d_FR_ask_8 (by decide) ?_
    exact fr_iret hx hb hr hlocks  h hH hK hX hS d_FR_ask_9
set_option maxHeartbeats 4000000 in
set_option maxRecDepth 100000 in
theorem c_FR_giveUp (l : Launch) (D : va_G) (T : Nat → ClassId) (A : Nat → Prop) (σ : fr_S) (h0 : Nat) (a1 : Nat) (σ1 : fr_S) (h : m_FR_giveUp h0 a1 σ = some σ1) : Met l y_FR_giveUp (Cond.code y_FR_giveUp b_FR_giveUp 2 none :: fr_W) ({ frames := 2, cells := 0, slots := 0, locals := 44 } : Room) (va_Pc [.ref h0, .ref a1] (fr_B D T A σ)) (fr_Qv D T A σ1) 0 0 A := by
  refine Met.ofW (cc := b_FR_giveUp) (maxL := 2) (ret := none) (by decide) rfl ?_
  intro p e s m args below meth c s₁ B hml hv
  obtain ⟨rfl, hH, hK, hX⟩ := hv
  have C0 : fr_At p s m _ meth c "FetchRules" b_FR_giveUp 2 none := fr_at B hml
  obtain ⟨hx, hb, hr, hml, hown, hts, hlocks⟩ := id C0
  have hS : va_S A s.heap s.heap [] := va_S.rf
  have hl := lv_entry ([.ref h0, .ref a1]) (n := 2) (Nat.le_of_ble_eq_true rfl)
  rw [lg_entry_eq]
  generalize (lg_sl ([.ref h0, .ref a1]) ++ List.replicate (2 - (lg_sl ([.ref h0, .ref a1])).length) Slot.unset).toArray = ls at hl ⊢
  have hl : lv_has ls 2 [(0, .ref h0), (1, .ref a1)] := hl
  unfold m_FR_giveUp at h
  refine lv_aload_n hx hb d_FR_giveUp_0 rfl (lv_at hl 0 rfl) ?_
  refine lv_aload_n hx hb d_FR_giveUp_1 rfl (lv_at hl 1 rfl) ?_
  refine lv_aload_n hx hb d_FR_giveUp_2 rfl (lv_at hl 1 rfl) ?_
  obtain ⟨v1, e1, h⟩ := fr_bind h
  refine fr_gI hx hb hts in_Want hown hK hH e1 rfl 5 (by decide) (hts _ k_213) (fun _ h9 => h9) rfl d_FR_giveUp_3 ?_
  refine lv_iconst (v := 1) hx hb d_FR_giveUp_6 (by decide) ?_
  refine lv_iadd hx hb d_FR_giveUp_7 ?_
  obtain ⟨u2, e2, h⟩ := fr_bind h
  obtain ⟨σ_3, e3, h⟩ := fr_bind h
  refine fr_callv (fr_V (As := [.ref a1, .int (v1 + 1)]) (rest := []) ⟨hx, hb, hml, hown, hts⟩ (c_FR_fetchFrom l D T A σ h0 a1 ((v1 + 1)) σ_3 e3) k_365 mv_FR_fetchFrom rfl rfl ⟨Nat.le_of_ble_eq_true rfl, Nat.le_of_ble_eq_true rfl⟩ (fr_preV hK hX hH e2 rfl _) rfl hl.1 rfl (Nat.le_of_ble_eq_true rfl) d_FR_giveUp_8 ⟨Nat.zero_le _, Nat.zero_le _⟩) hS (fun H locs hH hS => ?_)
  exact fr_vret hx hb hr hlocks h hH hK hX hS d_FR_giveUp_11
set_option maxHeartbeats 4000000 in
set_option maxRecDepth 100000 in
theorem c_Row_at (l : Launch) (D : va_G) (T : Nat → ClassId) (A : Nat → Prop) (σ : fr_S) (h0 : Nat) (x1 : Int32) (r : Int32) (h : m_Row_at h0 x1 σ = some r) : Met l y_Row_at (Cond.code y_Row_at b_Row_at 2 (some .int) :: fr_W) ({ frames := 0, cells := 0, slots := 0, locals := 0 } : Room) (va_Pc [.ref h0, .int x1] (fr_B D T A σ)) (fr_Qi D T A r σ) 0 0 A := by
  refine Met.ofW (cc := b_Row_at) (maxL := 2) (ret := (some .int)) (by decide) rfl ?_
  intro p e s m args below meth c s₁ B hml hv
  obtain ⟨rfl, hH, hK, hX⟩ := hv
  have C0 : fr_At p s m _ meth c "FetchRules$Row" b_Row_at 2 (some .int) := fr_at B hml
  obtain ⟨hx, hb, hr, hml, hown, hts, hlocks⟩ := id C0
  have hS : va_S A s.heap s.heap [] := va_S.rf
  have hl := lv_entry ([.ref h0, .int x1]) (n := 2) (Nat.le_of_ble_eq_true rfl)
  rw [lg_entry_eq]
  generalize (lg_sl ([.ref h0, .int x1]) ++ List.replicate (2 - (lg_sl ([.ref h0, .int x1])).length) Slot.unset).toArray = ls at hl ⊢
  have hl : lv_has ls 2 [(0, .ref h0), (1, .int x1)] := hl
  unfold m_Row_at at h
  refine lv_iload_n hx hb d_Row_at_0 rfl (lv_at hl 1 rfl) ?_
  refine lv_if_lt (tgt := 21) hx hb d_Row_at_1 (by decide) (fun c1 => ?_) (fun c1 => ?_)
  · replace h := fr_ift c1 h
    refine lv_iconst (v := (-1)) hx hb d_Row_at_21 (by decide) ?_
    exact fr_iretO hx hb hr hlocks  h hH hK hX hS d_Row_at_22
  · replace h := fr_iff c1 h
    refine lv_iload_n hx hb d_Row_at_4 rfl (lv_at hl 1 rfl) ?_
    refine lv_aload_n hx hb d_Row_at_5 rfl (lv_at hl 0 rfl) ?_
    obtain ⟨v2, e2, h⟩ := fr_bind h
    refine fr_gI hx hb hts in_Row hown hK hH e2 rfl 1 (by decide) (hts _ k_68) (fun _ h9 => h9) rfl d_Row_at_6 ?_
    refine lv_icmp_ge (tgt := 21) hx hb d_Row_at_9 (by decide) (fun c3 => ?_) (fun c3 => ?_)
    · replace h := fr_ift c3 h
      refine lv_iconst (v := (-1)) hx hb d_Row_at_21 (by decide) ?_
      exact fr_iretO hx hb hr hlocks  h hH hK hX hS d_Row_at_22
    · replace h := fr_iff c3 h
      refine lv_aload_n hx hb d_Row_at_12 rfl (lv_at hl 0 rfl) ?_
      obtain ⟨q4, e4, h⟩ := fr_bind h
      refine fr_gP hx hb hts in_Row hown hK hH e4 rfl 0 (by decide) (hts _ k_67) (fun _ h9 => h9) rfl d_Row_at_13 ?_
      refine lv_iload_n hx hb d_Row_at_16 rfl (lv_at hl 1 rfl) ?_
      obtain ⟨v5, e5, h⟩ := fr_bind h
      refine fr_ild hx hb hK hH e5 d_Row_at_17 ?_
      refine lv_goto (tgt := 22) hx hb d_Row_at_18 (by decide) ?_
      exact fr_iretO hx hb hr hlocks  h hH hK hX hS d_Row_at_22
set_option maxHeartbeats 4000000 in
set_option maxRecDepth 100000 in
theorem c_Place_givenByte (l : Launch) (D : va_G) (T : Nat → ClassId) (A : Nat → Prop) (σ : fr_S) (h0 : Nat) (x1 : Int32) (r : Int32) (h : m_Place_givenByte h0 x1 σ = some r) : Met l y_Place_givenByte (Cond.code y_Place_givenByte b_Place_givenByte 2 (some .int) :: fr_W) ({ frames := 1, cells := 0, slots := 0, locals := 21 } : Room) (va_Pc [.ref h0, .int x1] (fr_B D T A σ)) (fr_Qi D T A r σ) 0 0 A := by
  refine Met.ofW (cc := b_Place_givenByte) (maxL := 2) (ret := (some .int)) (by decide) rfl ?_
  intro p e s m args below meth c s₁ B hml hv
  obtain ⟨rfl, hH, hK, hX⟩ := hv
  have C0 : fr_At p s m _ meth c "FetchRules$Place" b_Place_givenByte 2 (some .int) := fr_at B hml
  obtain ⟨hx, hb, hr, hml, hown, hts, hlocks⟩ := id C0
  have hS : va_S A s.heap s.heap [] := va_S.rf
  have hl := lv_entry ([.ref h0, .int x1]) (n := 2) (Nat.le_of_ble_eq_true rfl)
  rw [lg_entry_eq]
  generalize (lg_sl ([.ref h0, .int x1]) ++ List.replicate (2 - (lg_sl ([.ref h0, .int x1])).length) Slot.unset).toArray = ls at hl ⊢
  have hl : lv_has ls 2 [(0, .ref h0), (1, .int x1)] := hl
  unfold m_Place_givenByte at h
  refine lv_iload_n hx hb d_Place_givenByte_0 rfl (lv_at hl 1 rfl) ?_
  refine lv_if_ne (tgt := 24) hx hb d_Place_givenByte_1 (by decide) (fun c1 => ?_) (fun c1 => ?_)
  · replace h := fr_iff c1 h
    refine lv_aload_n hx hb d_Place_givenByte_24 rfl (lv_at hl 0 rfl) ?_
    obtain ⟨q2, e2, h⟩ := fr_bind h
    refine fr_gP hx hb hts in_Place hown hK hH e2 rfl 0 (by decide) (hts _ k_154) (fun _ h9 => h9) rfl d_Place_givenByte_25 ?_
    refine lv_iload_n hx hb d_Place_givenByte_28 rfl (lv_at hl 1 rfl) ?_
    obtain ⟨u3, e3, h⟩ := fr_bind h
    obtain ⟨r4, e4, h⟩ := fr_bind h
    refine fr_calli (fr_V (As := [.int x1]) (rest := []) ⟨hx, hb, hml, hown, hts⟩ (c_Row_at l D T A σ q2 x1 r4 e4) k_418 mv_Row_at rfl rfl ⟨Nat.le_of_ble_eq_true rfl, Nat.le_of_ble_eq_true rfl⟩ (fr_preV hK hX hH e3 rfl _) rfl hl.1 rfl (Nat.le_of_ble_eq_true rfl) d_Place_givenByte_29 ⟨Nat.zero_le _, Nat.zero_le _⟩) hS (fun H locs hH hS => ?_)
    exact fr_iretO hx hb hr hlocks  h hH hK hX hS d_Place_givenByte_32
  · replace h := fr_ift c1 h
    refine lv_aload_n hx hb d_Place_givenByte_4 rfl (lv_at hl 0 rfl) ?_
    obtain ⟨v5, e5, h⟩ := fr_bind h
    refine fr_gI hx hb hts in_Place hown hK hH e5 rfl 8 (by decide) (hts _ k_170) (fun _ h9 => h9) rfl d_Place_givenByte_5 ?_
    refine lv_if_eq (tgt := 24) hx hb d_Place_givenByte_8 (by decide) (fun c6 => ?_) (fun c6 => ?_)
    · replace h := fr_ift c6 h
      refine lv_aload_n hx hb d_Place_givenByte_24 rfl (lv_at hl 0 rfl) ?_
      obtain ⟨q7, e7, h⟩ := fr_bind h
      refine fr_gP hx hb hts in_Place hown hK hH e7 rfl 0 (by decide) (hts _ k_154) (fun _ h9 => h9) rfl d_Place_givenByte_25 ?_
      refine lv_iload_n hx hb d_Place_givenByte_28 rfl (lv_at hl 1 rfl) ?_
      obtain ⟨u8, e8, h⟩ := fr_bind h
      obtain ⟨r9, e9, h⟩ := fr_bind h
      refine fr_calli (fr_V (As := [.int x1]) (rest := []) ⟨hx, hb, hml, hown, hts⟩ (c_Row_at l D T A σ q7 x1 r9 e9) k_418 mv_Row_at rfl rfl ⟨Nat.le_of_ble_eq_true rfl, Nat.le_of_ble_eq_true rfl⟩ (fr_preV hK hX hH e8 rfl _) rfl hl.1 rfl (Nat.le_of_ble_eq_true rfl) d_Place_givenByte_29 ⟨Nat.zero_le _, Nat.zero_le _⟩) hS (fun H locs hH hS => ?_)
      exact fr_iretO hx hb hr hlocks  h hH hK hX hS d_Place_givenByte_32
    · replace h := fr_iff c6 h
      refine lv_aload_n hx hb d_Place_givenByte_11 rfl (lv_at hl 0 rfl) ?_
      obtain ⟨q10, e10, h⟩ := fr_bind h
      refine fr_gP hx hb hts in_Place hown hK hH e10 rfl 0 (by decide) (hts _ k_154) (fun _ h9 => h9) rfl d_Place_givenByte_12 ?_
      refine lv_iload_n hx hb d_Place_givenByte_15 rfl (lv_at hl 1 rfl) ?_
      obtain ⟨u11, e11, h⟩ := fr_bind h
      obtain ⟨r12, e12, h⟩ := fr_bind h
      refine fr_calli (fr_V (As := [.int x1]) (rest := []) ⟨hx, hb, hml, hown, hts⟩ (c_Row_at l D T A σ q10 x1 r12 e12) k_418 mv_Row_at rfl rfl ⟨Nat.le_of_ble_eq_true rfl, Nat.le_of_ble_eq_true rfl⟩ (fr_preV hK hX hH e11 rfl _) rfl hl.1 rfl (Nat.le_of_ble_eq_true rfl) d_Place_givenByte_16 ⟨Nat.zero_le _, Nat.zero_le _⟩) hS (fun H locs hH hS => ?_)
      refine lv_iconst (v := 1) hx hb d_Place_givenByte_19 (by decide) ?_
      refine lv_ixor hx hb d_Place_givenByte_20 ?_
      refine lv_goto (tgt := 32) hx hb d_Place_givenByte_21 (by decide) ?_
      exact fr_iretO hx hb hr hlocks  h hH hK hX hS d_Place_givenByte_32
set_option maxHeartbeats 4000000 in
set_option maxRecDepth 100000 in
theorem w_Place_giveTo_L65 {p : Program} {l : Launch} {e : Env} {s : State} {m : MethodId} {args : Array Value} {below : List Frame} {meth : Method} {c : Code} {D : va_G} {T : Nat → ClassId} {A : Nat → Prop} (C0 : fr_At p s m args meth c "FetchRules$Place" b_Place_giveTo 6 (some .boolean)) (hK : va_K D vwCl (fr_tys T) s) (hX : fr_X s) :
    ∀ (n : Nat) (b0 : Nat) (b1 : Nat) (y2 : Int32) (y4 : Int32) (y5 : Int32) (σ : fr_S) (r : Int32) (σ1 : fr_S), m_Place_giveTo_L65 n b0 b1 y2 y4 y5 σ = some (r, σ1) → ∀ (H : Heap) (locs : List Loc), fr_H D T A σ H → va_S A s.heap H locs → ∀ (ls : Array Slot), lv_has ls 6 [(0, .ref b0), (1, .ref b1), (2, .int y2), (4, .int y4), (5, .int y5)] → W p l e (headSpec (Cond.code y_Place_giveTo b_Place_giveTo 6 (some .boolean) :: fr_W) ({ frames := 2, cells := 0, slots := 0, locals := 42 } : Room)).room s m args below meth c H locs 0 0 (MQ below (fr_Qi D T A r σ1) args s 0 0 A) (F0 m 65 ls []) := by
  obtain ⟨hx, hb, hr, hml, hown, hts, hlocks⟩ := id C0
  intro n
  induction n with
  | zero => intro b0 b1 y2 y4 y5 σ r σ1 h; cases h
  | succ n ih =>
    intro b0 b1 y2 y4 y5 σ r σ1 h H locs hH hS ls hl
    unfold m_Place_giveTo_L65 at h
    refine lv_iload hx hb d_Place_giveTo_65 (lv_at hl 4 rfl) ?_
    refine lv_iload hx hb d_Place_giveTo_67 (lv_at hl 3 rfl) ?_
    refine lv_icmp_ge (tgt := 88) hx hb d_Place_giveTo_69 (by decide) (fun c18 => ?_) (fun c18 => ?_)
    · replace h := fr_ift c18 h
      refine lv_iload_n hx hb d_Place_giveTo_88 rfl (lv_at hl 2 rfl) ?_
      obtain ⟨u19, e19, h⟩ := fr_bind h
      exact fr_zret hx hb hr hlocks (oZ_inv e19) h hH hK hX hS d_Place_giveTo_89
    · replace h := fr_iff c18 h
      refine lv_aload_n hx hb d_Place_giveTo_72 rfl (lv_at hl 1 rfl) ?_
      refine lv_aload_n hx hb d_Place_giveTo_73 rfl (lv_at hl 0 rfl) ?_
      refine lv_iload hx hb d_Place_giveTo_74 (lv_at hl 4 rfl) ?_
      obtain ⟨u20, e20, h⟩ := fr_bind h
      obtain ⟨r21, e21, h⟩ := fr_bind h
      refine fr_calli (fr_V (As := [.int y5]) (rest := [.ref b1]) ⟨hx, hb, hml, hown, hts⟩ (c_Place_givenByte l D T A σ b0 y5 r21 e21) k_414 mv_Place_givenByte rfl rfl ⟨Nat.le_of_ble_eq_true rfl, Nat.le_of_ble_eq_true rfl⟩ (fr_preV hK hX hH e20 rfl _) rfl hl.1 rfl (Nat.le_of_ble_eq_true rfl) d_Place_giveTo_76 ⟨Nat.zero_le _, Nat.zero_le _⟩) hS (fun H locs hH hS => ?_)
      obtain ⟨u22, e22, h⟩ := fr_bind h
      obtain ⟨σ_23, e23, h⟩ := fr_bind h
      refine fr_callv (fr_V (As := [.int r21]) (rest := []) ⟨hx, hb, hml, hown, hts⟩ (c_Row_append l D T A σ b1 r21 σ_23 e23) k_422 mv_Row_append rfl rfl ⟨Nat.le_of_ble_eq_true rfl, Nat.le_of_ble_eq_true rfl⟩ (fr_preV hK hX hH e22 rfl _) rfl hl.1 rfl (Nat.le_of_ble_eq_true rfl) d_Place_giveTo_79 ⟨Nat.zero_le _, Nat.zero_le _⟩) hS (fun H locs hH hS => ?_)
      refine lv_iinc (v := (y5 + 1)) (lv' := [(5, .int (y5 + 1)), (0, .ref b0), (1, .ref b1), (2, .int y2), (4, .int y4)]) hx hb d_Place_giveTo_82 hl (k := 4) rfl rfl (by decide) rfl (fun ls hl => ?_)
      refine lv_goto (tgt := 65) hx hb d_Place_giveTo_85 (by decide) ?_
      exact ih b0 b1 y2 y4 (y5 + 1) σ_23 r σ1 h _ _ hH hS ls (lv_sub hl [1, 2, 3, 4, 0] rfl)
set_option maxHeartbeats 4000000 in
set_option maxRecDepth 100000 in
theorem c_Place_giveTo (l : Launch) (D : va_G) (T : Nat → ClassId) (A : Nat → Prop) (σ : fr_S) (h0 : Nat) (a1 : Nat) (r : Int32) (σ1 : fr_S) (h : m_Place_giveTo h0 a1 σ = some (r, σ1)) : Met l y_Place_giveTo (Cond.code y_Place_giveTo b_Place_giveTo 6 (some .boolean) :: fr_W) ({ frames := 2, cells := 0, slots := 0, locals := 42 } : Room) (va_Pc [.ref h0, .ref a1] (fr_B D T A σ)) (fr_Qi D T A r σ1) 0 0 A := by
  refine Met.ofW (cc := b_Place_giveTo) (maxL := 6) (ret := (some .boolean)) (by decide) rfl ?_
  intro p e s m args below meth c s₁ B hml hv
  obtain ⟨rfl, hH, hK, hX⟩ := hv
  have C0 : fr_At p s m _ meth c "FetchRules$Place" b_Place_giveTo 6 (some .boolean) := fr_at B hml
  obtain ⟨hx, hb, hr, hml, hown, hts, hlocks⟩ := id C0
  have hS : va_S A s.heap s.heap [] := va_S.rf
  have hl := lv_entry ([.ref h0, .ref a1]) (n := 6) (Nat.le_of_ble_eq_true rfl)
  rw [lg_entry_eq]
  generalize (lg_sl ([.ref h0, .ref a1]) ++ List.replicate (6 - (lg_sl ([.ref h0, .ref a1])).length) Slot.unset).toArray = ls at hl ⊢
  have hl : lv_has ls 6 [(0, .ref h0), (1, .ref a1)] := hl
  unfold m_Place_giveTo at h
  refine lv_aload_n hx hb d_Place_giveTo_0 rfl (lv_at hl 0 rfl) ?_
  obtain ⟨v1, e1, h⟩ := fr_bind h
  refine fr_gI hx hb hts in_Place hown hK hH e1 rfl 4 (by decide) (hts _ k_162) (fun _ h9 => h9) rfl d_Place_giveTo_1 ?_
  refine lv_if_le (tgt := 11) hx hb d_Place_giveTo_4 (by decide) (fun c2 => ?_) (fun c2 => ?_)
  · replace h := fr_ift c2 h
    refine lv_iconst (v := 0) hx hb d_Place_giveTo_11 (by decide) ?_
    refine lv_istore_n (lv' := [(2, .int 0), (0, .ref h0), (1, .ref a1)]) hx hb d_Place_giveTo_12 rfl hl (by decide) rfl (fun ls hl => ?_)
    refine lv_aload_n hx hb d_Place_giveTo_13 rfl (lv_at hl 1 rfl) ?_
    obtain ⟨v3, e3, h⟩ := fr_bind h
    refine fr_gI hx hb hts in_Place hown hK hH e3 rfl 2 (by decide) (hts _ k_158) (fun _ h9 => h9) rfl d_Place_giveTo_14 ?_
    refine lv_istore_n (lv' := [(3, .int v3), (2, .int 0), (0, .ref h0), (1, .ref a1)]) hx hb d_Place_giveTo_17 rfl hl (by decide) rfl (fun ls hl => ?_)
    refine lv_iload_n hx hb d_Place_giveTo_18 rfl (lv_at hl 1 rfl) ?_
    refine lv_if_eq (tgt := 41) hx hb d_Place_giveTo_19 (by decide) (fun c4 => ?_) (fun c4 => ?_)
    · refine lv_aload_n hx hb d_Place_giveTo_41 rfl (lv_at hl 2 rfl) ?_
      obtain ⟨q5, e5, h⟩ := fr_bind h
      refine fr_gP hx hb hts in_Place hown hK hH e5 rfl 0 (by decide) (hts _ k_154) (fun _ h9 => h9) rfl d_Place_giveTo_42 ?_
      obtain ⟨v6, e6, h⟩ := fr_bind h
      refine fr_gI hx hb hts in_Row hown hK hH e6 rfl 1 (by decide) (hts _ k_72) (fun _ h9 => h9) rfl d_Place_giveTo_45 ?_
      refine lv_aload_n hx hb d_Place_giveTo_48 rfl (lv_at hl 3 rfl) ?_
      obtain ⟨v7, e7, h⟩ := fr_bind h
      refine fr_gI hx hb hts in_Row hown hK hH e7 rfl 1 (by decide) (hts _ k_72) (fun _ h9 => h9) rfl d_Place_giveTo_49 ?_
      refine lv_iload_n hx hb d_Place_giveTo_52 rfl (lv_at hl 0 rfl) ?_
      refine lv_iadd hx hb d_Place_giveTo_53 ?_
      refine va_mmin hx hb (hml.trans hl.1.symm) hown (hts _ k_413) (hts _ k_142) (hts _ k_36) (hts _ k_143) (Nat.le_of_ble_eq_true rfl) (Nat.le_of_ble_eq_true rfl) (Nat.le_of_ble_eq_true rfl) (Nat.le_of_ble_eq_true rfl) d_Place_giveTo_54 ?_
      refine lv_istore (lv' := [(4, .int (if (v7 + v3) < v6 then (v7 + v3) else v6)), (3, .int v3), (2, .int 0), (0, .ref h0), (1, .ref a1)]) hx hb d_Place_giveTo_57 hl (by decide) rfl (fun ls hl => ?_)
      refine lv_aload_n hx hb d_Place_giveTo_59 rfl (lv_at hl 4 rfl) ?_
      obtain ⟨v8, e8, h⟩ := fr_bind h
      refine fr_gI hx hb hts in_Row hown hK hH e8 rfl 1 (by decide) (hts _ k_72) (fun _ h9 => h9) rfl d_Place_giveTo_60 ?_
      refine lv_istore (lv' := [(5, .int v8), (4, .int (if (v7 + v3) < v6 then (v7 + v3) else v6)), (3, .int v3), (2, .int 0), (0, .ref h0), (1, .ref a1)]) hx hb d_Place_giveTo_63 hl (by decide) rfl (fun ls hl => ?_)
      exact w_Place_giveTo_L65 C0 hK hX 1000 h0 a1 0 (if (v7 + v3) < v6 then (v7 + v3) else v6) v8 σ r σ1 h _ _ hH hS ls (lv_sub hl [4, 5, 3, 1, 0] rfl)
    · exact absurd (by decide) c4
  · replace h := fr_iff c2 h
    refine lv_iconst (v := 1) hx hb d_Place_giveTo_7 (by decide) ?_
    refine lv_goto (tgt := 12) hx hb d_Place_giveTo_8 (by decide) ?_
    refine lv_istore_n (lv' := [(2, .int 1), (0, .ref h0), (1, .ref a1)]) hx hb d_Place_giveTo_12 rfl hl (by decide) rfl (fun ls hl => ?_)
    refine lv_aload_n hx hb d_Place_giveTo_13 rfl (lv_at hl 1 rfl) ?_
    obtain ⟨v9, e9, h⟩ := fr_bind h
    refine fr_gI hx hb hts in_Place hown hK hH e9 rfl 2 (by decide) (hts _ k_158) (fun _ h9 => h9) rfl d_Place_giveTo_14 ?_
    refine lv_istore_n (lv' := [(3, .int v9), (2, .int 1), (0, .ref h0), (1, .ref a1)]) hx hb d_Place_giveTo_17 rfl hl (by decide) rfl (fun ls hl => ?_)
    refine lv_iload_n hx hb d_Place_giveTo_18 rfl (lv_at hl 1 rfl) ?_
    refine lv_if_eq (tgt := 41) hx hb d_Place_giveTo_19 (by decide) (fun c10 => ?_) (fun c10 => ?_)
    · exact absurd c10 (by decide)
    · refine lv_aload_n hx hb d_Place_giveTo_22 rfl (lv_at hl 2 rfl) ?_
      refine lv_dup hx hb d_Place_giveTo_23 rfl ?_
      obtain ⟨v11, e11, h⟩ := fr_bind h
      refine fr_gI hx hb hts in_Place hown hK hH e11 rfl 4 (by decide) (hts _ k_162) (fun _ h9 => h9) rfl d_Place_giveTo_24 ?_
      refine lv_iconst (v := 1) hx hb d_Place_giveTo_27 (by decide) ?_
      refine lv_isub hx hb d_Place_giveTo_28 ?_
      obtain ⟨σ_12, e12, h⟩ := fr_bind h
      refine fr_putI hx hb hts in_Place ty_Place tk_Place nm_Place hown hK hH hS e12 rfl 4 (by decide) (hts _ k_162) (fun _ h9 => h9) rfl (by decide +kernel) (fs_3_4 _ _ _) (Nat.le_of_ble_eq_true rfl) d_Place_giveTo_29 (fun H locs hH hS => ?_)
      refine lv_iload_n hx hb d_Place_giveTo_32 rfl (lv_at hl 0 rfl) ?_
      refine lv_aload_n hx hb d_Place_giveTo_33 rfl (lv_at hl 2 rfl) ?_
      obtain ⟨v13, e13, h⟩ := fr_bind h
      refine fr_gI hx hb hts in_Place hown hK hH e13 rfl 5 (by decide) (hts _ k_164) (fun _ h9 => h9) rfl d_Place_giveTo_34 ?_
      refine va_mmin hx hb (hml.trans hl.1.symm) hown (hts _ k_413) (hts _ k_142) (hts _ k_36) (hts _ k_143) (Nat.le_of_ble_eq_true rfl) (Nat.le_of_ble_eq_true rfl) (Nat.le_of_ble_eq_true rfl) (Nat.le_of_ble_eq_true rfl) d_Place_giveTo_37 ?_
      refine lv_istore_n (lv' := [(3, .int (if v13 < v9 then v13 else v9)), (2, .int 1), (0, .ref h0), (1, .ref a1)]) hx hb d_Place_giveTo_40 rfl hl (by decide) rfl (fun ls hl => ?_)
      refine lv_aload_n hx hb d_Place_giveTo_41 rfl (lv_at hl 2 rfl) ?_
      obtain ⟨q14, e14, h⟩ := fr_bind h
      refine fr_gP hx hb hts in_Place hown hK hH e14 rfl 0 (by decide) (hts _ k_154) (fun _ h9 => h9) rfl d_Place_giveTo_42 ?_
      obtain ⟨v15, e15, h⟩ := fr_bind h
      refine fr_gI hx hb hts in_Row hown hK hH e15 rfl 1 (by decide) (hts _ k_72) (fun _ h9 => h9) rfl d_Place_giveTo_45 ?_
      refine lv_aload_n hx hb d_Place_giveTo_48 rfl (lv_at hl 3 rfl) ?_
      obtain ⟨v16, e16, h⟩ := fr_bind h
      refine fr_gI hx hb hts in_Row hown hK hH e16 rfl 1 (by decide) (hts _ k_72) (fun _ h9 => h9) rfl d_Place_giveTo_49 ?_
      refine lv_iload_n hx hb d_Place_giveTo_52 rfl (lv_at hl 0 rfl) ?_
      refine lv_iadd hx hb d_Place_giveTo_53 ?_
      refine va_mmin hx hb (hml.trans hl.1.symm) hown (hts _ k_413) (hts _ k_142) (hts _ k_36) (hts _ k_143) (Nat.le_of_ble_eq_true rfl) (Nat.le_of_ble_eq_true rfl) (Nat.le_of_ble_eq_true rfl) (Nat.le_of_ble_eq_true rfl) d_Place_giveTo_54 ?_
      refine lv_istore (lv' := [(4, .int (if (v16 + (if v13 < v9 then v13 else v9)) < v15 then (v16 + (if v13 < v9 then v13 else v9)) else v15)), (3, .int (if v13 < v9 then v13 else v9)), (2, .int 1), (0, .ref h0), (1, .ref a1)]) hx hb d_Place_giveTo_57 hl (by decide) rfl (fun ls hl => ?_)
      refine lv_aload_n hx hb d_Place_giveTo_59 rfl (lv_at hl 4 rfl) ?_
      obtain ⟨v17, e17, h⟩ := fr_bind h
      refine fr_gI hx hb hts in_Row hown hK hH e17 rfl 1 (by decide) (hts _ k_72) (fun _ h9 => h9) rfl d_Place_giveTo_60 ?_
      refine lv_istore (lv' := [(5, .int v17), (4, .int (if (v16 + (if v13 < v9 then v13 else v9)) < v15 then (v16 + (if v13 < v9 then v13 else v9)) else v15)), (3, .int (if v13 < v9 then v13 else v9)), (2, .int 1), (0, .ref h0), (1, .ref a1)]) hx hb d_Place_giveTo_63 hl (by decide) rfl (fun ls hl => ?_)
      exact w_Place_giveTo_L65 C0 hK hX 1000 h0 a1 1 (if (v16 + (if v13 < v9 then v13 else v9)) < v15 then (v16 + (if v13 < v9 then v13 else v9)) else v15) v17 σ_12 r σ1 h _ _ hH hS ls (lv_sub hl [4, 5, 3, 1, 0] rfl)
set_option maxHeartbeats 4000000 in
set_option maxRecDepth 100000 in
theorem c_Store_keep (l : Launch) (D : va_G) (T : Nat → ClassId) (A : Nat → Prop) (σ : fr_S) (h0 : Nat) (x1 : Int32) (a2 : Nat) (σ1 : fr_S) (h : m_Store_keep h0 x1 a2 σ = some σ1) : Met l y_Store_keep (Cond.code y_Store_keep b_Store_keep 3 none :: fr_W) ({ frames := 2, cells := 0, slots := 0, locals := 81 } : Room) (va_Pc [.ref h0, .int x1, .ref a2] (fr_B D T A σ)) (fr_Qv D T A σ1) 0 0 A := by
  refine Met.ofW (cc := b_Store_keep) (maxL := 3) (ret := none) (by decide) rfl ?_
  intro p e s m args below meth c s₁ B hml hv
  obtain ⟨rfl, hH, hK, hX⟩ := hv
  have C0 : fr_At p s m _ meth c "FetchRules$Store" b_Store_keep 3 none := fr_at B hml
  obtain ⟨hx, hb, hr, hml, hown, hts, hlocks⟩ := id C0
  have hS : va_S A s.heap s.heap [] := va_S.rf
  have hl := lv_entry ([.ref h0, .int x1, .ref a2]) (n := 3) (Nat.le_of_ble_eq_true rfl)
  rw [lg_entry_eq]
  generalize (lg_sl ([.ref h0, .int x1, .ref a2]) ++ List.replicate (3 - (lg_sl ([.ref h0, .int x1, .ref a2])).length) Slot.unset).toArray = ls at hl ⊢
  have hl : lv_has ls 3 [(0, .ref h0), (1, .int x1), (2, .ref a2)] := hl
  unfold m_Store_keep at h
  refine lv_aload_n hx hb d_Store_keep_0 rfl (lv_at hl 0 rfl) ?_
  refine lv_iload_n hx hb d_Store_keep_1 rfl (lv_at hl 1 rfl) ?_
  obtain ⟨u1, e1, h⟩ := fr_bind h
  obtain ⟨r2, e2, h⟩ := fr_bind h
  refine fr_calli (fr_V (As := [.int x1]) (rest := []) ⟨hx, hb, hml, hown, hts⟩ (c_Store_find l D T A σ h0 x1 r2 e2) k_431 mv_Store_find rfl rfl ⟨Nat.le_of_ble_eq_true rfl, Nat.le_of_ble_eq_true rfl⟩ (fr_preV hK hX hH e1 rfl _) rfl hl.1 rfl (Nat.le_of_ble_eq_true rfl) d_Store_keep_2 ⟨Nat.zero_le _, Nat.zero_le _⟩) hS (fun H locs hH hS => ?_)
  refine lv_iconst (v := (-1)) hx hb d_Store_keep_5 (by decide) ?_
  refine lv_icmp_ne (tgt := 18) hx hb d_Store_keep_6 (by decide) (fun c3 => ?_) (fun c3 => ?_)
  · replace h := fr_iff c3 h
    exact fr_vret hx hb hr hlocks h hH hK hX hS d_Store_keep_18
  · replace h := fr_ift c3 h
    refine lv_aload_n hx hb d_Store_keep_9 rfl (lv_at hl 0 rfl) ?_
    obtain ⟨v4, e4, h⟩ := fr_bind h
    refine fr_gI hx hb hts in_Store hown hK hH e4 rfl 2 (by decide) (hts _ k_84) (fun _ h9 => h9) rfl d_Store_keep_10 ?_
    refine lv_bipush (v := 10) hx hb d_Store_keep_13 (by decide) ?_
    refine lv_icmp_lt (tgt := 19) hx hb d_Store_keep_15 (by decide) (fun c5 => ?_) (fun c5 => ?_)
    · replace h := fr_ift c5 h
      refine lv_aload_n hx hb d_Store_keep_19 rfl (lv_at hl 0 rfl) ?_
      obtain ⟨q6, e6, h⟩ := fr_bind h
      refine fr_gP hx hb hts in_Store hown hK hH e6 rfl 0 (by decide) (hts _ k_81) (fun _ h9 => h9) rfl d_Store_keep_20 ?_
      refine lv_aload_n hx hb d_Store_keep_23 rfl (lv_at hl 0 rfl) ?_
      obtain ⟨v7, e7, h⟩ := fr_bind h
      refine fr_gI hx hb hts in_Store hown hK hH e7 rfl 2 (by decide) (hts _ k_84) (fun _ h9 => h9) rfl d_Store_keep_24 ?_
      refine lv_iload_n hx hb d_Store_keep_27 rfl (lv_at hl 1 rfl) ?_
      obtain ⟨σ_8, e8, h⟩ := fr_bind h
      refine fr_ist hx hb hK hH hS e8 d_Store_keep_28 (fun H locs hH hS => ?_)
      refine lv_aload_n hx hb d_Store_keep_29 rfl (lv_at hl 0 rfl) ?_
      obtain ⟨q9, e9, h⟩ := fr_bind h
      refine fr_gP hx hb hts in_Store hown hK hH e9 rfl 1 (by decide) (hts _ k_82) (fun _ h9 => h9) rfl d_Store_keep_30 ?_
      refine lv_aload_n hx hb d_Store_keep_33 rfl (lv_at hl 0 rfl) ?_
      obtain ⟨v10, e10, h⟩ := fr_bind h
      refine fr_gI hx hb hts in_Store hown hK hH e10 rfl 2 (by decide) (hts _ k_84) (fun _ h9 => h9) rfl d_Store_keep_34 ?_
      obtain ⟨q11, e11, h⟩ := fr_bind h
      refine fr_qld hx hb hK hH e11 (by decide) rfl d_Store_keep_37 ?_
      refine lv_aload_n hx hb d_Store_keep_38 rfl (lv_at hl 2 rfl) ?_
      obtain ⟨u12, e12, h⟩ := fr_bind h
      obtain ⟨σ_13, e13, h⟩ := fr_bind h
      refine fr_callv (fr_V (As := [.ref a2]) (rest := []) ⟨hx, hb, hml, hown, hts⟩ (c_Row_copyFrom l D T A σ_8 q11 a2 σ_13 e13) k_432 mv_Row_copyFrom rfl rfl ⟨Nat.le_of_ble_eq_true rfl, Nat.le_of_ble_eq_true rfl⟩ (fr_preV hK hX hH e12 rfl _) rfl hl.1 rfl (Nat.le_of_ble_eq_true rfl) d_Store_keep_39 ⟨Nat.zero_le _, Nat.zero_le _⟩) hS (fun H locs hH hS => ?_)
      refine lv_aload_n hx hb d_Store_keep_42 rfl (lv_at hl 0 rfl) ?_
      refine lv_dup hx hb d_Store_keep_43 rfl ?_
      obtain ⟨v14, e14, h⟩ := fr_bind h
      refine fr_gI hx hb hts in_Store hown hK hH e14 rfl 2 (by decide) (hts _ k_84) (fun _ h9 => h9) rfl d_Store_keep_44 ?_
      refine lv_iconst (v := 1) hx hb d_Store_keep_47 (by decide) ?_
      refine lv_iadd hx hb d_Store_keep_48 ?_
      obtain ⟨σ_15, e15, h⟩ := fr_bind h
      refine fr_putI hx hb hts in_Store ty_Store tk_Store nm_Store hown hK hH hS e15 rfl 2 (by decide) (hts _ k_84) (fun _ h9 => h9) rfl (by decide +kernel) (fs_5_2 _ _ _) (Nat.le_of_ble_eq_true rfl) d_Store_keep_49 (fun H locs hH hS => ?_)
      exact fr_vret hx hb hr hlocks h hH hK hX hS d_Store_keep_52
    · replace h := fr_iff c5 h
      exact fr_vret hx hb hr hlocks h hH hK hX hS d_Store_keep_18
set_option maxHeartbeats 4000000 in
set_option maxRecDepth 100000 in
theorem c_Tellings_tell (l : Launch) (D : va_G) (T : Nat → ClassId) (A : Nat → Prop) (σ : fr_S) (h0 : Nat) (x1 : Int32) (x2 : Int32) (x3 : Int32) (σ1 : fr_S) (h : m_Tellings_tell h0 x1 x2 x3 σ = some σ1) : Met l y_Tellings_tell (Cond.code y_Tellings_tell b_Tellings_tell 4 none :: fr_W) ({ frames := 0, cells := 0, slots := 0, locals := 0 } : Room) (va_Pc [.ref h0, .int x1, .int x2, .int x3] (fr_B D T A σ)) (fr_Qv D T A σ1) 0 0 A := by
  refine Met.ofW (cc := b_Tellings_tell) (maxL := 4) (ret := none) (by decide) rfl ?_
  intro p e s m args below meth c s₁ B hml hv
  obtain ⟨rfl, hH, hK, hX⟩ := hv
  have C0 : fr_At p s m _ meth c "FetchRules$Tellings" b_Tellings_tell 4 none := fr_at B hml
  obtain ⟨hx, hb, hr, hml, hown, hts, hlocks⟩ := id C0
  have hS : va_S A s.heap s.heap [] := va_S.rf
  have hl := lv_entry ([.ref h0, .int x1, .int x2, .int x3]) (n := 4) (Nat.le_of_ble_eq_true rfl)
  rw [lg_entry_eq]
  generalize (lg_sl ([.ref h0, .int x1, .int x2, .int x3]) ++ List.replicate (4 - (lg_sl ([.ref h0, .int x1, .int x2, .int x3])).length) Slot.unset).toArray = ls at hl ⊢
  have hl : lv_has ls 4 [(0, .ref h0), (1, .int x1), (2, .int x2), (3, .int x3)] := hl
  unfold m_Tellings_tell at h
  refine lv_aload_n hx hb d_Tellings_tell_0 rfl (lv_at hl 0 rfl) ?_
  obtain ⟨v1, e1, h⟩ := fr_bind h
  refine fr_gI hx hb hts in_Tellings hown hK hH e1 rfl 3 (by decide) (hts _ k_104) (fun _ h9 => h9) rfl d_Tellings_tell_1 ?_
  refine lv_bipush (v := 60) hx hb d_Tellings_tell_4 (by decide) ?_
  refine lv_icmp_lt (tgt := 10) hx hb d_Tellings_tell_6 (by decide) (fun c2 => ?_) (fun c2 => ?_)
  · replace h := fr_ift c2 h
    refine lv_aload_n hx hb d_Tellings_tell_10 rfl (lv_at hl 0 rfl) ?_
    obtain ⟨q3, e3, h⟩ := fr_bind h
    refine fr_gP hx hb hts in_Tellings hown hK hH e3 rfl 0 (by decide) (hts _ k_98) (fun _ h9 => h9) rfl d_Tellings_tell_11 ?_
    refine lv_aload_n hx hb d_Tellings_tell_14 rfl (lv_at hl 0 rfl) ?_
    obtain ⟨v4, e4, h⟩ := fr_bind h
    refine fr_gI hx hb hts in_Tellings hown hK hH e4 rfl 3 (by decide) (hts _ k_104) (fun _ h9 => h9) rfl d_Tellings_tell_15 ?_
    refine lv_iload_n hx hb d_Tellings_tell_18 rfl (lv_at hl 1 rfl) ?_
    obtain ⟨σ_5, e5, h⟩ := fr_bind h
    refine fr_ist hx hb hK hH hS e5 d_Tellings_tell_19 (fun H locs hH hS => ?_)
    refine lv_aload_n hx hb d_Tellings_tell_20 rfl (lv_at hl 0 rfl) ?_
    obtain ⟨q6, e6, h⟩ := fr_bind h
    refine fr_gP hx hb hts in_Tellings hown hK hH e6 rfl 1 (by decide) (hts _ k_100) (fun _ h9 => h9) rfl d_Tellings_tell_21 ?_
    refine lv_aload_n hx hb d_Tellings_tell_24 rfl (lv_at hl 0 rfl) ?_
    obtain ⟨v7, e7, h⟩ := fr_bind h
    refine fr_gI hx hb hts in_Tellings hown hK hH e7 rfl 3 (by decide) (hts _ k_104) (fun _ h9 => h9) rfl d_Tellings_tell_25 ?_
    refine lv_iload_n hx hb d_Tellings_tell_28 rfl (lv_at hl 2 rfl) ?_
    obtain ⟨σ_8, e8, h⟩ := fr_bind h
    refine fr_ist hx hb hK hH hS e8 d_Tellings_tell_29 (fun H locs hH hS => ?_)
    refine lv_aload_n hx hb d_Tellings_tell_30 rfl (lv_at hl 0 rfl) ?_
    obtain ⟨q9, e9, h⟩ := fr_bind h
    refine fr_gP hx hb hts in_Tellings hown hK hH e9 rfl 2 (by decide) (hts _ k_102) (fun _ h9 => h9) rfl d_Tellings_tell_31 ?_
    refine lv_aload_n hx hb d_Tellings_tell_34 rfl (lv_at hl 0 rfl) ?_
    obtain ⟨v10, e10, h⟩ := fr_bind h
    refine fr_gI hx hb hts in_Tellings hown hK hH e10 rfl 3 (by decide) (hts _ k_104) (fun _ h9 => h9) rfl d_Tellings_tell_35 ?_
    refine lv_iload_n hx hb d_Tellings_tell_38 rfl (lv_at hl 3 rfl) ?_
    obtain ⟨σ_11, e11, h⟩ := fr_bind h
    refine fr_ist hx hb hK hH hS e11 d_Tellings_tell_39 (fun H locs hH hS => ?_)
    refine lv_aload_n hx hb d_Tellings_tell_40 rfl (lv_at hl 0 rfl) ?_
    refine lv_dup hx hb d_Tellings_tell_41 rfl ?_
    obtain ⟨v12, e12, h⟩ := fr_bind h
    refine fr_gI hx hb hts in_Tellings hown hK hH e12 rfl 3 (by decide) (hts _ k_104) (fun _ h9 => h9) rfl d_Tellings_tell_42 ?_
    refine lv_iconst (v := 1) hx hb d_Tellings_tell_45 (by decide) ?_
    refine lv_iadd hx hb d_Tellings_tell_46 ?_
    obtain ⟨σ_13, e13, h⟩ := fr_bind h
    refine fr_putI hx hb hts in_Tellings ty_Tellings tk_Tellings nm_Tellings hown hK hH hS e13 rfl 3 (by decide) (hts _ k_104) (fun _ h9 => h9) rfl (by decide +kernel) (fs_6_3 _ _ _) (Nat.le_of_ble_eq_true rfl) d_Tellings_tell_47 (fun H locs hH hS => ?_)
    exact fr_vret hx hb hr hlocks h hH hK hX hS d_Tellings_tell_50
  · replace h := fr_iff c2 h
    exact fr_vret hx hb hr hlocks h hH hK hX hS d_Tellings_tell_9
