set_option maxHeartbeats 4000000 in
set_option maxRecDepth 100000 in
theorem w_Archive_strippedStart_L9 {p : Program} {l : Launch} {e : Env} {s : State} {m : MethodId} {args : Array Value} {below : List Frame} {meth : Method} {c : Code} {D : va_G} {T : Nat → ClassId} {A : Nat → Prop} (C0 : fr_At p s m args meth c "FetchRules$Archive" b_Archive_strippedStart 7 (some .int)) (hK : va_K D vwCl (fr_tys T) s) (hX : fr_X s) :
    ∀ (n : Nat) (b0 : Nat) (y2 : Int32) (y4 : Int32) (y5 : Int32) (y6 : Int32) (σ : fr_S) (r : Int32), m_Archive_strippedStart_L9 n b0 y2 y4 y5 y6 σ = some r → ∀ (H : Heap) (locs : List Loc), fr_H D T A σ H → va_S A s.heap H locs → ∀ (ls : Array Slot), lv_has ls 7 [(0, .ref b0), (2, .int y2), (4, .int y4), (5, .int y5), (6, .int y6)] → W p l e (headSpec (Cond.code y_Archive_strippedStart b_Archive_strippedStart 7 (some .int) :: fr_W) ({ frames := 1, cells := 0, slots := 0, locals := 21 } : Room)).room s m args below meth c H locs 0 0 (MQ below (fr_Qi D T A r σ) args s 0 0 A) (F0 m 9 ls []) := by
  obtain ⟨hx, hb, hr, hml, hown, hts, hlocks⟩ := id C0
  intro n
  induction n with
  | zero => intro b0 y2 y4 y5 y6 σ r h; cases h
  | succ n ih =>
    intro b0 y2 y4 y5 y6 σ r h H locs hH hS ls hl
    unfold m_Archive_strippedStart_L9 at h
    refine lv_iload hx hb d_Archive_strippedStart_9 (lv_at hl 4 rfl) ?_
    refine lv_iload_n hx hb d_Archive_strippedStart_11 rfl (lv_at hl 1 rfl) ?_
    refine lv_icmp_ge (tgt := 46) hx hb d_Archive_strippedStart_12 (by decide) (fun c1 => ?_) (fun c1 => ?_)
    · replace h := fr_ift c1 h
      refine lv_iload hx hb d_Archive_strippedStart_46 (lv_at hl 3 rfl) ?_
      refine lv_if_le (tgt := 55) hx hb d_Archive_strippedStart_48 (by decide) (fun c2 => ?_) (fun c2 => ?_)
      · replace h := fr_ift c2 h
        refine lv_iload hx hb d_Archive_strippedStart_55 (lv_at hl 2 rfl) ?_
        exact fr_iretO hx hb hr hlocks  h hH hK hX hS d_Archive_strippedStart_57
      · replace h := fr_iff c2 h
        refine lv_iload_n hx hb d_Archive_strippedStart_51 rfl (lv_at hl 1 rfl) ?_
        refine lv_goto (tgt := 57) hx hb d_Archive_strippedStart_52 (by decide) ?_
        exact fr_iretO hx hb hr hlocks  h hH hK hX hS d_Archive_strippedStart_57
    · replace h := fr_iff c1 h
      refine lv_iload hx hb d_Archive_strippedStart_15 (lv_at hl 3 rfl) ?_
      refine lv_if_le (tgt := 46) hx hb d_Archive_strippedStart_17 (by decide) (fun c3 => ?_) (fun c3 => ?_)
      · replace h := fr_ift c3 h
        refine lv_iload hx hb d_Archive_strippedStart_46 (lv_at hl 3 rfl) ?_
        refine lv_if_le (tgt := 55) hx hb d_Archive_strippedStart_48 (by decide) (fun c4 => ?_) (fun c4 => ?_)
        · replace h := fr_ift c4 h
          refine lv_iload hx hb d_Archive_strippedStart_55 (lv_at hl 2 rfl) ?_
          exact fr_iretO hx hb hr hlocks  h hH hK hX hS d_Archive_strippedStart_57
        · replace h := fr_iff c4 h
          refine lv_iload_n hx hb d_Archive_strippedStart_51 rfl (lv_at hl 1 rfl) ?_
          refine lv_goto (tgt := 57) hx hb d_Archive_strippedStart_52 (by decide) ?_
          exact fr_iretO hx hb hr hlocks  h hH hK hX hS d_Archive_strippedStart_57
      · replace h := fr_iff c3 h
        refine lv_aload_n hx hb d_Archive_strippedStart_20 rfl (lv_at hl 0 rfl) ?_
        refine lv_iload hx hb d_Archive_strippedStart_21 (lv_at hl 4 rfl) ?_
        obtain ⟨u5, e5, h⟩ := fr_bind h
        obtain ⟨r6, e6, h⟩ := fr_bind h
        refine fr_calli (fr_V (As := [.int y6]) (rest := []) ⟨hx, hb, hml, hown, hts⟩ (c_Row_at l D T A σ b0 y6 r6 e6) k_484 mv_Row_at rfl rfl ⟨Nat.le_of_ble_eq_true rfl, Nat.le_of_ble_eq_true rfl⟩ (fr_preV hK hX hH e5 rfl _) rfl hl.1 rfl (Nat.le_of_ble_eq_true rfl) d_Archive_strippedStart_23 ⟨Nat.zero_le _, Nat.zero_le _⟩) hS (fun H locs hH hS => ?_)
        refine lv_bipush (v := 47) hx hb d_Archive_strippedStart_26 (by decide) ?_
        refine lv_icmp_ne (tgt := 40) hx hb d_Archive_strippedStart_28 (by decide) (fun c7 => ?_) (fun c7 => ?_)
        · replace h := fr_iff c7 h
          refine lv_iinc (v := (y6 + 1)) (lv' := [(6, .int (y6 + 1)), (0, .ref b0), (2, .int y2), (4, .int y4), (5, .int y5)]) hx hb d_Archive_strippedStart_40 hl (k := 4) rfl rfl (by decide) rfl (fun ls hl => ?_)
          refine lv_goto (tgt := 9) hx hb d_Archive_strippedStart_43 (by decide) ?_
          exact ih b0 y2 y4 y5 (y6 + 1) σ r h _ _ hH hS ls (lv_sub hl [1, 2, 3, 4, 0] rfl)
        · replace h := fr_ift c7 h
          refine lv_iload hx hb d_Archive_strippedStart_31 (lv_at hl 4 rfl) ?_
          refine lv_iconst (v := 1) hx hb d_Archive_strippedStart_33 (by decide) ?_
          refine lv_iadd hx hb d_Archive_strippedStart_34 ?_
          refine lv_istore (lv' := [(4, .int (y6 + 1)), (0, .ref b0), (2, .int y2), (5, .int y5), (6, .int y6)]) hx hb d_Archive_strippedStart_35 hl (by decide) rfl (fun ls hl => ?_)
          refine lv_iinc (v := (y5 + (-1))) (lv' := [(5, .int (y5 + (-1))), (4, .int (y6 + 1)), (0, .ref b0), (2, .int y2), (6, .int y6)]) hx hb d_Archive_strippedStart_37 hl (k := 3) rfl rfl (by decide) rfl (fun ls hl => ?_)
          refine lv_iinc (v := (y6 + 1)) (lv' := [(6, .int (y6 + 1)), (5, .int (y5 + (-1))), (4, .int (y6 + 1)), (0, .ref b0), (2, .int y2)]) hx hb d_Archive_strippedStart_40 hl (k := 4) rfl rfl (by decide) rfl (fun ls hl => ?_)
          refine lv_goto (tgt := 9) hx hb d_Archive_strippedStart_43 (by decide) ?_
          exact ih b0 y2 (y6 + 1) (y5 + (-1)) (y6 + 1) σ r h _ _ hH hS ls (lv_sub hl [3, 4, 2, 1, 0] rfl)
set_option maxHeartbeats 4000000 in
set_option maxRecDepth 100000 in
theorem c_Archive_strippedStart (l : Launch) (D : va_G) (T : Nat → ClassId) (A : Nat → Prop) (σ : fr_S) (a0 : Nat) (x1 : Int32) (x2 : Int32) (x3 : Int32) (r : Int32) (h : m_Archive_strippedStart a0 x1 x2 x3 σ = some r) : Met l y_Archive_strippedStart (Cond.code y_Archive_strippedStart b_Archive_strippedStart 7 (some .int) :: fr_W) ({ frames := 1, cells := 0, slots := 0, locals := 21 } : Room) (va_Pc [.ref a0, .int x1, .int x2, .int x3] (fr_B D T A σ)) (fr_Qi D T A r σ) 0 0 A := by
  refine Met.ofW (cc := b_Archive_strippedStart) (maxL := 7) (ret := (some .int)) (by decide) rfl ?_
  intro p e s m args below meth c s₁ B hml hv
  obtain ⟨rfl, hH, hK, hX⟩ := hv
  have C0 : fr_At p s m _ meth c "FetchRules$Archive" b_Archive_strippedStart 7 (some .int) := fr_at B hml
  obtain ⟨hx, hb, hr, hml, hown, hts, hlocks⟩ := id C0
  have hS : va_S A s.heap s.heap [] := va_S.rf
  have hl := lv_entry ([.ref a0, .int x1, .int x2, .int x3]) (n := 7) (Nat.le_of_ble_eq_true rfl)
  rw [lg_entry_eq]
  generalize (lg_sl ([.ref a0, .int x1, .int x2, .int x3]) ++ List.replicate (7 - (lg_sl ([.ref a0, .int x1, .int x2, .int x3])).length) Slot.unset).toArray = ls at hl ⊢
  have hl : lv_has ls 7 [(0, .ref a0), (1, .int x1), (2, .int x2), (3, .int x3)] := hl
  unfold m_Archive_strippedStart at h
  refine lv_iload_n hx hb d_Archive_strippedStart_0 rfl (lv_at hl 1 rfl) ?_
  refine lv_istore (lv' := [(4, .int x1), (0, .ref a0), (1, .int x1), (2, .int x2), (3, .int x3)]) hx hb d_Archive_strippedStart_1 hl (by decide) rfl (fun ls hl => ?_)
  refine lv_iload_n hx hb d_Archive_strippedStart_3 rfl (lv_at hl 4 rfl) ?_
  refine lv_istore (lv' := [(5, .int x3), (4, .int x1), (0, .ref a0), (1, .int x1), (2, .int x2), (3, .int x3)]) hx hb d_Archive_strippedStart_4 hl (by decide) rfl (fun ls hl => ?_)
  refine lv_iload_n hx hb d_Archive_strippedStart_6 rfl (lv_at hl 3 rfl) ?_
  refine lv_istore (lv' := [(6, .int x1), (5, .int x3), (4, .int x1), (0, .ref a0), (1, .int x1), (2, .int x2), (3, .int x3)]) hx hb d_Archive_strippedStart_7 hl (by decide) rfl (fun ls hl => ?_)
  exact w_Archive_strippedStart_L9 C0 hK hX 1000 a0 x2 x1 x3 x1 σ r h _ _ hH hS ls (lv_sub hl [3, 5, 2, 1, 0] rfl)
set_option maxHeartbeats 4000000 in
set_option maxRecDepth 100000 in
theorem w_Row_hasSame_L3 {p : Program} {l : Launch} {e : Env} {s : State} {m : MethodId} {args : Array Value} {below : List Frame} {meth : Method} {c : Code} {D : va_G} {T : Nat → ClassId} {A : Nat → Prop} (C0 : fr_At p s m args meth c "FetchRules$Row" b_Row_hasSame 5 (some .boolean)) (hK : va_K D vwCl (fr_tys T) s) (hX : fr_X s) :
    ∀ (n : Nat) (b0 : Nat) (y1 : Int32) (y2 : Int32) (y3 : Int32) (y4 : Int32) (σ : fr_S) (r : Int32), m_Row_hasSame_L3 n b0 y1 y2 y3 y4 σ = some r → ∀ (H : Heap) (locs : List Loc), fr_H D T A σ H → va_S A s.heap H locs → ∀ (ls : Array Slot), lv_has ls 5 [(0, .ref b0), (1, .int y1), (2, .int y2), (3, .int y3), (4, .int y4)] → W p l e (headSpec (Cond.code y_Row_hasSame b_Row_hasSame 5 (some .boolean) :: fr_W) ({ frames := 1, cells := 0, slots := 0, locals := 21 } : Room)).room s m args below meth c H locs 0 0 (MQ below (fr_Qi D T A r σ) args s 0 0 A) (F0 m 3 ls []) := by
  obtain ⟨hx, hb, hr, hml, hown, hts, hlocks⟩ := id C0
  intro n
  induction n with
  | zero => intro b0 y1 y2 y3 y4 σ r h; cases h
  | succ n ih =>
    intro b0 y1 y2 y3 y4 σ r h H locs hH hS ls hl
    unfold m_Row_hasSame_L3 at h
    refine lv_iload hx hb d_Row_hasSame_3 (lv_at hl 4 rfl) ?_
    refine lv_iload_n hx hb d_Row_hasSame_5 rfl (lv_at hl 3 rfl) ?_
    refine lv_icmp_ge (tgt := 36) hx hb d_Row_hasSame_6 (by decide) (fun c1 => ?_) (fun c1 => ?_)
    · replace h := fr_ift c1 h
      refine lv_iconst (v := 1) hx hb d_Row_hasSame_36 (by decide) ?_
      exact fr_zretO hx hb hr hlocks (Or.inr rfl) h hH hK hX hS d_Row_hasSame_37
    · replace h := fr_iff c1 h
      refine lv_aload_n hx hb d_Row_hasSame_9 rfl (lv_at hl 0 rfl) ?_
      refine lv_iload_n hx hb d_Row_hasSame_10 rfl (lv_at hl 1 rfl) ?_
      refine lv_iload hx hb d_Row_hasSame_11 (lv_at hl 4 rfl) ?_
      refine lv_iadd hx hb d_Row_hasSame_13 ?_
      obtain ⟨u2, e2, h⟩ := fr_bind h
      obtain ⟨r3, e3, h⟩ := fr_bind h
      refine fr_calli (fr_V (As := [.int (y1 + y4)]) (rest := []) ⟨hx, hb, hml, hown, hts⟩ (c_Row_at l D T A σ b0 ((y1 + y4)) r3 e3) k_520 mv_Row_at rfl rfl ⟨Nat.le_of_ble_eq_true rfl, Nat.le_of_ble_eq_true rfl⟩ (fr_preV hK hX hH e2 rfl _) rfl hl.1 rfl (Nat.le_of_ble_eq_true rfl) d_Row_hasSame_14 ⟨Nat.zero_le _, Nat.zero_le _⟩) hS (fun H locs hH hS => ?_)
      refine lv_aload_n hx hb d_Row_hasSame_17 rfl (lv_at hl 0 rfl) ?_
      refine lv_iload_n hx hb d_Row_hasSame_18 rfl (lv_at hl 2 rfl) ?_
      refine lv_iload hx hb d_Row_hasSame_19 (lv_at hl 4 rfl) ?_
      refine lv_iadd hx hb d_Row_hasSame_21 ?_
      obtain ⟨u4, e4, h⟩ := fr_bind h
      obtain ⟨r5, e5, h⟩ := fr_bind h
      refine fr_calli (fr_V (As := [.int (y2 + y4)]) (rest := [.int r3]) ⟨hx, hb, hml, hown, hts⟩ (c_Row_at l D T A σ b0 ((y2 + y4)) r5 e5) k_520 mv_Row_at rfl rfl ⟨Nat.le_of_ble_eq_true rfl, Nat.le_of_ble_eq_true rfl⟩ (fr_preV hK hX hH e4 rfl _) rfl hl.1 rfl (Nat.le_of_ble_eq_true rfl) d_Row_hasSame_22 ⟨Nat.zero_le _, Nat.zero_le _⟩) hS (fun H locs hH hS => ?_)
      refine lv_icmp_eq (tgt := 30) hx hb d_Row_hasSame_25 (by decide) (fun c6 => ?_) (fun c6 => ?_)
      · replace h := fr_ift c6 h
        refine lv_iinc (v := (y4 + 1)) (lv' := [(4, .int (y4 + 1)), (0, .ref b0), (1, .int y1), (2, .int y2), (3, .int y3)]) hx hb d_Row_hasSame_30 hl (k := 4) rfl rfl (by decide) rfl (fun ls hl => ?_)
        refine lv_goto (tgt := 3) hx hb d_Row_hasSame_33 (by decide) ?_
        exact ih b0 y1 y2 y3 (y4 + 1) σ r h _ _ hH hS ls (lv_sub hl [1, 2, 3, 4, 0] rfl)
      · replace h := fr_iff c6 h
        refine lv_iconst (v := 0) hx hb d_Row_hasSame_28 (by decide) ?_
        exact fr_zretO hx hb hr hlocks (Or.inl rfl) h hH hK hX hS d_Row_hasSame_29
set_option maxHeartbeats 4000000 in
set_option maxRecDepth 100000 in
theorem c_Row_hasSame (l : Launch) (D : va_G) (T : Nat → ClassId) (A : Nat → Prop) (σ : fr_S) (h0 : Nat) (x1 : Int32) (x2 : Int32) (x3 : Int32) (r : Int32) (h : m_Row_hasSame h0 x1 x2 x3 σ = some r) : Met l y_Row_hasSame (Cond.code y_Row_hasSame b_Row_hasSame 5 (some .boolean) :: fr_W) ({ frames := 1, cells := 0, slots := 0, locals := 21 } : Room) (va_Pc [.ref h0, .int x1, .int x2, .int x3] (fr_B D T A σ)) (fr_Qi D T A r σ) 0 0 A := by
  refine Met.ofW (cc := b_Row_hasSame) (maxL := 5) (ret := (some .boolean)) (by decide) rfl ?_
  intro p e s m args below meth c s₁ B hml hv
  obtain ⟨rfl, hH, hK, hX⟩ := hv
  have C0 : fr_At p s m _ meth c "FetchRules$Row" b_Row_hasSame 5 (some .boolean) := fr_at B hml
  obtain ⟨hx, hb, hr, hml, hown, hts, hlocks⟩ := id C0
  have hS : va_S A s.heap s.heap [] := va_S.rf
  have hl := lv_entry ([.ref h0, .int x1, .int x2, .int x3]) (n := 5) (Nat.le_of_ble_eq_true rfl)
  rw [lg_entry_eq]
  generalize (lg_sl ([.ref h0, .int x1, .int x2, .int x3]) ++ List.replicate (5 - (lg_sl ([.ref h0, .int x1, .int x2, .int x3])).length) Slot.unset).toArray = ls at hl ⊢
  have hl : lv_has ls 5 [(0, .ref h0), (1, .int x1), (2, .int x2), (3, .int x3)] := hl
  unfold m_Row_hasSame at h
  refine lv_iconst (v := 0) hx hb d_Row_hasSame_0 (by decide) ?_
  refine lv_istore (lv' := [(4, .int 0), (0, .ref h0), (1, .int x1), (2, .int x2), (3, .int x3)]) hx hb d_Row_hasSame_1 hl (by decide) rfl (fun ls hl => ?_)
  exact w_Row_hasSame_L3 C0 hK hX 1000 h0 x1 x2 x3 0 σ r h _ _ hH hS ls (lv_sub hl [1, 2, 3, 4, 0] rfl)
set_option maxHeartbeats 4000000 in
set_option maxRecDepth 100000 in
theorem w_Files_findPath_L3 {p : Program} {l : Launch} {e : Env} {s : State} {m : MethodId} {args : Array Value} {below : List Frame} {meth : Method} {c : Code} {D : va_G} {T : Nat → ClassId} {A : Nat → Prop} (C0 : fr_At p s m args meth c "FetchRules$Files" b_Files_findPath 5 (some .int)) (hK : va_K D vwCl (fr_tys T) s) (hX : fr_X s) :
    ∀ (n : Nat) (b0 : Nat) (b1 : Nat) (y2 : Int32) (y3 : Int32) (y4 : Int32) (σ : fr_S) (r : Int32), m_Files_findPath_L3 n b0 b1 y2 y3 y4 σ = some r → ∀ (H : Heap) (locs : List Loc), fr_H D T A σ H → va_S A s.heap H locs → ∀ (ls : Array Slot), lv_has ls 5 [(0, .ref b0), (1, .ref b1), (2, .int y2), (3, .int y3), (4, .int y4)] → W p l e (headSpec (Cond.code y_Files_findPath b_Files_findPath 5 (some .int) :: fr_W) ({ frames := 2, cells := 0, slots := 0, locals := 45 } : Room)).room s m args below meth c H locs 0 0 (MQ below (fr_Qi D T A r σ) args s 0 0 A) (F0 m 3 ls []) := by
  obtain ⟨hx, hb, hr, hml, hown, hts, hlocks⟩ := id C0
  intro n
  induction n with
  | zero => intro b0 b1 y2 y3 y4 σ r h; cases h
  | succ n ih =>
    intro b0 b1 y2 y3 y4 σ r h H locs hH hS ls hl
    unfold m_Files_findPath_L3 at h
    refine lv_iload hx hb d_Files_findPath_3 (lv_at hl 4 rfl) ?_
    refine lv_aload_n hx hb d_Files_findPath_5 rfl (lv_at hl 0 rfl) ?_
    obtain ⟨v1, e1, h⟩ := fr_bind h
    refine fr_gI hx hb hts in_Files hown hK hH e1 rfl 4 (by decide) (hts _ k_128) (fun _ h9 => h9) rfl d_Files_findPath_6 ?_
    refine lv_icmp_ge (tgt := 48) hx hb d_Files_findPath_9 (by decide) (fun c2 => ?_) (fun c2 => ?_)
    · replace h := fr_ift c2 h
      refine lv_aload_n hx hb d_Files_findPath_48 rfl (lv_at hl 0 rfl) ?_
      obtain ⟨v3, e3, h⟩ := fr_bind h
      refine fr_gI hx hb hts in_Files hown hK hH e3 rfl 4 (by decide) (hts _ k_128) (fun _ h9 => h9) rfl d_Files_findPath_49 ?_
      exact fr_iretO hx hb hr hlocks  h hH hK hX hS d_Files_findPath_52
    · replace h := fr_iff c2 h
      refine lv_aload_n hx hb d_Files_findPath_12 rfl (lv_at hl 0 rfl) ?_
      obtain ⟨q4, e4, h⟩ := fr_bind h
      refine fr_gP hx hb hts in_Files hown hK hH e4 rfl 3 (by decide) (hts _ k_126) (fun _ h9 => h9) rfl d_Files_findPath_13 ?_
      refine lv_iload hx hb d_Files_findPath_16 (lv_at hl 4 rfl) ?_
      obtain ⟨v5, e5, h⟩ := fr_bind h
      refine fr_ild hx hb hK hH e5 d_Files_findPath_18 ?_
      refine lv_iload_n hx hb d_Files_findPath_19 rfl (lv_at hl 3 rfl) ?_
      refine lv_icmp_ne (tgt := 42) hx hb d_Files_findPath_20 (by decide) (fun c6 => ?_) (fun c6 => ?_)
      · replace h := fr_iff c6 h
        refine lv_iinc (v := (y4 + 1)) (lv' := [(4, .int (y4 + 1)), (0, .ref b0), (1, .ref b1), (2, .int y2), (3, .int y3)]) hx hb d_Files_findPath_42 hl (k := 4) rfl rfl (by decide) rfl (fun ls hl => ?_)
        refine lv_goto (tgt := 3) hx hb d_Files_findPath_45 (by decide) ?_
        exact ih b0 b1 y2 y3 (y4 + 1) σ r h _ _ hH hS ls (lv_sub hl [1, 2, 3, 4, 0] rfl)
      · replace h := fr_ift c6 h
        refine lv_aload_n hx hb d_Files_findPath_23 rfl (lv_at hl 1 rfl) ?_
        refine lv_aload_n hx hb d_Files_findPath_24 rfl (lv_at hl 0 rfl) ?_
        obtain ⟨q7, e7, h⟩ := fr_bind h
        refine fr_gP hx hb hts in_Files hown hK hH e7 rfl 2 (by decide) (hts _ k_124) (fun _ h9 => h9) rfl d_Files_findPath_25 ?_
        refine lv_iload hx hb d_Files_findPath_28 (lv_at hl 4 rfl) ?_
        obtain ⟨v8, e8, h⟩ := fr_bind h
        refine fr_ild hx hb hK hH e8 d_Files_findPath_30 ?_
        refine lv_iload_n hx hb d_Files_findPath_31 rfl (lv_at hl 2 rfl) ?_
        refine lv_iload_n hx hb d_Files_findPath_32 rfl (lv_at hl 3 rfl) ?_
        obtain ⟨u9, e9, h⟩ := fr_bind h
        obtain ⟨r10, e10, h⟩ := fr_bind h
        refine fr_calli (fr_V (As := [.int v8, .int y2, .int y3]) (rest := []) ⟨hx, hb, hml, hown, hts⟩ (c_Row_hasSame l D T A σ b1 v8 y2 y3 r10 e10) k_516 mv_Row_hasSame rfl rfl ⟨Nat.le_of_ble_eq_true rfl, Nat.le_of_ble_eq_true rfl⟩ (fr_preV hK hX hH e9 rfl _) rfl hl.1 rfl (Nat.le_of_ble_eq_true rfl) d_Files_findPath_33 ⟨Nat.zero_le _, Nat.zero_le _⟩) hS (fun H locs hH hS => ?_)
        refine lv_if_eq (tgt := 42) hx hb d_Files_findPath_36 (by decide) (fun c11 => ?_) (fun c11 => ?_)
        · replace h := fr_ift c11 h
          refine lv_iinc (v := (y4 + 1)) (lv' := [(4, .int (y4 + 1)), (0, .ref b0), (1, .ref b1), (2, .int y2), (3, .int y3)]) hx hb d_Files_findPath_42 hl (k := 4) rfl rfl (by decide) rfl (fun ls hl => ?_)
          refine lv_goto (tgt := 3) hx hb d_Files_findPath_45 (by decide) ?_
          exact ih b0 b1 y2 y3 (y4 + 1) σ r h _ _ hH hS ls (lv_sub hl [1, 2, 3, 4, 0] rfl)
        · replace h := fr_iff c11 h
          refine lv_iload hx hb d_Files_findPath_39 (lv_at hl 4 rfl) ?_
          exact fr_iretO hx hb hr hlocks  h hH hK hX hS d_Files_findPath_41
set_option maxHeartbeats 4000000 in
set_option maxRecDepth 100000 in
theorem c_Files_findPath (l : Launch) (D : va_G) (T : Nat → ClassId) (A : Nat → Prop) (σ : fr_S) (h0 : Nat) (a1 : Nat) (x2 : Int32) (x3 : Int32) (r : Int32) (h : m_Files_findPath h0 a1 x2 x3 σ = some r) : Met l y_Files_findPath (Cond.code y_Files_findPath b_Files_findPath 5 (some .int) :: fr_W) ({ frames := 2, cells := 0, slots := 0, locals := 45 } : Room) (va_Pc [.ref h0, .ref a1, .int x2, .int x3] (fr_B D T A σ)) (fr_Qi D T A r σ) 0 0 A := by
  refine Met.ofW (cc := b_Files_findPath) (maxL := 5) (ret := (some .int)) (by decide) rfl ?_
  intro p e s m args below meth c s₁ B hml hv
  obtain ⟨rfl, hH, hK, hX⟩ := hv
  have C0 : fr_At p s m _ meth c "FetchRules$Files" b_Files_findPath 5 (some .int) := fr_at B hml
  obtain ⟨hx, hb, hr, hml, hown, hts, hlocks⟩ := id C0
  have hS : va_S A s.heap s.heap [] := va_S.rf
  have hl := lv_entry ([.ref h0, .ref a1, .int x2, .int x3]) (n := 5) (Nat.le_of_ble_eq_true rfl)
  rw [lg_entry_eq]
  generalize (lg_sl ([.ref h0, .ref a1, .int x2, .int x3]) ++ List.replicate (5 - (lg_sl ([.ref h0, .ref a1, .int x2, .int x3])).length) Slot.unset).toArray = ls at hl ⊢
  have hl : lv_has ls 5 [(0, .ref h0), (1, .ref a1), (2, .int x2), (3, .int x3)] := hl
  unfold m_Files_findPath at h
  refine lv_iconst (v := 0) hx hb d_Files_findPath_0 (by decide) ?_
  refine lv_istore (lv' := [(4, .int 0), (0, .ref h0), (1, .ref a1), (2, .int x2), (3, .int x3)]) hx hb d_Files_findPath_1 hl (by decide) rfl (fun ls hl => ?_)
  exact w_Files_findPath_L3 C0 hK hX 1000 h0 a1 x2 x3 0 σ r h _ _ hH hS ls (lv_sub hl [1, 2, 3, 4, 0] rfl)
set_option maxHeartbeats 4000000 in
set_option maxRecDepth 100000 in
theorem c_Files_put (l : Launch) (D : va_G) (T : Nat → ClassId) (A : Nat → Prop) (σ : fr_S) (h0 : Nat) (a1 : Nat) (x2 : Int32) (x3 : Int32) (σ1 : fr_S) (h : m_Files_put h0 a1 x2 x3 σ = some σ1) : Met l y_Files_put (Cond.code y_Files_put b_Files_put 6 none :: fr_W) ({ frames := 3, cells := 0, slots := 0, locals := 69 } : Room) (va_Pc [.ref h0, .ref a1, .int x2, .int x3] (fr_B D T A σ)) (fr_Qv D T A σ1) 0 0 A := by
  refine Met.ofW (cc := b_Files_put) (maxL := 6) (ret := none) (by decide) rfl ?_
  intro p e s m args below meth c s₁ B hml hv
  obtain ⟨rfl, hH, hK, hX⟩ := hv
  have C0 : fr_At p s m _ meth c "FetchRules$Files" b_Files_put 6 none := fr_at B hml
  obtain ⟨hx, hb, hr, hml, hown, hts, hlocks⟩ := id C0
  have hS : va_S A s.heap s.heap [] := va_S.rf
  have hl := lv_entry ([.ref h0, .ref a1, .int x2, .int x3]) (n := 6) (Nat.le_of_ble_eq_true rfl)
  rw [lg_entry_eq]
  generalize (lg_sl ([.ref h0, .ref a1, .int x2, .int x3]) ++ List.replicate (6 - (lg_sl ([.ref h0, .ref a1, .int x2, .int x3])).length) Slot.unset).toArray = ls at hl ⊢
  have hl : lv_has ls 6 [(0, .ref h0), (1, .ref a1), (2, .int x2), (3, .int x3)] := hl
  unfold m_Files_put at h
  refine lv_iload_n hx hb d_Files_put_0 rfl (lv_at hl 3 rfl) ?_
  refine lv_iload_n hx hb d_Files_put_1 rfl (lv_at hl 2 rfl) ?_
  refine lv_isub hx hb d_Files_put_2 ?_
  refine lv_istore (lv' := [(4, .int (x3 - x2)), (0, .ref h0), (1, .ref a1), (2, .int x2), (3, .int x3)]) hx hb d_Files_put_3 hl (by decide) rfl (fun ls hl => ?_)
  refine lv_aload_n hx hb d_Files_put_5 rfl (lv_at hl 1 rfl) ?_
  refine lv_aload_n hx hb d_Files_put_6 rfl (lv_at hl 2 rfl) ?_
  refine lv_iload_n hx hb d_Files_put_7 rfl (lv_at hl 3 rfl) ?_
  refine lv_iload hx hb d_Files_put_8 (lv_at hl 0 rfl) ?_
  obtain ⟨u1, e1, h⟩ := fr_bind h
  obtain ⟨r2, e2, h⟩ := fr_bind h
  refine fr_calli (fr_V (As := [.ref a1, .int x2, .int (x3 - x2)]) (rest := []) ⟨hx, hb, hml, hown, hts⟩ (c_Files_findPath l D T A σ h0 a1 x2 ((x3 - x2)) r2 e2) k_512 mv_Files_findPath rfl rfl ⟨Nat.le_of_ble_eq_true rfl, Nat.le_of_ble_eq_true rfl⟩ (fr_preV hK hX hH e1 rfl _) rfl hl.1 rfl (Nat.le_of_ble_eq_true rfl) d_Files_put_10 ⟨Nat.zero_le _, Nat.zero_le _⟩) hS (fun H locs hH hS => ?_)
  refine lv_istore (lv' := [(5, .int r2), (4, .int (x3 - x2)), (0, .ref h0), (1, .ref a1), (2, .int x2), (3, .int x3)]) hx hb d_Files_put_13 hl (by decide) rfl (fun ls hl => ?_)
  refine lv_iload hx hb d_Files_put_15 (lv_at hl 0 rfl) ?_
  refine lv_bipush (v := 33) hx hb d_Files_put_17 (by decide) ?_
  refine lv_icmp_lt (tgt := 23) hx hb d_Files_put_19 (by decide) (fun c3 => ?_) (fun c3 => ?_)
  · replace h := fr_ift c3 h
    refine lv_iload hx hb d_Files_put_23 (lv_at hl 0 rfl) ?_
    refine lv_aload_n hx hb d_Files_put_25 rfl (lv_at hl 2 rfl) ?_
    obtain ⟨v4, e4, h⟩ := fr_bind h
    refine fr_gI hx hb hts in_Files hown hK hH e4 rfl 4 (by decide) (hts _ k_128) (fun _ h9 => h9) rfl d_Files_put_26 ?_
    refine lv_icmp_ne (tgt := 59) hx hb d_Files_put_29 (by decide) (fun c5 => ?_) (fun c5 => ?_)
    · replace h := fr_iff c5 h
      refine lv_aload_n hx hb d_Files_put_59 rfl (lv_at hl 2 rfl) ?_
      obtain ⟨q6, e6, h⟩ := fr_bind h
      refine fr_gP hx hb hts in_Files hown hK hH e6 rfl 0 (by decide) (hts _ k_120) (fun _ h9 => h9) rfl d_Files_put_60 ?_
      refine lv_iload hx hb d_Files_put_63 (lv_at hl 0 rfl) ?_
      refine lv_iload_n hx hb d_Files_put_65 rfl (lv_at hl 5 rfl) ?_
      refine lv_iconst (v := 1) hx hb d_Files_put_66 (by decide) ?_
      refine lv_iadd hx hb d_Files_put_67 ?_
      obtain ⟨σ_7, e7, h⟩ := fr_bind h
      refine fr_ist hx hb hK hH hS e7 d_Files_put_68 (fun H locs hH hS => ?_)
      refine lv_aload_n hx hb d_Files_put_69 rfl (lv_at hl 2 rfl) ?_
      obtain ⟨q8, e8, h⟩ := fr_bind h
      refine fr_gP hx hb hts in_Files hown hK hH e8 rfl 1 (by decide) (hts _ k_122) (fun _ h9 => h9) rfl d_Files_put_70 ?_
      refine lv_iload hx hb d_Files_put_73 (lv_at hl 0 rfl) ?_
      refine lv_aload_n hx hb d_Files_put_75 rfl (lv_at hl 3 rfl) ?_
      refine lv_iload_n hx hb d_Files_put_76 rfl (lv_at hl 5 rfl) ?_
      obtain ⟨u9, e9, h⟩ := fr_bind h
      obtain ⟨r10, e10, h⟩ := fr_bind h
      refine fr_calli (fr_V (As := [.int x3]) (rest := [.int r2, .ref q8]) ⟨hx, hb, hml, hown, hts⟩ (c_Row_at l D T A σ_7 a1 x3 r10 e10) k_521 mv_Row_at rfl rfl ⟨Nat.le_of_ble_eq_true rfl, Nat.le_of_ble_eq_true rfl⟩ (fr_preV hK hX hH e9 rfl _) rfl hl.1 rfl (Nat.le_of_ble_eq_true rfl) d_Files_put_77 ⟨Nat.zero_le _, Nat.zero_le _⟩) hS (fun H locs hH hS => ?_)
      obtain ⟨σ_11, e11, h⟩ := fr_bind h
      refine fr_ist hx hb hK hH hS e11 d_Files_put_80 (fun H locs hH hS => ?_)
      exact fr_vret hx hb hr hlocks h hH hK hX hS d_Files_put_81
    · replace h := fr_ift c5 h
      refine lv_aload_n hx hb d_Files_put_32 rfl (lv_at hl 2 rfl) ?_
      obtain ⟨q12, e12, h⟩ := fr_bind h
      refine fr_gP hx hb hts in_Files hown hK hH e12 rfl 2 (by decide) (hts _ k_124) (fun _ h9 => h9) rfl d_Files_put_33 ?_
      refine lv_iload hx hb d_Files_put_36 (lv_at hl 0 rfl) ?_
      refine lv_iload_n hx hb d_Files_put_38 rfl (lv_at hl 4 rfl) ?_
      obtain ⟨σ_13, e13, h⟩ := fr_bind h
      refine fr_ist hx hb hK hH hS e13 d_Files_put_39 (fun H locs hH hS => ?_)
      refine lv_aload_n hx hb d_Files_put_40 rfl (lv_at hl 2 rfl) ?_
      obtain ⟨q14, e14, h⟩ := fr_bind h
      refine fr_gP hx hb hts in_Files hown hK hH e14 rfl 3 (by decide) (hts _ k_126) (fun _ h9 => h9) rfl d_Files_put_41 ?_
      refine lv_iload hx hb d_Files_put_44 (lv_at hl 0 rfl) ?_
      refine lv_iload hx hb d_Files_put_46 (lv_at hl 1 rfl) ?_
      obtain ⟨σ_15, e15, h⟩ := fr_bind h
      refine fr_ist hx hb hK hH hS e15 d_Files_put_48 (fun H locs hH hS => ?_)
      refine lv_aload_n hx hb d_Files_put_49 rfl (lv_at hl 2 rfl) ?_
      refine lv_dup hx hb d_Files_put_50 rfl ?_
      obtain ⟨v16, e16, h⟩ := fr_bind h
      refine fr_gI hx hb hts in_Files hown hK hH e16 rfl 4 (by decide) (hts _ k_128) (fun _ h9 => h9) rfl d_Files_put_51 ?_
      refine lv_iconst (v := 1) hx hb d_Files_put_54 (by decide) ?_
      refine lv_iadd hx hb d_Files_put_55 ?_
      obtain ⟨σ_17, e17, h⟩ := fr_bind h
      refine fr_putI hx hb hts in_Files ty_Files tk_Files nm_Files hown hK hH hS e17 rfl 4 (by decide) (hts _ k_128) (fun _ h9 => h9) rfl (by decide +kernel) (fs_2_4 _ _ _) (Nat.le_of_ble_eq_true rfl) d_Files_put_56 (fun H locs hH hS => ?_)
      refine lv_aload_n hx hb d_Files_put_59 rfl (lv_at hl 2 rfl) ?_
      obtain ⟨q18, e18, h⟩ := fr_bind h
      refine fr_gP hx hb hts in_Files hown hK hH e18 rfl 0 (by decide) (hts _ k_120) (fun _ h9 => h9) rfl d_Files_put_60 ?_
      refine lv_iload hx hb d_Files_put_63 (lv_at hl 0 rfl) ?_
      refine lv_iload_n hx hb d_Files_put_65 rfl (lv_at hl 5 rfl) ?_
      refine lv_iconst (v := 1) hx hb d_Files_put_66 (by decide) ?_
      refine lv_iadd hx hb d_Files_put_67 ?_
      obtain ⟨σ_19, e19, h⟩ := fr_bind h
      refine fr_ist hx hb hK hH hS e19 d_Files_put_68 (fun H locs hH hS => ?_)
      refine lv_aload_n hx hb d_Files_put_69 rfl (lv_at hl 2 rfl) ?_
      obtain ⟨q20, e20, h⟩ := fr_bind h
      refine fr_gP hx hb hts in_Files hown hK hH e20 rfl 1 (by decide) (hts _ k_122) (fun _ h9 => h9) rfl d_Files_put_70 ?_
      refine lv_iload hx hb d_Files_put_73 (lv_at hl 0 rfl) ?_
      refine lv_aload_n hx hb d_Files_put_75 rfl (lv_at hl 3 rfl) ?_
      refine lv_iload_n hx hb d_Files_put_76 rfl (lv_at hl 5 rfl) ?_
      obtain ⟨u21, e21, h⟩ := fr_bind h
      obtain ⟨r22, e22, h⟩ := fr_bind h
      refine fr_calli (fr_V (As := [.int x3]) (rest := [.int r2, .ref q20]) ⟨hx, hb, hml, hown, hts⟩ (c_Row_at l D T A σ_19 a1 x3 r22 e22) k_521 mv_Row_at rfl rfl ⟨Nat.le_of_ble_eq_true rfl, Nat.le_of_ble_eq_true rfl⟩ (fr_preV hK hX hH e21 rfl _) rfl hl.1 rfl (Nat.le_of_ble_eq_true rfl) d_Files_put_77 ⟨Nat.zero_le _, Nat.zero_le _⟩) hS (fun H locs hH hS => ?_)
      obtain ⟨σ_23, e23, h⟩ := fr_bind h
      refine fr_ist hx hb hK hH hS e23 d_Files_put_80 (fun H locs hH hS => ?_)
      exact fr_vret hx hb hr hlocks h hH hK hX hS d_Files_put_81
  · replace h := fr_iff c3 h
    exact fr_vret hx hb hr hlocks h hH hK hX hS d_Files_put_22
set_option maxHeartbeats 4000000 in
set_option maxRecDepth 100000 in
theorem w_Files_fill_L10 {p : Program} {l : Launch} {e : Env} {s : State} {m : MethodId} {args : Array Value} {below : List Frame} {meth : Method} {c : Code} {D : va_G} {T : Nat → ClassId} {A : Nat → Prop} (C0 : fr_At p s m args meth c "FetchRules$Files" b_Files_fill 7 none) (hK : va_K D vwCl (fr_tys T) s) (hX : fr_X s) :
    ∀ (n : Nat) (b0 : Nat) (b1 : Nat) (y2 : Int32) (y3 : Int32) (y4 : Int32) (σ : fr_S) (σ1 : fr_S), m_Files_fill_L10 n b0 b1 y2 y3 y4 σ = some σ1 → ∀ (H : Heap) (locs : List Loc), fr_H D T A σ H → va_S A s.heap H locs → ∀ (ls : Array Slot), lv_has ls 7 [(0, .ref b0), (1, .ref b1), (2, .int y2), (3, .int y3), (4, .int y4)] → W p l e (headSpec (Cond.code y_Files_fill b_Files_fill 7 none :: fr_W) ({ frames := 4, cells := 0, slots := 0, locals := 94 } : Room)).room s m args below meth c H locs 0 0 (MQ below (fr_Qv D T A σ1) args s 0 0 A) (F0 m 10 ls []) := by
  obtain ⟨hx, hb, hr, hml, hown, hts, hlocks⟩ := id C0
  intro n
  induction n with
  | zero => intro b0 b1 y2 y3 y4 σ σ1 h; cases h
  | succ n ih =>
    intro b0 b1 y2 y3 y4 σ σ1 h H locs hH hS ls hl
    unfold m_Files_fill_L10 at h
    refine lv_iload hx hb d_Files_fill_10 (lv_at hl 4 rfl) ?_
    refine lv_bipush (v := 33) hx hb d_Files_fill_12 (by decide) ?_
    refine lv_icmp_ge (tgt := 72) hx hb d_Files_fill_14 (by decide) (fun c2 => ?_) (fun c2 => ?_)
    · replace h := fr_ift c2 h
      exact fr_vret hx hb hr hlocks h hH hK hX hS d_Files_fill_72
    · replace h := fr_iff c2 h
      refine lv_iload_n hx hb d_Files_fill_17 rfl (lv_at hl 3 rfl) ?_
      refine lv_aload_n hx hb d_Files_fill_18 rfl (lv_at hl 1 rfl) ?_
      obtain ⟨v3, e3, h⟩ := fr_bind h
      refine fr_gI hx hb hts in_Row hown hK hH e3 rfl 1 (by decide) (hts _ k_70) (fun _ h9 => h9) rfl d_Files_fill_19 ?_
      refine lv_icmp_ge (tgt := 72) hx hb d_Files_fill_22 (by decide) (fun c4 => ?_) (fun c4 => ?_)
      · replace h := fr_ift c4 h
        exact fr_vret hx hb hr hlocks h hH hK hX hS d_Files_fill_72
      · replace h := fr_iff c4 h
        refine lv_aload_n hx hb d_Files_fill_25 rfl (lv_at hl 1 rfl) ?_
        refine lv_iload_n hx hb d_Files_fill_26 rfl (lv_at hl 3 rfl) ?_
        obtain ⟨r5, e5, h⟩ := fr_bind h
        refine fr_calli (fr_Sc (As := [.ref b1, .int y3]) (rest := []) ⟨hx, hb, hml, hown, hts⟩ (c_Archive_pathEnd l D T A σ b1 y3 r5 e5) k_504 ms_Archive_pathEnd rfl rfl ⟨Nat.le_of_ble_eq_true rfl, Nat.le_of_ble_eq_true rfl⟩ (fr_preS hK hX hH _) rfl hl.1 rfl (Nat.le_of_ble_eq_true rfl) d_Files_fill_27 ⟨Nat.zero_le _, Nat.zero_le _⟩) hS (fun H locs hH hS => ?_)
        refine lv_istore (lv' := [(5, .int r5), (0, .ref b0), (1, .ref b1), (2, .int y2), (3, .int y3), (4, .int y4)]) hx hb d_Files_fill_30 hl (by decide) rfl (fun ls hl => ?_)
        refine lv_aload_n hx hb d_Files_fill_32 rfl (lv_at hl 2 rfl) ?_
        refine lv_iload_n hx hb d_Files_fill_33 rfl (lv_at hl 4 rfl) ?_
        refine lv_iconst (v := 1) hx hb d_Files_fill_34 (by decide) ?_
        refine lv_iadd hx hb d_Files_fill_35 ?_
        refine lv_iload hx hb d_Files_fill_36 (lv_at hl 0 rfl) ?_
        refine lv_iload_n hx hb d_Files_fill_38 rfl (lv_at hl 3 rfl) ?_
        obtain ⟨r6, e6, h⟩ := fr_bind h
        refine fr_calli (fr_Sc (As := [.ref b1, .int (y3 + 1), .int r5, .int y2]) (rest := []) ⟨hx, hb, hml, hown, hts⟩ (c_Archive_strippedStart l D T A σ b1 ((y3 + 1)) r5 y2 r6 e6) k_505 ms_Archive_strippedStart rfl rfl ⟨Nat.le_of_ble_eq_true rfl, Nat.le_of_ble_eq_true rfl⟩ (fr_preS hK hX hH _) rfl hl.1 rfl (Nat.le_of_ble_eq_true rfl) d_Files_fill_39 ⟨Nat.zero_le _, Nat.zero_le _⟩) hS (fun H locs hH hS => ?_)
        refine lv_istore (lv' := [(6, .int r6), (5, .int r5), (0, .ref b0), (1, .ref b1), (2, .int y2), (3, .int y3), (4, .int y4)]) hx hb d_Files_fill_42 hl (by decide) rfl (fun ls hl => ?_)
        refine lv_iload hx hb d_Files_fill_44 (lv_at hl 0 rfl) ?_
        refine lv_iload hx hb d_Files_fill_46 (lv_at hl 1 rfl) ?_
        refine lv_icmp_ge (tgt := 60) hx hb d_Files_fill_48 (by decide) (fun c7 => ?_) (fun c7 => ?_)
        · replace h := fr_ift c7 h
          refine lv_aload_n hx hb d_Files_fill_60 rfl (lv_at hl 3 rfl) ?_
          refine lv_iload_n hx hb d_Files_fill_61 rfl (lv_at hl 5 rfl) ?_
          obtain ⟨r8, e8, h⟩ := fr_bind h
          refine fr_calli (fr_Sc (As := [.ref b1, .int y3]) (rest := []) ⟨hx, hb, hml, hown, hts⟩ (c_Archive_entryEnd l D T A σ b1 y3 r8 e8) k_522 ms_Archive_entryEnd rfl rfl ⟨Nat.le_of_ble_eq_true rfl, Nat.le_of_ble_eq_true rfl⟩ (fr_preS hK hX hH _) rfl hl.1 rfl (Nat.le_of_ble_eq_true rfl) d_Files_fill_62 ⟨Nat.zero_le _, Nat.zero_le _⟩) hS (fun H locs hH hS => ?_)
          refine lv_istore_n (lv' := [(3, .int r8), (6, .int r6), (5, .int r5), (0, .ref b0), (1, .ref b1), (2, .int y2), (4, .int y4)]) hx hb d_Files_fill_65 rfl hl (by decide) rfl (fun ls hl => ?_)
          refine lv_iinc (v := (y4 + 1)) (lv' := [(4, .int (y4 + 1)), (3, .int r8), (6, .int r6), (5, .int r5), (0, .ref b0), (1, .ref b1), (2, .int y2)]) hx hb d_Files_fill_66 hl (k := 6) rfl rfl (by decide) rfl (fun ls hl => ?_)
          refine lv_goto (tgt := 10) hx hb d_Files_fill_69 (by decide) ?_
          exact ih b0 b1 y2 r8 (y4 + 1) σ σ1 h _ _ hH hS ls (lv_sub hl [4, 5, 6, 1, 0] rfl)
        · replace h := fr_iff c7 h
          refine lv_aload_n hx hb d_Files_fill_51 rfl (lv_at hl 2 rfl) ?_
          refine lv_aload_n hx hb d_Files_fill_52 rfl (lv_at hl 3 rfl) ?_
          refine lv_iload hx hb d_Files_fill_53 (lv_at hl 0 rfl) ?_
          refine lv_iload hx hb d_Files_fill_55 (lv_at hl 1 rfl) ?_
          obtain ⟨u9, e9, h⟩ := fr_bind h
          obtain ⟨σ_10, e10, h⟩ := fr_bind h
          refine fr_callv (fr_V (As := [.ref b1, .int r6, .int r5]) (rest := []) ⟨hx, hb, hml, hown, hts⟩ (c_Files_put l D T A σ b0 b1 r6 r5 σ_10 e10) k_508 mv_Files_put rfl rfl ⟨Nat.le_of_ble_eq_true rfl, Nat.le_of_ble_eq_true rfl⟩ (fr_preV hK hX hH e9 rfl _) rfl hl.1 rfl (Nat.le_of_ble_eq_true rfl) d_Files_fill_57 ⟨Nat.zero_le _, Nat.zero_le _⟩) hS (fun H locs hH hS => ?_)
          refine lv_aload_n hx hb d_Files_fill_60 rfl (lv_at hl 3 rfl) ?_
          refine lv_iload_n hx hb d_Files_fill_61 rfl (lv_at hl 5 rfl) ?_
          obtain ⟨r11, e11, h⟩ := fr_bind h
          refine fr_calli (fr_Sc (As := [.ref b1, .int y3]) (rest := []) ⟨hx, hb, hml, hown, hts⟩ (c_Archive_entryEnd l D T A σ_10 b1 y3 r11 e11) k_522 ms_Archive_entryEnd rfl rfl ⟨Nat.le_of_ble_eq_true rfl, Nat.le_of_ble_eq_true rfl⟩ (fr_preS hK hX hH _) rfl hl.1 rfl (Nat.le_of_ble_eq_true rfl) d_Files_fill_62 ⟨Nat.zero_le _, Nat.zero_le _⟩) hS (fun H locs hH hS => ?_)
          refine lv_istore_n (lv' := [(3, .int r11), (6, .int r6), (5, .int r5), (0, .ref b0), (1, .ref b1), (2, .int y2), (4, .int y4)]) hx hb d_Files_fill_65 rfl hl (by decide) rfl (fun ls hl => ?_)
          refine lv_iinc (v := (y4 + 1)) (lv' := [(4, .int (y4 + 1)), (3, .int r11), (6, .int r6), (5, .int r5), (0, .ref b0), (1, .ref b1), (2, .int y2)]) hx hb d_Files_fill_66 hl (k := 6) rfl rfl (by decide) rfl (fun ls hl => ?_)
          refine lv_goto (tgt := 10) hx hb d_Files_fill_69 (by decide) ?_
          exact ih b0 b1 y2 r11 (y4 + 1) σ_10 σ1 h _ _ hH hS ls (lv_sub hl [4, 5, 6, 1, 0] rfl)
set_option maxHeartbeats 4000000 in
set_option maxRecDepth 100000 in
theorem c_Files_fill (l : Launch) (D : va_G) (T : Nat → ClassId) (A : Nat → Prop) (σ : fr_S) (h0 : Nat) (a1 : Nat) (x2 : Int32) (σ1 : fr_S) (h : m_Files_fill h0 a1 x2 σ = some σ1) : Met l y_Files_fill (Cond.code y_Files_fill b_Files_fill 7 none :: fr_W) ({ frames := 4, cells := 0, slots := 0, locals := 94 } : Room) (va_Pc [.ref h0, .ref a1, .int x2] (fr_B D T A σ)) (fr_Qv D T A σ1) 0 0 A := by
  refine Met.ofW (cc := b_Files_fill) (maxL := 7) (ret := none) (by decide) rfl ?_
  intro p e s m args below meth c s₁ B hml hv
  obtain ⟨rfl, hH, hK, hX⟩ := hv
  have C0 : fr_At p s m _ meth c "FetchRules$Files" b_Files_fill 7 none := fr_at B hml
  obtain ⟨hx, hb, hr, hml, hown, hts, hlocks⟩ := id C0
  have hS : va_S A s.heap s.heap [] := va_S.rf
  have hl := lv_entry ([.ref h0, .ref a1, .int x2]) (n := 7) (Nat.le_of_ble_eq_true rfl)
  rw [lg_entry_eq]
  generalize (lg_sl ([.ref h0, .ref a1, .int x2]) ++ List.replicate (7 - (lg_sl ([.ref h0, .ref a1, .int x2])).length) Slot.unset).toArray = ls at hl ⊢
  have hl : lv_has ls 7 [(0, .ref h0), (1, .ref a1), (2, .int x2)] := hl
  unfold m_Files_fill at h
  refine lv_aload_n hx hb d_Files_fill_0 rfl (lv_at hl 0 rfl) ?_
  refine lv_iconst (v := 0) hx hb d_Files_fill_1 (by decide) ?_
  obtain ⟨σ_1, e1, h⟩ := fr_bind h
  refine fr_putI hx hb hts in_Files ty_Files tk_Files nm_Files hown hK hH hS e1 rfl 4 (by decide) (hts _ k_128) (fun _ h9 => h9) rfl (by decide +kernel) (fs_2_4 _ _ _) (Nat.le_of_ble_eq_true rfl) d_Files_fill_2 (fun H locs hH hS => ?_)
  refine lv_iconst (v := 0) hx hb d_Files_fill_5 (by decide) ?_
  refine lv_istore_n (lv' := [(3, .int 0), (0, .ref h0), (1, .ref a1), (2, .int x2)]) hx hb d_Files_fill_6 rfl hl (by decide) rfl (fun ls hl => ?_)
  refine lv_iconst (v := 0) hx hb d_Files_fill_7 (by decide) ?_
  refine lv_istore (lv' := [(4, .int 0), (3, .int 0), (0, .ref h0), (1, .ref a1), (2, .int x2)]) hx hb d_Files_fill_8 hl (by decide) rfl (fun ls hl => ?_)
  exact w_Files_fill_L10 C0 hK hX 1000 h0 a1 x2 0 0 σ_1 σ1 h _ _ hH hS ls (lv_sub hl [2, 3, 4, 1, 0] rfl)
set_option maxHeartbeats 4000000 in
set_option maxRecDepth 100000 in
theorem c_FR_unpack (l : Launch) (D : va_G) (T : Nat → ClassId) (A : Nat → Prop) (σ : fr_S) (h0 : Nat) (x1 : Int32) (x2 : Int32) (r : Int32) (σ1 : fr_S) (h : m_FR_unpack h0 x1 x2 σ = some (r, σ1)) : Met l y_FR_unpack (Cond.code y_FR_unpack b_FR_unpack 5 (some .int) :: fr_W) ({ frames := 5, cells := 0, slots := 0, locals := 120 } : Room) (va_Pc [.ref h0, .int x1, .int x2] (fr_B D T A σ)) (fr_Qi D T A r σ1) 0 0 A := by
  refine Met.ofW (cc := b_FR_unpack) (maxL := 5) (ret := (some .int)) (by decide) rfl ?_
  intro p e s m args below meth c s₁ B hml hv
  obtain ⟨rfl, hH, hK, hX⟩ := hv
  have C0 : fr_At p s m _ meth c "FetchRules" b_FR_unpack 5 (some .int) := fr_at B hml
  obtain ⟨hx, hb, hr, hml, hown, hts, hlocks⟩ := id C0
  have hS : va_S A s.heap s.heap [] := va_S.rf
  have hl := lv_entry ([.ref h0, .int x1, .int x2]) (n := 5) (Nat.le_of_ble_eq_true rfl)
  rw [lg_entry_eq]
  generalize (lg_sl ([.ref h0, .int x1, .int x2]) ++ List.replicate (5 - (lg_sl ([.ref h0, .int x1, .int x2])).length) Slot.unset).toArray = ls at hl ⊢
  have hl : lv_has ls 5 [(0, .ref h0), (1, .int x1), (2, .int x2)] := hl
  unfold m_FR_unpack at h
  refine lv_aload_n hx hb d_FR_unpack_0 rfl (lv_at hl 0 rfl) ?_
  refine lv_iload_n hx hb d_FR_unpack_1 rfl (lv_at hl 1 rfl) ?_
  obtain ⟨u1, e1, h⟩ := fr_bind h
  obtain ⟨r2, e2, h⟩ := fr_bind h
  refine fr_calli (fr_V (As := [.int x1]) (rest := []) ⟨hx, hb, hml, hown, hts⟩ (c_FR_isWant l D T A σ h0 x1 r2 e2) k_330 mv_FR_isWant rfl rfl ⟨Nat.le_of_ble_eq_true rfl, Nat.le_of_ble_eq_true rfl⟩ (fr_preV hK hX hH e1 rfl _) rfl hl.1 rfl (Nat.le_of_ble_eq_true rfl) d_FR_unpack_2 ⟨Nat.zero_le _, Nat.zero_le _⟩) hS (fun H locs hH hS => ?_)
  refine lv_if_eq (tgt := 30) hx hb d_FR_unpack_5 (by decide) (fun c3 => ?_) (fun c3 => ?_)
  · replace h := fr_ift c3 h
    refine lv_sipush (v := (-1000)) hx hb d_FR_unpack_30 (by decide) ?_
    exact fr_iret hx hb hr hlocks  h hH hK hX hS d_FR_unpack_33
  · replace h := fr_iff c3 h
    refine lv_aload_n hx hb d_FR_unpack_8 rfl (lv_at hl 0 rfl) ?_
    obtain ⟨q4, e4, h⟩ := fr_bind h
    refine fr_gP hx hb hts in_FR hown hK hH e4 rfl 5 (by decide) (hts _ k_244) (fun _ h9 => h9) rfl d_FR_unpack_9 ?_
    refine lv_iload_n hx hb d_FR_unpack_12 rfl (lv_at hl 1 rfl) ?_
    obtain ⟨q5, e5, h⟩ := fr_bind h
    refine fr_qld hx hb hK hH e5 (by decide) rfl d_FR_unpack_13 ?_
    obtain ⟨v6, e6, h⟩ := fr_bind h
    refine fr_gI hx hb hts in_Want hown hK hH e6 rfl 4 (by decide) (hts _ k_211) (fun _ h9 => h9) rfl d_FR_unpack_14 ?_
    refine lv_iconst (v := 3) hx hb d_FR_unpack_17 (by decide) ?_
    refine lv_icmp_ne (tgt := 30) hx hb d_FR_unpack_18 (by decide) (fun c7 => ?_) (fun c7 => ?_)
    · replace h := fr_iff c7 h
      refine lv_sipush (v := (-1000)) hx hb d_FR_unpack_30 (by decide) ?_
      exact fr_iret hx hb hr hlocks  h hH hK hX hS d_FR_unpack_33
    · replace h := fr_ift c7 h
      refine lv_iload_n hx hb d_FR_unpack_21 rfl (lv_at hl 2 rfl) ?_
      refine lv_if_lt (tgt := 30) hx hb d_FR_unpack_22 (by decide) (fun c8 => ?_) (fun c8 => ?_)
      · replace h := fr_ift c8 h
        refine lv_sipush (v := (-1000)) hx hb d_FR_unpack_30 (by decide) ?_
        exact fr_iret hx hb hr hlocks  h hH hK hX hS d_FR_unpack_33
      · replace h := fr_iff c8 h
        refine lv_iload_n hx hb d_FR_unpack_25 rfl (lv_at hl 2 rfl) ?_
        refine lv_iconst (v := 5) hx hb d_FR_unpack_26 (by decide) ?_
        refine lv_icmp_le (tgt := 34) hx hb d_FR_unpack_27 (by decide) (fun c9 => ?_) (fun c9 => ?_)
        · replace h := fr_ift c9 h
          refine lv_aload_n hx hb d_FR_unpack_34 rfl (lv_at hl 0 rfl) ?_
          obtain ⟨q10, e10, h⟩ := fr_bind h
          refine fr_gP hx hb hts in_FR hown hK hH e10 rfl 5 (by decide) (hts _ k_244) (fun _ h9 => h9) rfl d_FR_unpack_35 ?_
          refine lv_iload_n hx hb d_FR_unpack_38 rfl (lv_at hl 1 rfl) ?_
          obtain ⟨q11, e11, h⟩ := fr_bind h
          refine fr_qld hx hb hK hH e11 (by decide) rfl d_FR_unpack_39 ?_
          obtain ⟨q12, e12, h⟩ := fr_bind h
          refine fr_gP hx hb hts in_Want hown hK hH e12 rfl 0 (by decide) (hts _ k_203) (fun _ h9 => h9) rfl d_FR_unpack_40 ?_
          refine lv_astore_n (lv' := [(3, .ref q12), (0, .ref h0), (1, .int x1), (2, .int x2)]) hx hb d_FR_unpack_43 rfl hl (by decide) rfl (fun ls hl => ?_)
          refine lv_aload_n hx hb d_FR_unpack_44 rfl (lv_at hl 0 rfl) ?_
          obtain ⟨r13, e13, h⟩ := fr_bind h
          refine fr_calli (fr_Sc (As := [.ref q12]) (rest := []) ⟨hx, hb, hml, hown, hts⟩ (c_Archive_findIll l D T A σ q12 r13 e13) k_478 ms_Archive_findIll rfl rfl ⟨Nat.le_of_ble_eq_true rfl, Nat.le_of_ble_eq_true rfl⟩ (fr_preS hK hX hH _) rfl hl.1 rfl (Nat.le_of_ble_eq_true rfl) d_FR_unpack_45 ⟨Nat.zero_le _, Nat.zero_le _⟩) hS (fun H locs hH hS => ?_)
          refine lv_istore (lv' := [(4, .int r13), (3, .ref q12), (0, .ref h0), (1, .int x1), (2, .int x2)]) hx hb d_FR_unpack_48 hl (by decide) rfl (fun ls hl => ?_)
          refine lv_iload hx hb d_FR_unpack_50 (lv_at hl 0 rfl) ?_
          refine lv_iconst (v := (-1)) hx hb d_FR_unpack_52 (by decide) ?_
          refine lv_icmp_eq (tgt := 61) hx hb d_FR_unpack_53 (by decide) (fun c14 => ?_) (fun c14 => ?_)
          · replace h := fr_ift c14 h
            refine lv_aload_n hx hb d_FR_unpack_61 rfl (lv_at hl 2 rfl) ?_
            obtain ⟨q15, e15, h⟩ := fr_bind h
            refine fr_gP hx hb hts in_FR hown hK hH e15 rfl 11 (by decide) (hts _ k_250) (fun _ h9 => h9) rfl d_FR_unpack_62 ?_
            refine lv_aload_n hx hb d_FR_unpack_65 rfl (lv_at hl 1 rfl) ?_
            refine lv_iload_n hx hb d_FR_unpack_66 rfl (lv_at hl 4 rfl) ?_
            obtain ⟨u16, e16, h⟩ := fr_bind h
            obtain ⟨σ_17, e17, h⟩ := fr_bind h
            refine fr_callv (fr_V (As := [.ref q12, .int x2]) (rest := []) ⟨hx, hb, hml, hown, hts⟩ (c_Files_fill l D T A σ q15 q12 x2 σ_17 e17) k_500 mv_Files_fill rfl rfl ⟨Nat.le_of_ble_eq_true rfl, Nat.le_of_ble_eq_true rfl⟩ (fr_preV hK hX hH e16 rfl _) rfl hl.1 rfl (Nat.le_of_ble_eq_true rfl) d_FR_unpack_67 ⟨Nat.zero_le _, Nat.zero_le _⟩) hS (fun H locs hH hS => ?_)
            refine lv_aload_n hx hb d_FR_unpack_70 rfl (lv_at hl 2 rfl) ?_
            obtain ⟨q18, e18, h⟩ := fr_bind h
            refine fr_gP hx hb hts in_FR hown hK hH e18 rfl 11 (by decide) (hts _ k_250) (fun _ h9 => h9) rfl d_FR_unpack_71 ?_
            obtain ⟨v19, e19, h⟩ := fr_bind h
            refine fr_gI hx hb hts in_Files hown hK hH e19 rfl 4 (by decide) (hts _ k_129) (fun _ h9 => h9) rfl d_FR_unpack_74 ?_
            exact fr_iret hx hb hr hlocks  h hH hK hX hS d_FR_unpack_77
          · replace h := fr_iff c14 h
            refine lv_iconst (v := (-1)) hx hb d_FR_unpack_56 (by decide) ?_
            refine lv_iload hx hb d_FR_unpack_57 (lv_at hl 0 rfl) ?_
            refine lv_isub hx hb d_FR_unpack_59 ?_
            exact fr_iret hx hb hr hlocks  h hH hK hX hS d_FR_unpack_60
        · replace h := fr_iff c9 h
          refine lv_sipush (v := (-1000)) hx hb d_FR_unpack_30 (by decide) ?_
          exact fr_iret hx hb hr hlocks  h hH hK hX hS d_FR_unpack_33
set_option maxHeartbeats 4000000 in
set_option maxRecDepth 100000 in
theorem c_Files_has (l : Launch) (D : va_G) (T : Nat → ClassId) (A : Nat → Prop) (σ : fr_S) (h0 : Nat) (x1 : Int32) (r : Int32) (h : m_Files_has h0 x1 σ = some r) : Met l y_Files_has (Cond.code y_Files_has b_Files_has 2 (some .boolean) :: fr_W) ({ frames := 0, cells := 0, slots := 0, locals := 0 } : Room) (va_Pc [.ref h0, .int x1] (fr_B D T A σ)) (fr_Qi D T A r σ) 0 0 A := by
  refine Met.ofW (cc := b_Files_has) (maxL := 2) (ret := (some .boolean)) (by decide) rfl ?_
  intro p e s m args below meth c s₁ B hml hv
  obtain ⟨rfl, hH, hK, hX⟩ := hv
  have C0 : fr_At p s m _ meth c "FetchRules$Files" b_Files_has 2 (some .boolean) := fr_at B hml
  obtain ⟨hx, hb, hr, hml, hown, hts, hlocks⟩ := id C0
  have hS : va_S A s.heap s.heap [] := va_S.rf
  have hl := lv_entry ([.ref h0, .int x1]) (n := 2) (Nat.le_of_ble_eq_true rfl)
  rw [lg_entry_eq]
  generalize (lg_sl ([.ref h0, .int x1]) ++ List.replicate (2 - (lg_sl ([.ref h0, .int x1])).length) Slot.unset).toArray = ls at hl ⊢
  have hl : lv_has ls 2 [(0, .ref h0), (1, .int x1)] := hl
  unfold m_Files_has at h
  refine lv_iload_n hx hb d_Files_has_0 rfl (lv_at hl 1 rfl) ?_
  refine lv_if_lt (tgt := 16) hx hb d_Files_has_1 (by decide) (fun c1 => ?_) (fun c1 => ?_)
  · replace h := fr_ift c1 h
    refine lv_iconst (v := 0) hx hb d_Files_has_16 (by decide) ?_
    exact fr_zretO hx hb hr hlocks (Or.inl rfl) h hH hK hX hS d_Files_has_17
  · replace h := fr_iff c1 h
    refine lv_iload_n hx hb d_Files_has_4 rfl (lv_at hl 1 rfl) ?_
    refine lv_aload_n hx hb d_Files_has_5 rfl (lv_at hl 0 rfl) ?_
    obtain ⟨v2, e2, h⟩ := fr_bind h
    refine fr_gI hx hb hts in_Files hown hK hH e2 rfl 4 (by decide) (hts _ k_128) (fun _ h9 => h9) rfl d_Files_has_6 ?_
    refine lv_icmp_ge (tgt := 16) hx hb d_Files_has_9 (by decide) (fun c3 => ?_) (fun c3 => ?_)
    · replace h := fr_ift c3 h
      refine lv_iconst (v := 0) hx hb d_Files_has_16 (by decide) ?_
      exact fr_zretO hx hb hr hlocks (Or.inl rfl) h hH hK hX hS d_Files_has_17
    · replace h := fr_iff c3 h
      refine lv_iconst (v := 1) hx hb d_Files_has_12 (by decide) ?_
      refine lv_goto (tgt := 17) hx hb d_Files_has_13 (by decide) ?_
      exact fr_zretO hx hb hr hlocks (Or.inr rfl) h hH hK hX hS d_Files_has_17
set_option maxHeartbeats 4000000 in
set_option maxRecDepth 100000 in
theorem c_FR_file (l : Launch) (D : va_G) (T : Nat → ClassId) (A : Nat → Prop) (σ : fr_S) (h0 : Nat) (x1 : Int32) (x2 : Int32) (r : Int32) (h : m_FR_file h0 x1 x2 σ = some r) : Met l y_FR_file (Cond.code y_FR_file b_FR_file 3 (some .int) :: fr_W) ({ frames := 1, cells := 0, slots := 0, locals := 21 } : Room) (va_Pc [.ref h0, .int x1, .int x2] (fr_B D T A σ)) (fr_Qi D T A r σ) 0 0 A := by
  refine Met.ofW (cc := b_FR_file) (maxL := 3) (ret := (some .int)) (by decide) rfl ?_
  intro p e s m args below meth c s₁ B hml hv
  obtain ⟨rfl, hH, hK, hX⟩ := hv
  have C0 : fr_At p s m _ meth c "FetchRules" b_FR_file 3 (some .int) := fr_at B hml
  obtain ⟨hx, hb, hr, hml, hown, hts, hlocks⟩ := id C0
  have hS : va_S A s.heap s.heap [] := va_S.rf
  have hl := lv_entry ([.ref h0, .int x1, .int x2]) (n := 3) (Nat.le_of_ble_eq_true rfl)
  rw [lg_entry_eq]
  generalize (lg_sl ([.ref h0, .int x1, .int x2]) ++ List.replicate (3 - (lg_sl ([.ref h0, .int x1, .int x2])).length) Slot.unset).toArray = ls at hl ⊢
  have hl : lv_has ls 3 [(0, .ref h0), (1, .int x1), (2, .int x2)] := hl
  unfold m_FR_file at h
  refine lv_aload_n hx hb d_FR_file_0 rfl (lv_at hl 0 rfl) ?_
  obtain ⟨q1, e1, h⟩ := fr_bind h
  refine fr_gP hx hb hts in_FR hown hK hH e1 rfl 11 (by decide) (hts _ k_250) (fun _ h9 => h9) rfl d_FR_file_1 ?_
  refine lv_iload_n hx hb d_FR_file_4 rfl (lv_at hl 1 rfl) ?_
  obtain ⟨u2, e2, h⟩ := fr_bind h
  obtain ⟨r3, e3, h⟩ := fr_bind h
  refine fr_calli (fr_V (As := [.int x1]) (rest := []) ⟨hx, hb, hml, hown, hts⟩ (c_Files_has l D T A σ q1 x1 r3 e3) k_527 mv_Files_has rfl rfl ⟨Nat.le_of_ble_eq_true rfl, Nat.le_of_ble_eq_true rfl⟩ (fr_preV hK hX hH e2 rfl _) rfl hl.1 rfl (Nat.le_of_ble_eq_true rfl) d_FR_file_5 ⟨Nat.zero_le _, Nat.zero_le _⟩) hS (fun H locs hH hS => ?_)
  refine lv_if_ne (tgt := 13) hx hb d_FR_file_8 (by decide) (fun c4 => ?_) (fun c4 => ?_)
  · replace h := fr_iff c4 h
    refine lv_iload_n hx hb d_FR_file_13 rfl (lv_at hl 2 rfl) ?_
    by_cases c5 : x2 = 0
    · replace h := fr_ift c5 h
      refine lv_tableIn (tgt := 44) hx hb d_FR_file_14 (by rw [c5]; decide) (by rw [c5]; decide) (by rw [c5]; rfl) (by decide) ?_
      refine lv_aload_n hx hb d_FR_file_44 rfl (lv_at hl 0 rfl) ?_
      obtain ⟨q6, e6, h⟩ := fr_bind h
      refine fr_gP hx hb hts in_FR hown hK hH e6 rfl 11 (by decide) (hts _ k_250) (fun _ h9 => h9) rfl d_FR_file_45 ?_
      obtain ⟨q7, e7, h⟩ := fr_bind h
      refine fr_gP hx hb hts in_Files hown hK hH e7 rfl 0 (by decide) (hts _ k_121) (fun _ h9 => h9) rfl d_FR_file_48 ?_
      refine lv_iload_n hx hb d_FR_file_51 rfl (lv_at hl 1 rfl) ?_
      obtain ⟨v8, e8, h⟩ := fr_bind h
      refine fr_ild hx hb hK hH e8 d_FR_file_52 ?_
      exact fr_iretO hx hb hr hlocks  h hH hK hX hS d_FR_file_53
    · replace h := fr_iff c5 h
      by_cases c9 : x2 = 1
      · replace h := fr_ift c9 h
        refine lv_tableIn (tgt := 54) hx hb d_FR_file_14 (by rw [c9]; decide) (by rw [c9]; decide) (by rw [c9]; rfl) (by decide) ?_
        refine lv_aload_n hx hb d_FR_file_54 rfl (lv_at hl 0 rfl) ?_
        obtain ⟨q10, e10, h⟩ := fr_bind h
        refine fr_gP hx hb hts in_FR hown hK hH e10 rfl 11 (by decide) (hts _ k_250) (fun _ h9 => h9) rfl d_FR_file_55 ?_
        obtain ⟨q11, e11, h⟩ := fr_bind h
        refine fr_gP hx hb hts in_Files hown hK hH e11 rfl 1 (by decide) (hts _ k_123) (fun _ h9 => h9) rfl d_FR_file_58 ?_
        refine lv_iload_n hx hb d_FR_file_61 rfl (lv_at hl 1 rfl) ?_
        obtain ⟨v12, e12, h⟩ := fr_bind h
        refine fr_ild hx hb hK hH e12 d_FR_file_62 ?_
        exact fr_iretO hx hb hr hlocks  h hH hK hX hS d_FR_file_63
      · replace h := fr_iff c9 h
        by_cases c13 : x2 = 2
        · replace h := fr_ift c13 h
          refine lv_tableIn (tgt := 64) hx hb d_FR_file_14 (by rw [c13]; decide) (by rw [c13]; decide) (by rw [c13]; rfl) (by decide) ?_
          refine lv_aload_n hx hb d_FR_file_64 rfl (lv_at hl 0 rfl) ?_
          obtain ⟨q14, e14, h⟩ := fr_bind h
          refine fr_gP hx hb hts in_FR hown hK hH e14 rfl 11 (by decide) (hts _ k_250) (fun _ h9 => h9) rfl d_FR_file_65 ?_
          obtain ⟨q15, e15, h⟩ := fr_bind h
          refine fr_gP hx hb hts in_Files hown hK hH e15 rfl 2 (by decide) (hts _ k_125) (fun _ h9 => h9) rfl d_FR_file_68 ?_
          refine lv_iload_n hx hb d_FR_file_71 rfl (lv_at hl 1 rfl) ?_
          obtain ⟨v16, e16, h⟩ := fr_bind h
          refine fr_ild hx hb hK hH e16 d_FR_file_72 ?_
          exact fr_iretO hx hb hr hlocks  h hH hK hX hS d_FR_file_73
        · replace h := fr_iff c13 h
          by_cases c17 : x2 = 3
          · replace h := fr_ift c17 h
            refine lv_tableIn (tgt := 74) hx hb d_FR_file_14 (by rw [c17]; decide) (by rw [c17]; decide) (by rw [c17]; rfl) (by decide) ?_
            refine lv_aload_n hx hb d_FR_file_74 rfl (lv_at hl 0 rfl) ?_
            obtain ⟨q18, e18, h⟩ := fr_bind h
            refine fr_gP hx hb hts in_FR hown hK hH e18 rfl 11 (by decide) (hts _ k_250) (fun _ h9 => h9) rfl d_FR_file_75 ?_
            obtain ⟨q19, e19, h⟩ := fr_bind h
            refine fr_gP hx hb hts in_Files hown hK hH e19 rfl 3 (by decide) (hts _ k_127) (fun _ h9 => h9) rfl d_FR_file_78 ?_
            refine lv_iload_n hx hb d_FR_file_81 rfl (lv_at hl 1 rfl) ?_
            obtain ⟨v20, e20, h⟩ := fr_bind h
            refine fr_ild hx hb hK hH e20 d_FR_file_82 ?_
            exact fr_iretO hx hb hr hlocks  h hH hK hX hS d_FR_file_83
          · replace h := fr_iff c17 h
            refine lv_tableOut (tgt := 84) hx hb d_FR_file_14 (by have z0 := lv_neT c5 (a := 0) (by decide); have z1 := lv_neT c9 (a := 1) (by decide); have z2 := lv_neT c13 (a := 2) (by decide); have z3 := lv_neT c17 (a := 3) (by decide); omega) (by decide) ?_
            refine lv_iconst (v := (-1)) hx hb d_FR_file_84 (by decide) ?_
            exact fr_iretO hx hb hr hlocks  h hH hK hX hS d_FR_file_85
  · replace h := fr_ift c4 h
    refine lv_iconst (v := (-1)) hx hb d_FR_file_11 (by decide) ?_
    exact fr_iretO hx hb hr hlocks  h hH hK hX hS d_FR_file_12
