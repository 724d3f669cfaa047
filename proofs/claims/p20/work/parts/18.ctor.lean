def m_Md_init (h0 : Nat) (x1 : Int32) (σ : fr_S) (nx : Nat) : Option (fr_S × Nat) :=
  (nC σ nx (.inr (1, 8))).bind fun σ_1 =>
  (sP σ_1 0 4 h0 nx).bind fun σ_2 =>
  (nC σ_2 (nx + 1) (.inr (0, 8))).bind fun σ_3 =>
  (sP σ_3 0 5 h0 (nx + 1)).bind fun σ_4 =>
  (nC σ_4 (nx + 2) (.inr (0, 16))).bind fun σ_5 =>
  (sP σ_5 0 11 h0 (nx + 2)).bind fun σ_6 =>
  (nC σ_6 (nx + 3) (.inr (0, 16))).bind fun σ_7 =>
  (sP σ_7 0 12 h0 (nx + 3)).bind fun σ_8 =>
  (nC σ_8 (nx + 4) (.inr (0, 16))).bind fun σ_9 =>
  (sP σ_9 0 13 h0 (nx + 4)).bind fun σ_10 =>
  (nC σ_10 (nx + 5) (.inr (0, 16))).bind fun σ_11 =>
  (sP σ_11 0 14 h0 (nx + 5)).bind fun σ_12 =>
  (nC σ_12 (nx + 6) (.inr (0, 16))).bind fun σ_13 =>
  (sP σ_13 0 15 h0 (nx + 6)).bind fun σ_14 =>
  (nC σ_14 (nx + 7) (.inr (0, 16))).bind fun σ_15 =>
  (sP σ_15 0 16 h0 (nx + 7)).bind fun σ_16 =>
  (nC σ_16 (nx + 8) (.inr (0, 1600))).bind fun σ_17 =>
  (sP σ_17 0 17 h0 (nx + 8)).bind fun σ_18 =>
  (nC σ_18 (nx + 9) (.inr (1, 16))).bind fun σ_19 =>
  (sP σ_19 0 18 h0 (nx + 9)).bind fun σ_20 =>
  (nC σ_20 (nx + 10) (.inr (1, 16))).bind fun σ_21 =>
  (sP σ_21 0 19 h0 (nx + 10)).bind fun σ_22 =>
  (nC σ_22 (nx + 11) (.inr (1, 16))).bind fun σ_23 =>
  (sP σ_23 0 20 h0 (nx + 11)).bind fun σ_24 =>
  (nC σ_24 (nx + 12) (.inr (1, 16))).bind fun σ_25 =>
  (sP σ_25 0 21 h0 (nx + 12)).bind fun σ_26 =>
  (nC σ_26 (nx + 13) (.inr (0, 10))).bind fun σ_27 =>
  (sP σ_27 0 22 h0 (nx + 13)).bind fun σ_28 =>
  (nC σ_28 (nx + 14) (.inr (0, 10))).bind fun σ_29 =>
  (sP σ_29 0 23 h0 (nx + 14)).bind fun σ_30 =>
  (nC σ_30 (nx + 15) (.inr (0, 60))).bind fun σ_31 =>
  (sP σ_31 0 24 h0 (nx + 15)).bind fun σ_32 =>
  (nC σ_32 (nx + 16) (.inr (0, 10))).bind fun σ_33 =>
  (sP σ_33 0 25 h0 (nx + 16)).bind fun σ_34 =>
  (nC σ_34 (nx + 17) (.inr (0, 10))).bind fun σ_35 =>
  (sP σ_35 0 26 h0 (nx + 17)).bind fun σ_36 =>
  (nC σ_36 (nx + 18) (.inr (0, 10))).bind fun σ_37 =>
  (sP σ_37 0 27 h0 (nx + 18)).bind fun σ_38 =>
  (nC σ_38 (nx + 19) (.inr (0, 1000))).bind fun σ_39 =>
  (sP σ_39 0 28 h0 (nx + 19)).bind fun σ_40 =>
  (nC σ_40 (nx + 20) (.inr (0, 10))).bind fun σ_41 =>
  (sP σ_41 0 29 h0 (nx + 20)).bind fun σ_42 =>
  (nC σ_42 (nx + 21) (.inr (0, 10))).bind fun σ_43 =>
  (sP σ_43 0 30 h0 (nx + 21)).bind fun σ_44 =>
  (nC σ_44 (nx + 22) (.inr (0, 10))).bind fun σ_45 =>
  (sP σ_45 0 31 h0 (nx + 22)).bind fun σ_46 =>
  (nC σ_46 (nx + 23) (.inr (0, 10))).bind fun σ_47 =>
  (sP σ_47 0 32 h0 (nx + 23)).bind fun σ_48 =>
  (nC σ_48 (nx + 24) (.inr (0, 10))).bind fun σ_49 =>
  (sP σ_49 0 33 h0 (nx + 24)).bind fun σ_50 =>
  (nC σ_50 (nx + 25) (.inr (0, 1000))).bind fun σ_51 =>
  (sP σ_51 0 34 h0 (nx + 25)).bind fun σ_52 =>
  (nC σ_52 (nx + 26) (.inr (0, 400))).bind fun σ_53 =>
  (sP σ_53 0 35 h0 (nx + 26)).bind fun σ_54 =>
  (nC σ_54 (nx + 27) (.inr (0, 400))).bind fun σ_55 =>
  (sP σ_55 0 36 h0 (nx + 27)).bind fun σ_56 =>
  (nC σ_56 (nx + 28) (.inr (0, 400))).bind fun σ_57 =>
  (sP σ_57 0 37 h0 (nx + 28)).bind fun σ_58 =>
  (nC σ_58 (nx + 29) (.inr (0, 10))).bind fun σ_59 =>
  (sP σ_59 0 38 h0 (nx + 29)).bind fun σ_60 =>
  (nC σ_60 (nx + 30) (.inr (0, 40))).bind fun σ_61 =>
  (sP σ_61 0 40 h0 (nx + 30)).bind fun σ_62 =>
  (nC σ_62 (nx + 31) (.inr (0, 40))).bind fun σ_63 =>
  (sP σ_63 0 41 h0 (nx + 31)).bind fun σ_64 =>
  (nC σ_64 (nx + 32) (.inr (0, 40))).bind fun σ_65 =>
  (sP σ_65 0 42 h0 (nx + 32)).bind fun σ_66 =>
  (nC σ_66 (nx + 33) (.inr (0, 40))).bind fun σ_67 =>
  (sP σ_67 0 43 h0 (nx + 33)).bind fun σ_68 =>
  if 0 ≤ x1 then
    if x1 ≤ 5 then
      (sI σ_68 0 0 h0 x1).bind fun σ_71 =>
      some (σ_71, nx + 34)
    else
      (sI σ_68 0 0 h0 5).bind fun σ_72 =>
      some (σ_72, nx + 34)
  else
    (sI σ_68 0 0 h0 0).bind fun σ_73 =>
    some (σ_73, nx + 34)
set_option maxHeartbeats 4000000 in
set_option maxRecDepth 100000 in
theorem c_Md_init (l : Launch) (D : va_G) (T : Nat → ClassId) (A : Nat → Prop) (σ : fr_S) (h0 : Nat) (x1 : Int32) (nx : Nat) (hA0 : ∀ q, nx ≤ q → A q) (σ1 : fr_S) (nx1 : Nat) (h : m_Md_init h0 x1 σ nx = some (σ1, nx1)) : Met l y_Md_init (Cond.code y_Md_init b_Md_init 2 none :: fr_W) ({ frames := 1, cells := 34, slots := 5306, locals := 24 } : Room) (va_Pc [.ref h0, .int x1] (fr_BN D T A nx σ)) (fr_QN D T A σ1 nx1) 34 5306 A := by
  refine Met.ofW (cc := b_Md_init) (maxL := 2) (ret := none) (by decide) rfl ?_
  intro p e s m args below meth c s₁ B hml hv
  obtain ⟨rfl, hN, hH, hK, hX⟩ := hv
  have hA : ∀ q, s.heap.size ≤ q → A q := fun q hq => hA0 q (by omega)
  have hin : meth.name = "<init>" := (name_of_methodNamed B.named B.method).1
  have C0 : fr_At p s m _ meth c "FetchRulesModel" b_Md_init 2 none := fr_at B hml
  obtain ⟨hx, hb, hr, hml, hown, hts, hlocks⟩ := id C0
  have hS : va_S A s.heap s.heap [] := va_S.rf
  have hl := lv_entry ([.ref h0, .int x1]) (n := 2) (Nat.le_of_ble_eq_true rfl)
  rw [lg_entry_eq]
  generalize (lg_sl ([.ref h0, .int x1]) ++ List.replicate (2 - (lg_sl ([.ref h0, .int x1])).length) Slot.unset).toArray = ls at hl ⊢
  have hl : lv_has ls 2 [(0, .ref h0), (1, .int x1)] := hl
  unfold m_Md_init at h
  refine lv_aload_n hx hb d_Md_init_0 rfl (lv_at hl 0 rfl) ?_
  refine W.objInit hx hb hown (hts _ k_539) (hts _ k_48) (hts _ k_49) rfl (by rw [hml]; exact hl.1) rfl d_Md_init_1 (Nat.le_of_ble_eq_true rfl) (Nat.le_of_ble_eq_true rfl) ?_
  refine W.eq (g2 := F0 m 4 ls []) rfl ?_
  refine lv_aload_n hx hb d_Md_init_4 rfl (lv_at hl 0 rfl) ?_
  refine lv_bipush (v := 8) hx hb d_Md_init_5 (by decide) ?_
  obtain ⟨σ_1, e1, h⟩ := fr_bind h
  refine fr_newZ0 e1 hx hb (hts _ k_79) hK hH hS hA hN (by decide) (by decide) (by decide) (Nat.le_of_ble_eq_true rfl) (Nat.le_of_ble_eq_true rfl) d_Md_init_7 (fun H hH hN hS => ?_)
  refine W.widen (k := 1) (n := 8) (Nat.le_of_ble_eq_true rfl) (Nat.le_of_ble_eq_true rfl) ?_
  have hN : H.size = nx + 1 := by omega
  obtain ⟨σ_2, e2, h⟩ := fr_bind h
  refine fr_putPFN (ty := (.array (.boolean))) hx hb hts in_Md ty_Md tk_Md nm_Md hown hK hH hN hS ⟨rfl, rfl⟩ e2 rfl 4 (by decide) (hts _ k_544) (fun _ h9 => h9) rfl hin rfl (by decide +kernel) (fs_0_4 _ _ _) (Nat.le_of_ble_eq_true rfl) d_Md_init_9 (fun H locs hH hN hS => ?_)
  refine lv_aload_n hx hb d_Md_init_12 rfl (lv_at hl 0 rfl) ?_
  refine lv_bipush (v := 8) hx hb d_Md_init_13 (by decide) ?_
  obtain ⟨σ_3, e3, h⟩ := fr_bind h
  refine fr_newI0 e3 hx hb (hts _ k_80) hK hH hS hA hN (by decide) (by decide) (by decide) (Nat.le_of_ble_eq_true rfl) (Nat.le_of_ble_eq_true rfl) d_Md_init_15 (fun H hH hN hS => ?_)
  refine W.widen (k := 2) (n := 16) (Nat.le_of_ble_eq_true rfl) (Nat.le_of_ble_eq_true rfl) ?_
  have hN : H.size = nx + 2 := by omega
  obtain ⟨σ_4, e4, h⟩ := fr_bind h
  refine fr_putPFN (ty := (.array (.int))) hx hb hts in_Md ty_Md tk_Md nm_Md hown hK hH hN hS ⟨rfl, rfl⟩ e4 rfl 5 (by decide) (hts _ k_545) (fun _ h9 => h9) rfl hin rfl (by decide +kernel) (fs_0_5 _ _ _) (Nat.le_of_ble_eq_true rfl) d_Md_init_17 (fun H locs hH hN hS => ?_)
  refine lv_aload_n hx hb d_Md_init_20 rfl (lv_at hl 0 rfl) ?_
  refine lv_bipush (v := 16) hx hb d_Md_init_21 (by decide) ?_
  obtain ⟨σ_5, e5, h⟩ := fr_bind h
  refine fr_newI0 e5 hx hb (hts _ k_80) hK hH hS hA hN (by decide) (by decide) (by decide) (Nat.le_of_ble_eq_true rfl) (Nat.le_of_ble_eq_true rfl) d_Md_init_23 (fun H hH hN hS => ?_)
  refine W.widen (k := 3) (n := 32) (Nat.le_of_ble_eq_true rfl) (Nat.le_of_ble_eq_true rfl) ?_
  have hN : H.size = nx + 3 := by omega
  obtain ⟨σ_6, e6, h⟩ := fr_bind h
  refine fr_putPFN (ty := (.array (.int))) hx hb hts in_Md ty_Md tk_Md nm_Md hown hK hH hN hS ⟨rfl, rfl⟩ e6 rfl 11 (by decide) (hts _ k_551) (fun _ h9 => h9) rfl hin rfl (by decide +kernel) (fs_0_11 _ _ _) (Nat.le_of_ble_eq_true rfl) d_Md_init_25 (fun H locs hH hN hS => ?_)
  refine lv_aload_n hx hb d_Md_init_28 rfl (lv_at hl 0 rfl) ?_
  refine lv_bipush (v := 16) hx hb d_Md_init_29 (by decide) ?_
  obtain ⟨σ_7, e7, h⟩ := fr_bind h
  refine fr_newI0 e7 hx hb (hts _ k_80) hK hH hS hA hN (by decide) (by decide) (by decide) (Nat.le_of_ble_eq_true rfl) (Nat.le_of_ble_eq_true rfl) d_Md_init_31 (fun H hH hN hS => ?_)
  refine W.widen (k := 4) (n := 48) (Nat.le_of_ble_eq_true rfl) (Nat.le_of_ble_eq_true rfl) ?_
  have hN : H.size = nx + 4 := by omega
  obtain ⟨σ_8, e8, h⟩ := fr_bind h
  refine fr_putPFN (ty := (.array (.int))) hx hb hts in_Md ty_Md tk_Md nm_Md hown hK hH hN hS ⟨rfl, rfl⟩ e8 rfl 12 (by decide) (hts _ k_552) (fun _ h9 => h9) rfl hin rfl (by decide +kernel) (fs_0_12 _ _ _) (Nat.le_of_ble_eq_true rfl) d_Md_init_33 (fun H locs hH hN hS => ?_)
  refine lv_aload_n hx hb d_Md_init_36 rfl (lv_at hl 0 rfl) ?_
  refine lv_bipush (v := 16) hx hb d_Md_init_37 (by decide) ?_
  obtain ⟨σ_9, e9, h⟩ := fr_bind h
  refine fr_newI0 e9 hx hb (hts _ k_80) hK hH hS hA hN (by decide) (by decide) (by decide) (Nat.le_of_ble_eq_true rfl) (Nat.le_of_ble_eq_true rfl) d_Md_init_39 (fun H hH hN hS => ?_)
  refine W.widen (k := 5) (n := 64) (Nat.le_of_ble_eq_true rfl) (Nat.le_of_ble_eq_true rfl) ?_
  have hN : H.size = nx + 5 := by omega
  obtain ⟨σ_10, e10, h⟩ := fr_bind h
  refine fr_putPFN (ty := (.array (.int))) hx hb hts in_Md ty_Md tk_Md nm_Md hown hK hH hN hS ⟨rfl, rfl⟩ e10 rfl 13 (by decide) (hts _ k_553) (fun _ h9 => h9) rfl hin rfl (by decide +kernel) (fs_0_13 _ _ _) (Nat.le_of_ble_eq_true rfl) d_Md_init_41 (fun H locs hH hN hS => ?_)
  refine lv_aload_n hx hb d_Md_init_44 rfl (lv_at hl 0 rfl) ?_
  refine lv_bipush (v := 16) hx hb d_Md_init_45 (by decide) ?_
  obtain ⟨σ_11, e11, h⟩ := fr_bind h
  refine fr_newI0 e11 hx hb (hts _ k_80) hK hH hS hA hN (by decide) (by decide) (by decide) (Nat.le_of_ble_eq_true rfl) (Nat.le_of_ble_eq_true rfl) d_Md_init_47 (fun H hH hN hS => ?_)
  refine W.widen (k := 6) (n := 80) (Nat.le_of_ble_eq_true rfl) (Nat.le_of_ble_eq_true rfl) ?_
  have hN : H.size = nx + 6 := by omega
  obtain ⟨σ_12, e12, h⟩ := fr_bind h
  refine fr_putPFN (ty := (.array (.int))) hx hb hts in_Md ty_Md tk_Md nm_Md hown hK hH hN hS ⟨rfl, rfl⟩ e12 rfl 14 (by decide) (hts _ k_554) (fun _ h9 => h9) rfl hin rfl (by decide +kernel) (fs_0_14 _ _ _) (Nat.le_of_ble_eq_true rfl) d_Md_init_49 (fun H locs hH hN hS => ?_)
  refine lv_aload_n hx hb d_Md_init_52 rfl (lv_at hl 0 rfl) ?_
  refine lv_bipush (v := 16) hx hb d_Md_init_53 (by decide) ?_
  obtain ⟨σ_13, e13, h⟩ := fr_bind h
  refine fr_newI0 e13 hx hb (hts _ k_80) hK hH hS hA hN (by decide) (by decide) (by decide) (Nat.le_of_ble_eq_true rfl) (Nat.le_of_ble_eq_true rfl) d_Md_init_55 (fun H hH hN hS => ?_)
  refine W.widen (k := 7) (n := 96) (Nat.le_of_ble_eq_true rfl) (Nat.le_of_ble_eq_true rfl) ?_
  have hN : H.size = nx + 7 := by omega
  obtain ⟨σ_14, e14, h⟩ := fr_bind h
  refine fr_putPFN (ty := (.array (.int))) hx hb hts in_Md ty_Md tk_Md nm_Md hown hK hH hN hS ⟨rfl, rfl⟩ e14 rfl 15 (by decide) (hts _ k_555) (fun _ h9 => h9) rfl hin rfl (by decide +kernel) (fs_0_15 _ _ _) (Nat.le_of_ble_eq_true rfl) d_Md_init_57 (fun H locs hH hN hS => ?_)
  refine lv_aload_n hx hb d_Md_init_60 rfl (lv_at hl 0 rfl) ?_
  refine lv_bipush (v := 16) hx hb d_Md_init_61 (by decide) ?_
  obtain ⟨σ_15, e15, h⟩ := fr_bind h
  refine fr_newI0 e15 hx hb (hts _ k_80) hK hH hS hA hN (by decide) (by decide) (by decide) (Nat.le_of_ble_eq_true rfl) (Nat.le_of_ble_eq_true rfl) d_Md_init_63 (fun H hH hN hS => ?_)
  refine W.widen (k := 8) (n := 112) (Nat.le_of_ble_eq_true rfl) (Nat.le_of_ble_eq_true rfl) ?_
  have hN : H.size = nx + 8 := by omega
  obtain ⟨σ_16, e16, h⟩ := fr_bind h
  refine fr_putPFN (ty := (.array (.int))) hx hb hts in_Md ty_Md tk_Md nm_Md hown hK hH hN hS ⟨rfl, rfl⟩ e16 rfl 16 (by decide) (hts _ k_556) (fun _ h9 => h9) rfl hin rfl (by decide +kernel) (fs_0_16 _ _ _) (Nat.le_of_ble_eq_true rfl) d_Md_init_65 (fun H locs hH hN hS => ?_)
  refine lv_aload_n hx hb d_Md_init_68 rfl (lv_at hl 0 rfl) ?_
  refine lv_sipush (v := 1600) hx hb d_Md_init_69 (by decide) ?_
  obtain ⟨σ_17, e17, h⟩ := fr_bind h
  refine fr_newI0 e17 hx hb (hts _ k_80) hK hH hS hA hN (by decide) (by decide) (by decide) (Nat.le_of_ble_eq_true rfl) (Nat.le_of_ble_eq_true rfl) d_Md_init_72 (fun H hH hN hS => ?_)
  refine W.widen (k := 9) (n := 1712) (Nat.le_of_ble_eq_true rfl) (Nat.le_of_ble_eq_true rfl) ?_
  have hN : H.size = nx + 9 := by omega
  obtain ⟨σ_18, e18, h⟩ := fr_bind h
  refine fr_putPFN (ty := (.array (.int))) hx hb hts in_Md ty_Md tk_Md nm_Md hown hK hH hN hS ⟨rfl, rfl⟩ e18 rfl 17 (by decide) (hts _ k_557) (fun _ h9 => h9) rfl hin rfl (by decide +kernel) (fs_0_17 _ _ _) (Nat.le_of_ble_eq_true rfl) d_Md_init_74 (fun H locs hH hN hS => ?_)
  refine lv_aload_n hx hb d_Md_init_77 rfl (lv_at hl 0 rfl) ?_
  refine lv_bipush (v := 16) hx hb d_Md_init_78 (by decide) ?_
  obtain ⟨σ_19, e19, h⟩ := fr_bind h
  refine fr_newZ0 e19 hx hb (hts _ k_79) hK hH hS hA hN (by decide) (by decide) (by decide) (Nat.le_of_ble_eq_true rfl) (Nat.le_of_ble_eq_true rfl) d_Md_init_80 (fun H hH hN hS => ?_)
  refine W.widen (k := 10) (n := 1728) (Nat.le_of_ble_eq_true rfl) (Nat.le_of_ble_eq_true rfl) ?_
  have hN : H.size = nx + 10 := by omega
  obtain ⟨σ_20, e20, h⟩ := fr_bind h
  refine fr_putPFN (ty := (.array (.boolean))) hx hb hts in_Md ty_Md tk_Md nm_Md hown hK hH hN hS ⟨rfl, rfl⟩ e20 rfl 18 (by decide) (hts _ k_558) (fun _ h9 => h9) rfl hin rfl (by decide +kernel) (fs_0_18 _ _ _) (Nat.le_of_ble_eq_true rfl) d_Md_init_82 (fun H locs hH hN hS => ?_)
  refine lv_aload_n hx hb d_Md_init_85 rfl (lv_at hl 0 rfl) ?_
  refine lv_bipush (v := 16) hx hb d_Md_init_86 (by decide) ?_
  obtain ⟨σ_21, e21, h⟩ := fr_bind h
  refine fr_newZ0 e21 hx hb (hts _ k_79) hK hH hS hA hN (by decide) (by decide) (by decide) (Nat.le_of_ble_eq_true rfl) (Nat.le_of_ble_eq_true rfl) d_Md_init_88 (fun H hH hN hS => ?_)
  refine W.widen (k := 11) (n := 1744) (Nat.le_of_ble_eq_true rfl) (Nat.le_of_ble_eq_true rfl) ?_
  have hN : H.size = nx + 11 := by omega
  obtain ⟨σ_22, e22, h⟩ := fr_bind h
  refine fr_putPFN (ty := (.array (.boolean))) hx hb hts in_Md ty_Md tk_Md nm_Md hown hK hH hN hS ⟨rfl, rfl⟩ e22 rfl 19 (by decide) (hts _ k_559) (fun _ h9 => h9) rfl hin rfl (by decide +kernel) (fs_0_19 _ _ _) (Nat.le_of_ble_eq_true rfl) d_Md_init_90 (fun H locs hH hN hS => ?_)
  refine lv_aload_n hx hb d_Md_init_93 rfl (lv_at hl 0 rfl) ?_
  refine lv_bipush (v := 16) hx hb d_Md_init_94 (by decide) ?_
  obtain ⟨σ_23, e23, h⟩ := fr_bind h
  refine fr_newZ0 e23 hx hb (hts _ k_79) hK hH hS hA hN (by decide) (by decide) (by decide) (Nat.le_of_ble_eq_true rfl) (Nat.le_of_ble_eq_true rfl) d_Md_init_96 (fun H hH hN hS => ?_)
  refine W.widen (k := 12) (n := 1760) (Nat.le_of_ble_eq_true rfl) (Nat.le_of_ble_eq_true rfl) ?_
  have hN : H.size = nx + 12 := by omega
  obtain ⟨σ_24, e24, h⟩ := fr_bind h
  refine fr_putPFN (ty := (.array (.boolean))) hx hb hts in_Md ty_Md tk_Md nm_Md hown hK hH hN hS ⟨rfl, rfl⟩ e24 rfl 20 (by decide) (hts _ k_560) (fun _ h9 => h9) rfl hin rfl (by decide +kernel) (fs_0_20 _ _ _) (Nat.le_of_ble_eq_true rfl) d_Md_init_98 (fun H locs hH hN hS => ?_)
  refine lv_aload_n hx hb d_Md_init_101 rfl (lv_at hl 0 rfl) ?_
  refine lv_bipush (v := 16) hx hb d_Md_init_102 (by decide) ?_
  obtain ⟨σ_25, e25, h⟩ := fr_bind h
  refine fr_newZ0 e25 hx hb (hts _ k_79) hK hH hS hA hN (by decide) (by decide) (by decide) (Nat.le_of_ble_eq_true rfl) (Nat.le_of_ble_eq_true rfl) d_Md_init_104 (fun H hH hN hS => ?_)
  refine W.widen (k := 13) (n := 1776) (Nat.le_of_ble_eq_true rfl) (Nat.le_of_ble_eq_true rfl) ?_
  have hN : H.size = nx + 13 := by omega
  obtain ⟨σ_26, e26, h⟩ := fr_bind h
  refine fr_putPFN (ty := (.array (.boolean))) hx hb hts in_Md ty_Md tk_Md nm_Md hown hK hH hN hS ⟨rfl, rfl⟩ e26 rfl 21 (by decide) (hts _ k_561) (fun _ h9 => h9) rfl hin rfl (by decide +kernel) (fs_0_21 _ _ _) (Nat.le_of_ble_eq_true rfl) d_Md_init_106 (fun H locs hH hN hS => ?_)
  refine lv_aload_n hx hb d_Md_init_109 rfl (lv_at hl 0 rfl) ?_
  refine lv_bipush (v := 10) hx hb d_Md_init_110 (by decide) ?_
  obtain ⟨σ_27, e27, h⟩ := fr_bind h
  refine fr_newI0 e27 hx hb (hts _ k_80) hK hH hS hA hN (by decide) (by decide) (by decide) (Nat.le_of_ble_eq_true rfl) (Nat.le_of_ble_eq_true rfl) d_Md_init_112 (fun H hH hN hS => ?_)
  refine W.widen (k := 14) (n := 1786) (Nat.le_of_ble_eq_true rfl) (Nat.le_of_ble_eq_true rfl) ?_
  have hN : H.size = nx + 14 := by omega
  obtain ⟨σ_28, e28, h⟩ := fr_bind h
  refine fr_putPFN (ty := (.array (.int))) hx hb hts in_Md ty_Md tk_Md nm_Md hown hK hH hN hS ⟨rfl, rfl⟩ e28 rfl 22 (by decide) (hts _ k_562) (fun _ h9 => h9) rfl hin rfl (by decide +kernel) (fs_0_22 _ _ _) (Nat.le_of_ble_eq_true rfl) d_Md_init_114 (fun H locs hH hN hS => ?_)
  refine lv_aload_n hx hb d_Md_init_117 rfl (lv_at hl 0 rfl) ?_
  refine lv_bipush (v := 10) hx hb d_Md_init_118 (by decide) ?_
  obtain ⟨σ_29, e29, h⟩ := fr_bind h
  refine fr_newI0 e29 hx hb (hts _ k_80) hK hH hS hA hN (by decide) (by decide) (by decide) (Nat.le_of_ble_eq_true rfl) (Nat.le_of_ble_eq_true rfl) d_Md_init_120 (fun H hH hN hS => ?_)
  refine W.widen (k := 15) (n := 1796) (Nat.le_of_ble_eq_true rfl) (Nat.le_of_ble_eq_true rfl) ?_
  have hN : H.size = nx + 15 := by omega
  obtain ⟨σ_30, e30, h⟩ := fr_bind h
  refine fr_putPFN (ty := (.array (.int))) hx hb hts in_Md ty_Md tk_Md nm_Md hown hK hH hN hS ⟨rfl, rfl⟩ e30 rfl 23 (by decide) (hts _ k_563) (fun _ h9 => h9) rfl hin rfl (by decide +kernel) (fs_0_23 _ _ _) (Nat.le_of_ble_eq_true rfl) d_Md_init_122 (fun H locs hH hN hS => ?_)
  refine lv_aload_n hx hb d_Md_init_125 rfl (lv_at hl 0 rfl) ?_
  refine lv_bipush (v := 60) hx hb d_Md_init_126 (by decide) ?_
  obtain ⟨σ_31, e31, h⟩ := fr_bind h
  refine fr_newI0 e31 hx hb (hts _ k_80) hK hH hS hA hN (by decide) (by decide) (by decide) (Nat.le_of_ble_eq_true rfl) (Nat.le_of_ble_eq_true rfl) d_Md_init_128 (fun H hH hN hS => ?_)
  refine W.widen (k := 16) (n := 1856) (Nat.le_of_ble_eq_true rfl) (Nat.le_of_ble_eq_true rfl) ?_
  have hN : H.size = nx + 16 := by omega
  obtain ⟨σ_32, e32, h⟩ := fr_bind h
  refine fr_putPFN (ty := (.array (.int))) hx hb hts in_Md ty_Md tk_Md nm_Md hown hK hH hN hS ⟨rfl, rfl⟩ e32 rfl 24 (by decide) (hts _ k_564) (fun _ h9 => h9) rfl hin rfl (by decide +kernel) (fs_0_24 _ _ _) (Nat.le_of_ble_eq_true rfl) d_Md_init_130 (fun H locs hH hN hS => ?_)
  refine lv_aload_n hx hb d_Md_init_133 rfl (lv_at hl 0 rfl) ?_
  refine lv_bipush (v := 10) hx hb d_Md_init_134 (by decide) ?_
  obtain ⟨σ_33, e33, h⟩ := fr_bind h
  refine fr_newI0 e33 hx hb (hts _ k_80) hK hH hS hA hN (by decide) (by decide) (by decide) (Nat.le_of_ble_eq_true rfl) (Nat.le_of_ble_eq_true rfl) d_Md_init_136 (fun H hH hN hS => ?_)
  refine W.widen (k := 17) (n := 1866) (Nat.le_of_ble_eq_true rfl) (Nat.le_of_ble_eq_true rfl) ?_
  have hN : H.size = nx + 17 := by omega
  obtain ⟨σ_34, e34, h⟩ := fr_bind h
  refine fr_putPFN (ty := (.array (.int))) hx hb hts in_Md ty_Md tk_Md nm_Md hown hK hH hN hS ⟨rfl, rfl⟩ e34 rfl 25 (by decide) (hts _ k_565) (fun _ h9 => h9) rfl hin rfl (by decide +kernel) (fs_0_25 _ _ _) (Nat.le_of_ble_eq_true rfl) d_Md_init_138 (fun H locs hH hN hS => ?_)
  refine lv_aload_n hx hb d_Md_init_141 rfl (lv_at hl 0 rfl) ?_
  refine lv_bipush (v := 10) hx hb d_Md_init_142 (by decide) ?_
  obtain ⟨σ_35, e35, h⟩ := fr_bind h
  refine fr_newI0 e35 hx hb (hts _ k_80) hK hH hS hA hN (by decide) (by decide) (by decide) (Nat.le_of_ble_eq_true rfl) (Nat.le_of_ble_eq_true rfl) d_Md_init_144 (fun H hH hN hS => ?_)
  refine W.widen (k := 18) (n := 1876) (Nat.le_of_ble_eq_true rfl) (Nat.le_of_ble_eq_true rfl) ?_
  have hN : H.size = nx + 18 := by omega
  obtain ⟨σ_36, e36, h⟩ := fr_bind h
  refine fr_putPFN (ty := (.array (.int))) hx hb hts in_Md ty_Md tk_Md nm_Md hown hK hH hN hS ⟨rfl, rfl⟩ e36 rfl 26 (by decide) (hts _ k_566) (fun _ h9 => h9) rfl hin rfl (by decide +kernel) (fs_0_26 _ _ _) (Nat.le_of_ble_eq_true rfl) d_Md_init_146 (fun H locs hH hN hS => ?_)
  refine lv_aload_n hx hb d_Md_init_149 rfl (lv_at hl 0 rfl) ?_
  refine lv_bipush (v := 10) hx hb d_Md_init_150 (by decide) ?_
  obtain ⟨σ_37, e37, h⟩ := fr_bind h
  refine fr_newI0 e37 hx hb (hts _ k_80) hK hH hS hA hN (by decide) (by decide) (by decide) (Nat.le_of_ble_eq_true rfl) (Nat.le_of_ble_eq_true rfl) d_Md_init_152 (fun H hH hN hS => ?_)
  refine W.widen (k := 19) (n := 1886) (Nat.le_of_ble_eq_true rfl) (Nat.le_of_ble_eq_true rfl) ?_
  have hN : H.size = nx + 19 := by omega
  obtain ⟨σ_38, e38, h⟩ := fr_bind h
  refine fr_putPFN (ty := (.array (.int))) hx hb hts in_Md ty_Md tk_Md nm_Md hown hK hH hN hS ⟨rfl, rfl⟩ e38 rfl 27 (by decide) (hts _ k_567) (fun _ h9 => h9) rfl hin rfl (by decide +kernel) (fs_0_27 _ _ _) (Nat.le_of_ble_eq_true rfl) d_Md_init_154 (fun H locs hH hN hS => ?_)
  refine lv_aload_n hx hb d_Md_init_157 rfl (lv_at hl 0 rfl) ?_
  refine lv_sipush (v := 1000) hx hb d_Md_init_158 (by decide) ?_
  obtain ⟨σ_39, e39, h⟩ := fr_bind h
  refine fr_newI0 e39 hx hb (hts _ k_80) hK hH hS hA hN (by decide) (by decide) (by decide) (Nat.le_of_ble_eq_true rfl) (Nat.le_of_ble_eq_true rfl) d_Md_init_161 (fun H hH hN hS => ?_)
  refine W.widen (k := 20) (n := 2886) (Nat.le_of_ble_eq_true rfl) (Nat.le_of_ble_eq_true rfl) ?_
  have hN : H.size = nx + 20 := by omega
  obtain ⟨σ_40, e40, h⟩ := fr_bind h
  refine fr_putPFN (ty := (.array (.int))) hx hb hts in_Md ty_Md tk_Md nm_Md hown hK hH hN hS ⟨rfl, rfl⟩ e40 rfl 28 (by decide) (hts _ k_568) (fun _ h9 => h9) rfl hin rfl (by decide +kernel) (fs_0_28 _ _ _) (Nat.le_of_ble_eq_true rfl) d_Md_init_163 (fun H locs hH hN hS => ?_)
  refine lv_aload_n hx hb d_Md_init_166 rfl (lv_at hl 0 rfl) ?_
  refine lv_bipush (v := 10) hx hb d_Md_init_167 (by decide) ?_
  obtain ⟨σ_41, e41, h⟩ := fr_bind h
  refine fr_newI0 e41 hx hb (hts _ k_80) hK hH hS hA hN (by decide) (by decide) (by decide) (Nat.le_of_ble_eq_true rfl) (Nat.le_of_ble_eq_true rfl) d_Md_init_169 (fun H hH hN hS => ?_)
  refine W.widen (k := 21) (n := 2896) (Nat.le_of_ble_eq_true rfl) (Nat.le_of_ble_eq_true rfl) ?_
  have hN : H.size = nx + 21 := by omega
  obtain ⟨σ_42, e42, h⟩ := fr_bind h
  refine fr_putPFN (ty := (.array (.int))) hx hb hts in_Md ty_Md tk_Md nm_Md hown hK hH hN hS ⟨rfl, rfl⟩ e42 rfl 29 (by decide) (hts _ k_569) (fun _ h9 => h9) rfl hin rfl (by decide +kernel) (fs_0_29 _ _ _) (Nat.le_of_ble_eq_true rfl) d_Md_init_171 (fun H locs hH hN hS => ?_)
  refine lv_aload_n hx hb d_Md_init_174 rfl (lv_at hl 0 rfl) ?_
  refine lv_bipush (v := 10) hx hb d_Md_init_175 (by decide) ?_
  obtain ⟨σ_43, e43, h⟩ := fr_bind h
  refine fr_newI0 e43 hx hb (hts _ k_80) hK hH hS hA hN (by decide) (by decide) (by decide) (Nat.le_of_ble_eq_true rfl) (Nat.le_of_ble_eq_true rfl) d_Md_init_177 (fun H hH hN hS => ?_)
  refine W.widen (k := 22) (n := 2906) (Nat.le_of_ble_eq_true rfl) (Nat.le_of_ble_eq_true rfl) ?_
  have hN : H.size = nx + 22 := by omega
  obtain ⟨σ_44, e44, h⟩ := fr_bind h
  refine fr_putPFN (ty := (.array (.int))) hx hb hts in_Md ty_Md tk_Md nm_Md hown hK hH hN hS ⟨rfl, rfl⟩ e44 rfl 30 (by decide) (hts _ k_570) (fun _ h9 => h9) rfl hin rfl (by decide +kernel) (fs_0_30 _ _ _) (Nat.le_of_ble_eq_true rfl) d_Md_init_179 (fun H locs hH hN hS => ?_)
  refine lv_aload_n hx hb d_Md_init_182 rfl (lv_at hl 0 rfl) ?_
  refine lv_bipush (v := 10) hx hb d_Md_init_183 (by decide) ?_
  obtain ⟨σ_45, e45, h⟩ := fr_bind h
  refine fr_newI0 e45 hx hb (hts _ k_80) hK hH hS hA hN (by decide) (by decide) (by decide) (Nat.le_of_ble_eq_true rfl) (Nat.le_of_ble_eq_true rfl) d_Md_init_185 (fun H hH hN hS => ?_)
  refine W.widen (k := 23) (n := 2916) (Nat.le_of_ble_eq_true rfl) (Nat.le_of_ble_eq_true rfl) ?_
  have hN : H.size = nx + 23 := by omega
  obtain ⟨σ_46, e46, h⟩ := fr_bind h
  refine fr_putPFN (ty := (.array (.int))) hx hb hts in_Md ty_Md tk_Md nm_Md hown hK hH hN hS ⟨rfl, rfl⟩ e46 rfl 31 (by decide) (hts _ k_571) (fun _ h9 => h9) rfl hin rfl (by decide +kernel) (fs_0_31 _ _ _) (Nat.le_of_ble_eq_true rfl) d_Md_init_187 (fun H locs hH hN hS => ?_)
  refine lv_aload_n hx hb d_Md_init_190 rfl (lv_at hl 0 rfl) ?_
  refine lv_bipush (v := 10) hx hb d_Md_init_191 (by decide) ?_
  obtain ⟨σ_47, e47, h⟩ := fr_bind h
  refine fr_newI0 e47 hx hb (hts _ k_80) hK hH hS hA hN (by decide) (by decide) (by decide) (Nat.le_of_ble_eq_true rfl) (Nat.le_of_ble_eq_true rfl) d_Md_init_193 (fun H hH hN hS => ?_)
  refine W.widen (k := 24) (n := 2926) (Nat.le_of_ble_eq_true rfl) (Nat.le_of_ble_eq_true rfl) ?_
  have hN : H.size = nx + 24 := by omega
  obtain ⟨σ_48, e48, h⟩ := fr_bind h
  refine fr_putPFN (ty := (.array (.int))) hx hb hts in_Md ty_Md tk_Md nm_Md hown hK hH hN hS ⟨rfl, rfl⟩ e48 rfl 32 (by decide) (hts _ k_572) (fun _ h9 => h9) rfl hin rfl (by decide +kernel) (fs_0_32 _ _ _) (Nat.le_of_ble_eq_true rfl) d_Md_init_195 (fun H locs hH hN hS => ?_)
  refine lv_aload_n hx hb d_Md_init_198 rfl (lv_at hl 0 rfl) ?_
  refine lv_bipush (v := 10) hx hb d_Md_init_199 (by decide) ?_
  obtain ⟨σ_49, e49, h⟩ := fr_bind h
  refine fr_newI0 e49 hx hb (hts _ k_80) hK hH hS hA hN (by decide) (by decide) (by decide) (Nat.le_of_ble_eq_true rfl) (Nat.le_of_ble_eq_true rfl) d_Md_init_201 (fun H hH hN hS => ?_)
  refine W.widen (k := 25) (n := 2936) (Nat.le_of_ble_eq_true rfl) (Nat.le_of_ble_eq_true rfl) ?_
  have hN : H.size = nx + 25 := by omega
  obtain ⟨σ_50, e50, h⟩ := fr_bind h
  refine fr_putPFN (ty := (.array (.int))) hx hb hts in_Md ty_Md tk_Md nm_Md hown hK hH hN hS ⟨rfl, rfl⟩ e50 rfl 33 (by decide) (hts _ k_573) (fun _ h9 => h9) rfl hin rfl (by decide +kernel) (fs_0_33 _ _ _) (Nat.le_of_ble_eq_true rfl) d_Md_init_203 (fun H locs hH hN hS => ?_)
  refine lv_aload_n hx hb d_Md_init_206 rfl (lv_at hl 0 rfl) ?_
  refine lv_sipush (v := 1000) hx hb d_Md_init_207 (by decide) ?_
  obtain ⟨σ_51, e51, h⟩ := fr_bind h
  refine fr_newI0 e51 hx hb (hts _ k_80) hK hH hS hA hN (by decide) (by decide) (by decide) (Nat.le_of_ble_eq_true rfl) (Nat.le_of_ble_eq_true rfl) d_Md_init_210 (fun H hH hN hS => ?_)
  refine W.widen (k := 26) (n := 3936) (Nat.le_of_ble_eq_true rfl) (Nat.le_of_ble_eq_true rfl) ?_
  have hN : H.size = nx + 26 := by omega
  obtain ⟨σ_52, e52, h⟩ := fr_bind h
  refine fr_putPFN (ty := (.array (.int))) hx hb hts in_Md ty_Md tk_Md nm_Md hown hK hH hN hS ⟨rfl, rfl⟩ e52 rfl 34 (by decide) (hts _ k_574) (fun _ h9 => h9) rfl hin rfl (by decide +kernel) (fs_0_34 _ _ _) (Nat.le_of_ble_eq_true rfl) d_Md_init_212 (fun H locs hH hN hS => ?_)
  refine lv_aload_n hx hb d_Md_init_215 rfl (lv_at hl 0 rfl) ?_
  refine lv_sipush (v := 400) hx hb d_Md_init_216 (by decide) ?_
  obtain ⟨σ_53, e53, h⟩ := fr_bind h
  refine fr_newI0 e53 hx hb (hts _ k_80) hK hH hS hA hN (by decide) (by decide) (by decide) (Nat.le_of_ble_eq_true rfl) (Nat.le_of_ble_eq_true rfl) d_Md_init_219 (fun H hH hN hS => ?_)
  refine W.widen (k := 27) (n := 4336) (Nat.le_of_ble_eq_true rfl) (Nat.le_of_ble_eq_true rfl) ?_
  have hN : H.size = nx + 27 := by omega
  obtain ⟨σ_54, e54, h⟩ := fr_bind h
  refine fr_putPFN (ty := (.array (.int))) hx hb hts in_Md ty_Md tk_Md nm_Md hown hK hH hN hS ⟨rfl, rfl⟩ e54 rfl 35 (by decide) (hts _ k_575) (fun _ h9 => h9) rfl hin rfl (by decide +kernel) (fs_0_35 _ _ _) (Nat.le_of_ble_eq_true rfl) d_Md_init_221 (fun H locs hH hN hS => ?_)
  refine lv_aload_n hx hb d_Md_init_224 rfl (lv_at hl 0 rfl) ?_
  refine lv_sipush (v := 400) hx hb d_Md_init_225 (by decide) ?_
  obtain ⟨σ_55, e55, h⟩ := fr_bind h
  refine fr_newI0 e55 hx hb (hts _ k_80) hK hH hS hA hN (by decide) (by decide) (by decide) (Nat.le_of_ble_eq_true rfl) (Nat.le_of_ble_eq_true rfl) d_Md_init_228 (fun H hH hN hS => ?_)
  refine W.widen (k := 28) (n := 4736) (Nat.le_of_ble_eq_true rfl) (Nat.le_of_ble_eq_true rfl) ?_
  have hN : H.size = nx + 28 := by omega
  obtain ⟨σ_56, e56, h⟩ := fr_bind h
  refine fr_putPFN (ty := (.array (.int))) hx hb hts in_Md ty_Md tk_Md nm_Md hown hK hH hN hS ⟨rfl, rfl⟩ e56 rfl 36 (by decide) (hts _ k_576) (fun _ h9 => h9) rfl hin rfl (by decide +kernel) (fs_0_36 _ _ _) (Nat.le_of_ble_eq_true rfl) d_Md_init_230 (fun H locs hH hN hS => ?_)
  refine lv_aload_n hx hb d_Md_init_233 rfl (lv_at hl 0 rfl) ?_
  refine lv_sipush (v := 400) hx hb d_Md_init_234 (by decide) ?_
  obtain ⟨σ_57, e57, h⟩ := fr_bind h
  refine fr_newI0 e57 hx hb (hts _ k_80) hK hH hS hA hN (by decide) (by decide) (by decide) (Nat.le_of_ble_eq_true rfl) (Nat.le_of_ble_eq_true rfl) d_Md_init_237 (fun H hH hN hS => ?_)
  refine W.widen (k := 29) (n := 5136) (Nat.le_of_ble_eq_true rfl) (Nat.le_of_ble_eq_true rfl) ?_
  have hN : H.size = nx + 29 := by omega
  obtain ⟨σ_58, e58, h⟩ := fr_bind h
  refine fr_putPFN (ty := (.array (.int))) hx hb hts in_Md ty_Md tk_Md nm_Md hown hK hH hN hS ⟨rfl, rfl⟩ e58 rfl 37 (by decide) (hts _ k_577) (fun _ h9 => h9) rfl hin rfl (by decide +kernel) (fs_0_37 _ _ _) (Nat.le_of_ble_eq_true rfl) d_Md_init_239 (fun H locs hH hN hS => ?_)
  refine lv_aload_n hx hb d_Md_init_242 rfl (lv_at hl 0 rfl) ?_
  refine lv_bipush (v := 10) hx hb d_Md_init_243 (by decide) ?_
  obtain ⟨σ_59, e59, h⟩ := fr_bind h
  refine fr_newI0 e59 hx hb (hts _ k_80) hK hH hS hA hN (by decide) (by decide) (by decide) (Nat.le_of_ble_eq_true rfl) (Nat.le_of_ble_eq_true rfl) d_Md_init_245 (fun H hH hN hS => ?_)
  refine W.widen (k := 30) (n := 5146) (Nat.le_of_ble_eq_true rfl) (Nat.le_of_ble_eq_true rfl) ?_
  have hN : H.size = nx + 30 := by omega
  obtain ⟨σ_60, e60, h⟩ := fr_bind h
  refine fr_putPFN (ty := (.array (.int))) hx hb hts in_Md ty_Md tk_Md nm_Md hown hK hH hN hS ⟨rfl, rfl⟩ e60 rfl 38 (by decide) (hts _ k_578) (fun _ h9 => h9) rfl hin rfl (by decide +kernel) (fs_0_38 _ _ _) (Nat.le_of_ble_eq_true rfl) d_Md_init_247 (fun H locs hH hN hS => ?_)
  refine lv_aload_n hx hb d_Md_init_250 rfl (lv_at hl 0 rfl) ?_
  refine lv_bipush (v := 40) hx hb d_Md_init_251 (by decide) ?_
  obtain ⟨σ_61, e61, h⟩ := fr_bind h
  refine fr_newI0 e61 hx hb (hts _ k_80) hK hH hS hA hN (by decide) (by decide) (by decide) (Nat.le_of_ble_eq_true rfl) (Nat.le_of_ble_eq_true rfl) d_Md_init_253 (fun H hH hN hS => ?_)
  refine W.widen (k := 31) (n := 5186) (Nat.le_of_ble_eq_true rfl) (Nat.le_of_ble_eq_true rfl) ?_
  have hN : H.size = nx + 31 := by omega
  obtain ⟨σ_62, e62, h⟩ := fr_bind h
  refine fr_putPFN (ty := (.array (.int))) hx hb hts in_Md ty_Md tk_Md nm_Md hown hK hH hN hS ⟨rfl, rfl⟩ e62 rfl 40 (by decide) (hts _ k_580) (fun _ h9 => h9) rfl hin rfl (by decide +kernel) (fs_0_40 _ _ _) (Nat.le_of_ble_eq_true rfl) d_Md_init_255 (fun H locs hH hN hS => ?_)
  refine lv_aload_n hx hb d_Md_init_258 rfl (lv_at hl 0 rfl) ?_
  refine lv_bipush (v := 40) hx hb d_Md_init_259 (by decide) ?_
  obtain ⟨σ_63, e63, h⟩ := fr_bind h
  refine fr_newI0 e63 hx hb (hts _ k_80) hK hH hS hA hN (by decide) (by decide) (by decide) (Nat.le_of_ble_eq_true rfl) (Nat.le_of_ble_eq_true rfl) d_Md_init_261 (fun H hH hN hS => ?_)
  refine W.widen (k := 32) (n := 5226) (Nat.le_of_ble_eq_true rfl) (Nat.le_of_ble_eq_true rfl) ?_
  have hN : H.size = nx + 32 := by omega
  obtain ⟨σ_64, e64, h⟩ := fr_bind h
  refine fr_putPFN (ty := (.array (.int))) hx hb hts in_Md ty_Md tk_Md nm_Md hown hK hH hN hS ⟨rfl, rfl⟩ e64 rfl 41 (by decide) (hts _ k_581) (fun _ h9 => h9) rfl hin rfl (by decide +kernel) (fs_0_41 _ _ _) (Nat.le_of_ble_eq_true rfl) d_Md_init_263 (fun H locs hH hN hS => ?_)
  refine lv_aload_n hx hb d_Md_init_266 rfl (lv_at hl 0 rfl) ?_
  refine lv_bipush (v := 40) hx hb d_Md_init_267 (by decide) ?_
  obtain ⟨σ_65, e65, h⟩ := fr_bind h
  refine fr_newI0 e65 hx hb (hts _ k_80) hK hH hS hA hN (by decide) (by decide) (by decide) (Nat.le_of_ble_eq_true rfl) (Nat.le_of_ble_eq_true rfl) d_Md_init_269 (fun H hH hN hS => ?_)
  refine W.widen (k := 33) (n := 5266) (Nat.le_of_ble_eq_true rfl) (Nat.le_of_ble_eq_true rfl) ?_
  have hN : H.size = nx + 33 := by omega
  obtain ⟨σ_66, e66, h⟩ := fr_bind h
  refine fr_putPFN (ty := (.array (.int))) hx hb hts in_Md ty_Md tk_Md nm_Md hown hK hH hN hS ⟨rfl, rfl⟩ e66 rfl 42 (by decide) (hts _ k_582) (fun _ h9 => h9) rfl hin rfl (by decide +kernel) (fs_0_42 _ _ _) (Nat.le_of_ble_eq_true rfl) d_Md_init_271 (fun H locs hH hN hS => ?_)
  refine lv_aload_n hx hb d_Md_init_274 rfl (lv_at hl 0 rfl) ?_
  refine lv_bipush (v := 40) hx hb d_Md_init_275 (by decide) ?_
  obtain ⟨σ_67, e67, h⟩ := fr_bind h
  refine fr_newI0 e67 hx hb (hts _ k_80) hK hH hS hA hN (by decide) (by decide) (by decide) (Nat.le_of_ble_eq_true rfl) (Nat.le_of_ble_eq_true rfl) d_Md_init_277 (fun H hH hN hS => ?_)
  refine W.widen (k := 34) (n := 5306) (Nat.le_of_ble_eq_true rfl) (Nat.le_of_ble_eq_true rfl) ?_
  have hN : H.size = nx + 34 := by omega
  obtain ⟨σ_68, e68, h⟩ := fr_bind h
  refine fr_putPFN (ty := (.array (.int))) hx hb hts in_Md ty_Md tk_Md nm_Md hown hK hH hN hS ⟨rfl, rfl⟩ e68 rfl 43 (by decide) (hts _ k_583) (fun _ h9 => h9) rfl hin rfl (by decide +kernel) (fs_0_43 _ _ _) (Nat.le_of_ble_eq_true rfl) d_Md_init_279 (fun H locs hH hN hS => ?_)
  refine lv_aload_n hx hb d_Md_init_282 rfl (lv_at hl 0 rfl) ?_
  refine lv_iload_n hx hb d_Md_init_283 rfl (lv_at hl 1 rfl) ?_
  refine lv_if_ge (tgt := 291) hx hb d_Md_init_284 (by decide) (fun c69 => ?_) (fun c69 => ?_)
  · replace h := fr_ift c69 h
    refine lv_iload_n hx hb d_Md_init_291 rfl (lv_at hl 1 rfl) ?_
    refine lv_iconst (v := 5) hx hb d_Md_init_292 (by decide) ?_
    refine lv_icmp_le (tgt := 300) hx hb d_Md_init_293 (by decide) (fun c70 => ?_) (fun c70 => ?_)
    · replace h := fr_ift c70 h
      refine lv_iload_n hx hb d_Md_init_300 rfl (lv_at hl 1 rfl) ?_
      obtain ⟨σ_71, e71, h⟩ := fr_bind h
      refine fr_putIFN hx hb hts in_Md ty_Md tk_Md nm_Md hown hK hH hN hS e71 rfl 0 (by decide) (hts _ k_540) (fun _ h9 => h9) rfl hin rfl (by decide +kernel) (fs_0_0 _ _ _) (Nat.le_of_ble_eq_true rfl) d_Md_init_301 (fun H locs hH hN hS => ?_)
      exact fr_vretN hx hb hr hlocks h hH hN hK hX hS d_Md_init_304
    · replace h := fr_iff c70 h
      refine lv_iconst (v := 5) hx hb d_Md_init_296 (by decide) ?_
      refine lv_goto (tgt := 301) hx hb d_Md_init_297 (by decide) ?_
      obtain ⟨σ_72, e72, h⟩ := fr_bind h
      refine fr_putIFN hx hb hts in_Md ty_Md tk_Md nm_Md hown hK hH hN hS e72 rfl 0 (by decide) (hts _ k_540) (fun _ h9 => h9) rfl hin rfl (by decide +kernel) (fs_0_0 _ _ _) (Nat.le_of_ble_eq_true rfl) d_Md_init_301 (fun H locs hH hN hS => ?_)
      exact fr_vretN hx hb hr hlocks h hH hN hK hX hS d_Md_init_304
  · replace h := fr_iff c69 h
    refine lv_iconst (v := 0) hx hb d_Md_init_287 (by decide) ?_
    refine lv_goto (tgt := 301) hx hb d_Md_init_288 (by decide) ?_
    obtain ⟨σ_73, e73, h⟩ := fr_bind h
    refine fr_putIFN hx hb hts in_Md ty_Md tk_Md nm_Md hown hK hH hN hS e73 rfl 0 (by decide) (hts _ k_540) (fun _ h9 => h9) rfl hin rfl (by decide +kernel) (fs_0_0 _ _ _) (Nat.le_of_ble_eq_true rfl) d_Md_init_301 (fun H locs hH hN hS => ?_)
    exact fr_vretN hx hb hr hlocks h hH hN hK hX hS d_Md_init_304
