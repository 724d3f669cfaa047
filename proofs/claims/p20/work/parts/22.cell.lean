theorem d_cell_0 : decode b_cell 0 = .ok (.iload_n 1, 1) := by decide +kernel
theorem d_cell_1 : decode b_cell 1 = .ok (.aload_n 0, 1) := by decide +kernel
theorem d_cell_2 : decode b_cell 2 = .ok (.arraylength, 1) := by decide +kernel
theorem d_cell_3 : decode b_cell 3 = .ok (.if_icmp .ge 9, 3) := by decide +kernel
theorem d_cell_6 : decode b_cell 6 = .ok (.aload_n 0, 1) := by decide +kernel
theorem d_cell_7 : decode b_cell 7 = .ok (.iload_n 1, 1) := by decide +kernel
theorem d_cell_8 : decode b_cell 8 = .ok (.iaload, 1) := by decide +kernel
theorem d_cell_9 : decode b_cell 9 = .ok (.goto 4, 3) := by decide +kernel
theorem d_cell_12 : decode b_cell 12 = .ok (.iconst 0, 1) := by decide +kernel
theorem d_cell_13 : decode b_cell 13 = .ok (.ireturn, 1) := by decide +kernel
set_option maxHeartbeats 4000000 in
set_option maxRecDepth 100000 in
theorem c_cell (l : Launch) (b L : Nat) (xs : Nat → Int32) (k r : Int32) (h : m_cell xs L k = some r) : Met l y_cell (Cond.code y_cell b_cell 2 (some .int) :: fr_W) ({ frames := 0, cells := 0, slots := 0, locals := 0 } : Room) (va_Pc [.ref b, .int k] (fun U => va_X b L xs U U.heap ∧ b < U.heap.size)) (fl_Q r) 0 0 (fun _ => False) := by
  refine Met.ofW (cc := b_cell) (maxL := 2) (ret := (some .int)) (by decide) rfl ?_
  intro p e s m args below meth c s₁ B hml hv
  obtain ⟨rfl, hX, hbl⟩ := hv
  have C0 : fr_At p s m _ meth c "FetchRulesLaw" b_cell 2 (some .int) := fr_at B hml
  obtain ⟨hx, hb, hr, hml, hown, hts, hlocks⟩ := id C0
  have hS : va_S (fun _ => False) s.heap s.heap [] := va_S.rf
  have hbA : ¬ (fun _ : Nat => False) b := fun z => z
  have hl := lv_entry ([.ref b, .int k]) (n := 2) (Nat.le_of_ble_eq_true rfl)
  rw [lg_entry_eq]
  generalize (lg_sl ([.ref b, .int k]) ++ List.replicate (2 - (lg_sl ([.ref b, .int k])).length) Slot.unset).toArray = ls at hl ⊢
  have hl : lv_has ls 2 [(0, .ref b), (1, .int k)] := hl
  unfold m_cell at h
  refine lv_iload_n hx hb d_cell_0 rfl (lv_at hl 1 rfl) ?_
  refine lv_aload_n hx hb d_cell_1 rfl (lv_at hl 0 rfl) ?_
  refine va_slen hx hb hX hbl hbA hS d_cell_2 ?_
  refine lv_icmp_ge (tgt := 12) hx hb d_cell_3 (by decide) (fun c1 => ?_) (fun c1 => ?_)
  · replace h := fr_ift c1 h
    cases h
    refine lv_iconst (v := 0) hx hb d_cell_12 (by decide) ?_
    exact W.iret hx hb hr (fun t ht hW => ⟨rfl, ht⟩) hS.2.2 d_cell_13 (hlocks := hlocks)
  · replace h := fr_iff c1 h
    refine lv_aload_n hx hb d_cell_6 rfl (lv_at hl 0 rfl) ?_
    refine lv_iload_n hx hb d_cell_7 rfl (lv_at hl 1 rfl) ?_
    refine fl_sld hx hb hX hbl hbA hS h d_cell_8 ?_
    refine lv_goto (tgt := 13) hx hb d_cell_9 (by decide) ?_
    exact W.iret hx hb hr (fun t ht hW => ⟨rfl, ht⟩) hS.2.2 d_cell_13 (hlocks := hlocks)
