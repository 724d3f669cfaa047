set_option maxHeartbeats 4000000 in
set_option maxRecDepth 100000 in
theorem w_law_L {p : Program} {l : Launch} {e : Env} {s : State} {m : MethodId} {below : List Frame} {meth : Method} {c : Code} {D : va_G} {T : Nat → ClassId} {Ax Am : Nat → Prop} {b L bx bm : Nat} {xs : Nat → Int32} (C0 : fl_At p s m meth c b L xs D T Ax Am) (hr : meth.sig.returnType = ret) (hlocks : meth.locks = false) : ∀ (n : Nat) (i : Int32) (σ τ : fr_S) (u : Unit), m_law_L xs L bx bm n i σ τ = some u → ∀ (H : Heap) (locs : List Loc), fr_H D T Ax σ H → fr_H D T Am τ H → va_S (fun q => s.heap.size ≤ q) s.heap H locs → ∀ (ls : Array Slot), lv_has ls 4 [(0, .ref b), (1, .ref bx), (2, .ref bm), (3, .int i)] → W p l e room_1 s m #[Value.ref b] below meth c H locs 161 9742 (lw_Z below #[Value.ref b] s) (F0 m 28 ls []) := by
  obtain ⟨hx, hb, hml, hown, hts, hX, hbl, hbA, hK, hXs, hXA, hMA, hdx, hdm⟩ := id C0
  intro n
  induction n with
  | zero => intro i σ τ u h; cases h
  | succ n ih =>
    intro i σ τ u h H locs hHx hHm hS ls hl
    unfold m_law_L at h
    refine lv_iload_n hx hb d_law_28 rfl (lv_at hl 3 rfl) ?_
    refine lv_aload_n hx hb d_law_29 rfl (lv_at hl 0 rfl) ?_
    refine va_slen hx hb hX hbl hbA hS d_law_30 ?_
    refine lv_iconst (v := 5) hx hb d_law_31 (by decide) ?_
    refine lv_isub hx hb d_law_32 ?_
    refine lv_icmp_gt (tgt := 775) hx hb d_law_33 (by decide) (fun c1 => ?_) (fun c1 => ?_)
    · refine lv_iconst (v := 1) hx hb d_law_775 (by decide) ?_
      refine va_forget (fun q hq => hS.2.2 q hq) ?_
      refine W.widen (k := 600000) (n := 7302250) (Nat.le_of_ble_eq_true rfl) (Nat.le_of_ble_eq_true rfl) ?_
      exact lw_ret hx hb hr hlocks d_law_776
    · replace h := fr_iff c1 h
      obtain ⟨v, e1, h⟩ := fr_bind h
      refine lv_aload_n hx hb d_law_36 rfl (lv_at hl 0 rfl) ?_
      refine lv_iload_n hx hb d_law_37 rfl (lv_at hl 3 rfl) ?_
      refine fl_sld hx hb hX hbl hbA hS e1 d_law_38 ?_
      refine lv_bipush (v := 31) hx hb d_law_39 (by decide) ?_
      refine lv_iand hx hb d_law_41 ?_
      by_cases k0 : (v &&& 31) = 0
      · replace h := fr_ift k0 h
        obtain ⟨z, e2, h⟩ := fr_bind h
        refine lv_tableIn (tgt := 132) hx hb d_law_42 (by rw [k0]; decide) (by rw [k0]; decide) (by rw [k0]; rfl) (by decide) ?_
        refine w_law_C0 C0 i σ τ z e2 _ _ hHx hHm hS ls hl (fun H locs ls hHx hHm hS hl => ?_)
        refine lv_iinc (v := (i + 5)) (lv' := [(3, .int (i + 5)), (0, .ref b), (1, .ref bx), (2, .ref bm)]) hx hb d_law_769 hl (k := 3) rfl rfl (by decide) rfl (fun ls hl => ?_)
        refine lv_goto (tgt := 28) hx hb d_law_772 (by decide) ?_
        exact ih (i + 5) z.1 z.2 u h _ _ hHx hHm hS ls (lv_sub hl [1, 2, 3, 0] rfl)
      · replace h := fr_iff k0 h
        by_cases k1 : (v &&& 31) = 1
        · replace h := fr_ift k1 h
          obtain ⟨z, e2, h⟩ := fr_bind h
          refine lv_tableIn (tgt := 181) hx hb d_law_42 (by rw [k1]; decide) (by rw [k1]; decide) (by rw [k1]; rfl) (by decide) ?_
          refine w_law_C1 C0 i σ τ z e2 _ _ hHx hHm hS ls hl (fun H locs ls hHx hHm hS hl => ?_)
          refine lv_iinc (v := (i + 5)) (lv' := [(3, .int (i + 5)), (0, .ref b), (1, .ref bx), (2, .ref bm)]) hx hb d_law_769 hl (k := 3) rfl rfl (by decide) rfl (fun ls hl => ?_)
          refine lv_goto (tgt := 28) hx hb d_law_772 (by decide) ?_
          exact ih (i + 5) z.1 z.2 u h _ _ hHx hHm hS ls (lv_sub hl [1, 2, 3, 0] rfl)
        · replace h := fr_iff k1 h
          by_cases k2 : (v &&& 31) = 2
          · replace h := fr_ift k2 h
            obtain ⟨z, e2, h⟩ := fr_bind h
            refine lv_tableIn (tgt := 214) hx hb d_law_42 (by rw [k2]; decide) (by rw [k2]; decide) (by rw [k2]; rfl) (by decide) ?_
            refine w_law_C2 C0 i σ τ z e2 _ _ hHx hHm hS ls hl (fun H locs ls hHx hHm hS hl => ?_)
            refine lv_iinc (v := (i + 5)) (lv' := [(3, .int (i + 5)), (0, .ref b), (1, .ref bx), (2, .ref bm)]) hx hb d_law_769 hl (k := 3) rfl rfl (by decide) rfl (fun ls hl => ?_)
            refine lv_goto (tgt := 28) hx hb d_law_772 (by decide) ?_
            exact ih (i + 5) z.1 z.2 u h _ _ hHx hHm hS ls (lv_sub hl [1, 2, 3, 0] rfl)
          · replace h := fr_iff k2 h
            by_cases k3 : (v &&& 31) = 3
            · replace h := fr_ift k3 h
              obtain ⟨z, e2, h⟩ := fr_bind h
              refine lv_tableIn (tgt := 287) hx hb d_law_42 (by rw [k3]; decide) (by rw [k3]; decide) (by rw [k3]; rfl) (by decide) ?_
              refine w_law_C3 C0 i σ τ z e2 _ _ hHx hHm hS ls hl (fun H locs ls hHx hHm hS hl => ?_)
              refine lv_iinc (v := (i + 5)) (lv' := [(3, .int (i + 5)), (0, .ref b), (1, .ref bx), (2, .ref bm)]) hx hb d_law_769 hl (k := 3) rfl rfl (by decide) rfl (fun ls hl => ?_)
              refine lv_goto (tgt := 28) hx hb d_law_772 (by decide) ?_
              exact ih (i + 5) z.1 z.2 u h _ _ hHx hHm hS ls (lv_sub hl [1, 2, 3, 0] rfl)
            · replace h := fr_iff k3 h
              by_cases k4 : (v &&& 31) = 4
              · replace h := fr_ift k4 h
                obtain ⟨z, e2, h⟩ := fr_bind h
                refine lv_tableIn (tgt := 330) hx hb d_law_42 (by rw [k4]; decide) (by rw [k4]; decide) (by rw [k4]; rfl) (by decide) ?_
                refine w_law_C4 C0 i σ τ z e2 _ _ hHx hHm hS ls hl (fun H locs ls hHx hHm hS hl => ?_)
                refine lv_iinc (v := (i + 5)) (lv' := [(3, .int (i + 5)), (0, .ref b), (1, .ref bx), (2, .ref bm)]) hx hb d_law_769 hl (k := 3) rfl rfl (by decide) rfl (fun ls hl => ?_)
                refine lv_goto (tgt := 28) hx hb d_law_772 (by decide) ?_
                exact ih (i + 5) z.1 z.2 u h _ _ hHx hHm hS ls (lv_sub hl [1, 2, 3, 0] rfl)
              · replace h := fr_iff k4 h
                by_cases k5 : (v &&& 31) = 5
                · replace h := fr_ift k5 h
                  obtain ⟨z, e2, h⟩ := fr_bind h
                  refine lv_tableIn (tgt := 373) hx hb d_law_42 (by rw [k5]; decide) (by rw [k5]; decide) (by rw [k5]; rfl) (by decide) ?_
                  refine w_law_C5 C0 i σ τ z e2 _ _ hHx hHm hS ls hl (fun H locs ls hHx hHm hS hl => ?_)
                  refine lv_iinc (v := (i + 5)) (lv' := [(3, .int (i + 5)), (0, .ref b), (1, .ref bx), (2, .ref bm)]) hx hb d_law_769 hl (k := 3) rfl rfl (by decide) rfl (fun ls hl => ?_)
                  refine lv_goto (tgt := 28) hx hb d_law_772 (by decide) ?_
                  exact ih (i + 5) z.1 z.2 u h _ _ hHx hHm hS ls (lv_sub hl [1, 2, 3, 0] rfl)
                · replace h := fr_iff k5 h
                  by_cases k6 : (v &&& 31) = 6
                  · replace h := fr_ift k6 h
                    obtain ⟨z, e2, h⟩ := fr_bind h
                    refine lv_tableIn (tgt := 396) hx hb d_law_42 (by rw [k6]; decide) (by rw [k6]; decide) (by rw [k6]; rfl) (by decide) ?_
                    refine w_law_C6 C0 i σ τ z e2 _ _ hHx hHm hS ls hl (fun H locs ls hHx hHm hS hl => ?_)
                    refine lv_iinc (v := (i + 5)) (lv' := [(3, .int (i + 5)), (0, .ref b), (1, .ref bx), (2, .ref bm)]) hx hb d_law_769 hl (k := 3) rfl rfl (by decide) rfl (fun ls hl => ?_)
                    refine lv_goto (tgt := 28) hx hb d_law_772 (by decide) ?_
                    exact ih (i + 5) z.1 z.2 u h _ _ hHx hHm hS ls (lv_sub hl [1, 2, 3, 0] rfl)
                  · replace h := fr_iff k6 h
                    by_cases k7 : (v &&& 31) = 7
                    · replace h := fr_ift k7 h
                      obtain ⟨z, e2, h⟩ := fr_bind h
                      refine lv_tableIn (tgt := 419) hx hb d_law_42 (by rw [k7]; decide) (by rw [k7]; decide) (by rw [k7]; rfl) (by decide) ?_
                      refine w_law_C7 C0 i σ τ z e2 _ _ hHx hHm hS ls hl (fun H locs ls hHx hHm hS hl => ?_)
                      refine lv_iinc (v := (i + 5)) (lv' := [(3, .int (i + 5)), (0, .ref b), (1, .ref bx), (2, .ref bm)]) hx hb d_law_769 hl (k := 3) rfl rfl (by decide) rfl (fun ls hl => ?_)
                      refine lv_goto (tgt := 28) hx hb d_law_772 (by decide) ?_
                      exact ih (i + 5) z.1 z.2 u h _ _ hHx hHm hS ls (lv_sub hl [1, 2, 3, 0] rfl)
                    · replace h := fr_iff k7 h
                      by_cases k8 : (v &&& 31) = 8
                      · replace h := fr_ift k8 h
                        obtain ⟨z, e2, h⟩ := fr_bind h
                        refine lv_tableIn (tgt := 452) hx hb d_law_42 (by rw [k8]; decide) (by rw [k8]; decide) (by rw [k8]; rfl) (by decide) ?_
                        refine w_law_C8 C0 i σ τ z e2 _ _ hHx hHm hS ls hl (fun H locs ls hHx hHm hS hl => ?_)
                        refine lv_iinc (v := (i + 5)) (lv' := [(3, .int (i + 5)), (0, .ref b), (1, .ref bx), (2, .ref bm)]) hx hb d_law_769 hl (k := 3) rfl rfl (by decide) rfl (fun ls hl => ?_)
                        refine lv_goto (tgt := 28) hx hb d_law_772 (by decide) ?_
                        exact ih (i + 5) z.1 z.2 u h _ _ hHx hHm hS ls (lv_sub hl [1, 2, 3, 0] rfl)
                      · replace h := fr_iff k8 h
                        by_cases k9 : (v &&& 31) = 9
                        · replace h := fr_ift k9 h
                          obtain ⟨z, e2, h⟩ := fr_bind h
                          refine lv_tableIn (tgt := 489) hx hb d_law_42 (by rw [k9]; decide) (by rw [k9]; decide) (by rw [k9]; rfl) (by decide) ?_
                          refine w_law_C9 C0 i σ τ z e2 _ _ hHx hHm hS ls hl (fun H locs ls hHx hHm hS hl => ?_)
                          refine lv_iinc (v := (i + 5)) (lv' := [(3, .int (i + 5)), (0, .ref b), (1, .ref bx), (2, .ref bm)]) hx hb d_law_769 hl (k := 3) rfl rfl (by decide) rfl (fun ls hl => ?_)
                          refine lv_goto (tgt := 28) hx hb d_law_772 (by decide) ?_
                          exact ih (i + 5) z.1 z.2 u h _ _ hHx hHm hS ls (lv_sub hl [1, 2, 3, 0] rfl)
                        · replace h := fr_iff k9 h
                          by_cases k10 : (v &&& 31) = 10
                          · replace h := fr_ift k10 h
                            obtain ⟨z, e2, h⟩ := fr_bind h
                            refine lv_tableIn (tgt := 512) hx hb d_law_42 (by rw [k10]; decide) (by rw [k10]; decide) (by rw [k10]; rfl) (by decide) ?_
                            refine w_law_C10 C0 i σ τ z e2 _ _ hHx hHm hS ls hl (fun H locs ls hHx hHm hS hl => ?_)
                            refine lv_iinc (v := (i + 5)) (lv' := [(3, .int (i + 5)), (0, .ref b), (1, .ref bx), (2, .ref bm)]) hx hb d_law_769 hl (k := 3) rfl rfl (by decide) rfl (fun ls hl => ?_)
                            refine lv_goto (tgt := 28) hx hb d_law_772 (by decide) ?_
                            exact ih (i + 5) z.1 z.2 u h _ _ hHx hHm hS ls (lv_sub hl [1, 2, 3, 0] rfl)
                          · replace h := fr_iff k10 h
                            by_cases k11 : (v &&& 31) = 11
                            · replace h := fr_ift k11 h
                              obtain ⟨z, e2, h⟩ := fr_bind h
                              refine lv_tableIn (tgt := 535) hx hb d_law_42 (by rw [k11]; decide) (by rw [k11]; decide) (by rw [k11]; rfl) (by decide) ?_
                              refine w_law_C11 C0 i σ τ z e2 _ _ hHx hHm hS ls hl (fun H locs ls hHx hHm hS hl => ?_)
                              refine lv_iinc (v := (i + 5)) (lv' := [(3, .int (i + 5)), (0, .ref b), (1, .ref bx), (2, .ref bm)]) hx hb d_law_769 hl (k := 3) rfl rfl (by decide) rfl (fun ls hl => ?_)
                              refine lv_goto (tgt := 28) hx hb d_law_772 (by decide) ?_
                              exact ih (i + 5) z.1 z.2 u h _ _ hHx hHm hS ls (lv_sub hl [1, 2, 3, 0] rfl)
                            · replace h := fr_iff k11 h
                              by_cases k12 : (v &&& 31) = 12
                              · replace h := fr_ift k12 h
                                obtain ⟨z, e2, h⟩ := fr_bind h
                                refine lv_tableIn (tgt := 568) hx hb d_law_42 (by rw [k12]; decide) (by rw [k12]; decide) (by rw [k12]; rfl) (by decide) ?_
                                refine w_law_C12 C0 i σ τ z e2 _ _ hHx hHm hS ls hl (fun H locs ls hHx hHm hS hl => ?_)
                                refine lv_iinc (v := (i + 5)) (lv' := [(3, .int (i + 5)), (0, .ref b), (1, .ref bx), (2, .ref bm)]) hx hb d_law_769 hl (k := 3) rfl rfl (by decide) rfl (fun ls hl => ?_)
                                refine lv_goto (tgt := 28) hx hb d_law_772 (by decide) ?_
                                exact ih (i + 5) z.1 z.2 u h _ _ hHx hHm hS ls (lv_sub hl [1, 2, 3, 0] rfl)
                              · replace h := fr_iff k12 h
                                by_cases k13 : (v &&& 31) = 13
                                · replace h := fr_ift k13 h
                                  obtain ⟨z, e2, h⟩ := fr_bind h
                                  refine lv_tableIn (tgt := 601) hx hb d_law_42 (by rw [k13]; decide) (by rw [k13]; decide) (by rw [k13]; rfl) (by decide) ?_
                                  refine w_law_C13 C0 i σ τ z e2 _ _ hHx hHm hS ls hl (fun H locs ls hHx hHm hS hl => ?_)
                                  refine lv_iinc (v := (i + 5)) (lv' := [(3, .int (i + 5)), (0, .ref b), (1, .ref bx), (2, .ref bm)]) hx hb d_law_769 hl (k := 3) rfl rfl (by decide) rfl (fun ls hl => ?_)
                                  refine lv_goto (tgt := 28) hx hb d_law_772 (by decide) ?_
                                  exact ih (i + 5) z.1 z.2 u h _ _ hHx hHm hS ls (lv_sub hl [1, 2, 3, 0] rfl)
                                · replace h := fr_iff k13 h
                                  by_cases k14 : (v &&& 31) = 14
                                  · replace h := fr_ift k14 h
                                    obtain ⟨z, e2, h⟩ := fr_bind h
                                    refine lv_tableIn (tgt := 634) hx hb d_law_42 (by rw [k14]; decide) (by rw [k14]; decide) (by rw [k14]; rfl) (by decide) ?_
                                    refine w_law_C14 C0 i σ τ z e2 _ _ hHx hHm hS ls hl (fun H locs ls hHx hHm hS hl => ?_)
                                    refine lv_iinc (v := (i + 5)) (lv' := [(3, .int (i + 5)), (0, .ref b), (1, .ref bx), (2, .ref bm)]) hx hb d_law_769 hl (k := 3) rfl rfl (by decide) rfl (fun ls hl => ?_)
                                    refine lv_goto (tgt := 28) hx hb d_law_772 (by decide) ?_
                                    exact ih (i + 5) z.1 z.2 u h _ _ hHx hHm hS ls (lv_sub hl [1, 2, 3, 0] rfl)
                                  · replace h := fr_iff k14 h
                                    by_cases k15 : (v &&& 31) = 15
                                    · replace h := fr_ift k15 h
                                      obtain ⟨z, e2, h⟩ := fr_bind h
                                      refine lv_tableIn (tgt := 657) hx hb d_law_42 (by rw [k15]; decide) (by rw [k15]; decide) (by rw [k15]; rfl) (by decide) ?_
                                      refine w_law_C15 C0 i σ τ z e2 _ _ hHx hHm hS ls hl (fun H locs ls hHx hHm hS hl => ?_)
                                      refine lv_iinc (v := (i + 5)) (lv' := [(3, .int (i + 5)), (0, .ref b), (1, .ref bx), (2, .ref bm)]) hx hb d_law_769 hl (k := 3) rfl rfl (by decide) rfl (fun ls hl => ?_)
                                      refine lv_goto (tgt := 28) hx hb d_law_772 (by decide) ?_
                                      exact ih (i + 5) z.1 z.2 u h _ _ hHx hHm hS ls (lv_sub hl [1, 2, 3, 0] rfl)
                                    · replace h := fr_iff k15 h
                                      by_cases k16 : (v &&& 31) = 16
                                      · replace h := fr_ift k16 h
                                        obtain ⟨z, e2, h⟩ := fr_bind h
                                        refine lv_tableIn (tgt := 680) hx hb d_law_42 (by rw [k16]; decide) (by rw [k16]; decide) (by rw [k16]; rfl) (by decide) ?_
                                        refine w_law_C16 C0 i σ τ z e2 _ _ hHx hHm hS ls hl (fun H locs ls hHx hHm hS hl => ?_)
                                        refine lv_iinc (v := (i + 5)) (lv' := [(3, .int (i + 5)), (0, .ref b), (1, .ref bx), (2, .ref bm)]) hx hb d_law_769 hl (k := 3) rfl rfl (by decide) rfl (fun ls hl => ?_)
                                        refine lv_goto (tgt := 28) hx hb d_law_772 (by decide) ?_
                                        exact ih (i + 5) z.1 z.2 u h _ _ hHx hHm hS ls (lv_sub hl [1, 2, 3, 0] rfl)
                                      · replace h := fr_iff k16 h
                                        by_cases k17 : (v &&& 31) = 17
                                        · replace h := fr_ift k17 h
                                          obtain ⟨z, e2, h⟩ := fr_bind h
                                          refine lv_tableIn (tgt := 703) hx hb d_law_42 (by rw [k17]; decide) (by rw [k17]; decide) (by rw [k17]; rfl) (by decide) ?_
                                          refine w_law_C17 C0 i σ τ z e2 _ _ hHx hHm hS ls hl (fun H locs ls hHx hHm hS hl => ?_)
                                          refine lv_iinc (v := (i + 5)) (lv' := [(3, .int (i + 5)), (0, .ref b), (1, .ref bx), (2, .ref bm)]) hx hb d_law_769 hl (k := 3) rfl rfl (by decide) rfl (fun ls hl => ?_)
                                          refine lv_goto (tgt := 28) hx hb d_law_772 (by decide) ?_
                                          exact ih (i + 5) z.1 z.2 u h _ _ hHx hHm hS ls (lv_sub hl [1, 2, 3, 0] rfl)
                                        · replace h := fr_iff k17 h
                                          by_cases k18 : (v &&& 31) = 18
                                          · replace h := fr_ift k18 h
                                            obtain ⟨z, e2, h⟩ := fr_bind h
                                            refine lv_tableIn (tgt := 736) hx hb d_law_42 (by rw [k18]; decide) (by rw [k18]; decide) (by rw [k18]; rfl) (by decide) ?_
                                            refine w_law_C18 C0 i σ τ z e2 _ _ hHx hHm hS ls hl (fun H locs ls hHx hHm hS hl => ?_)
                                            refine lv_iinc (v := (i + 5)) (lv' := [(3, .int (i + 5)), (0, .ref b), (1, .ref bx), (2, .ref bm)]) hx hb d_law_769 hl (k := 3) rfl rfl (by decide) rfl (fun ls hl => ?_)
                                            refine lv_goto (tgt := 28) hx hb d_law_772 (by decide) ?_
                                            exact ih (i + 5) z.1 z.2 u h _ _ hHx hHm hS ls (lv_sub hl [1, 2, 3, 0] rfl)
                                          · replace h := fr_iff k18 h
                                            refine lv_tableOut (tgt := 769) hx hb d_law_42 (by have z0 := lv_neT k0 (a := 0) (by decide); have z1 := lv_neT k1 (a := 1) (by decide); have z2 := lv_neT k2 (a := 2) (by decide); have z3 := lv_neT k3 (a := 3) (by decide); have z4 := lv_neT k4 (a := 4) (by decide); have z5 := lv_neT k5 (a := 5) (by decide); have z6 := lv_neT k6 (a := 6) (by decide); have z7 := lv_neT k7 (a := 7) (by decide); have z8 := lv_neT k8 (a := 8) (by decide); have z9 := lv_neT k9 (a := 9) (by decide); have z10 := lv_neT k10 (a := 10) (by decide); have z11 := lv_neT k11 (a := 11) (by decide); have z12 := lv_neT k12 (a := 12) (by decide); have z13 := lv_neT k13 (a := 13) (by decide); have z14 := lv_neT k14 (a := 14) (by decide); have z15 := lv_neT k15 (a := 15) (by decide); have z16 := lv_neT k16 (a := 16) (by decide); have z17 := lv_neT k17 (a := 17) (by decide); have z18 := lv_neT k18 (a := 18) (by decide); omega) (by decide) ?_
                                            refine lv_iinc (v := (i + 5)) (lv' := [(3, .int (i + 5)), (0, .ref b), (1, .ref bx), (2, .ref bm)]) hx hb d_law_769 hl (k := 3) rfl rfl (by decide) rfl (fun ls hl => ?_)
                                            refine lv_goto (tgt := 28) hx hb d_law_772 (by decide) ?_
                                            exact ih (i + 5) σ τ u h _ _ hHx hHm hS ls (lv_sub hl [1, 2, 3, 0] rfl)
