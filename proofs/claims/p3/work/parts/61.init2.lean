/-! THE CLASS as it is made -/
/-- the cells that P names are as they were -/
def Sam (P : Nat → Prop) (σ σ' : fr_S) : Prop := ∀ a, P a → gK σ' a = gK σ a ∧ (∀ f, gI σ' f a = gI σ f a) ∧ (∀ f, gP σ' f a = gP σ f a) ∧ gV σ' a = gV σ a ∧ gQ σ' a = gQ σ a
theorem Sam_rf {P : Nat → Prop} {σ : fr_S} : Sam P σ σ := fun _ _ => ⟨rfl, fun _ => rfl, fun _ => rfl, rfl, rfl⟩
theorem Sam_tr {P Q R : Nat → Prop} {σ σ' σ'' : fr_S} (h : Sam P σ σ') (h' : Sam Q σ' σ'') (h1 : ∀ a, R a → P a ∧ Q a) : Sam R σ σ'' := fun a ha =>
  ⟨(h' a (h1 a ha).2).1.trans (h a (h1 a ha).1).1, fun f => ((h' a (h1 a ha).2).2.1 f).trans ((h a (h1 a ha).1).2.1 f), fun f => ((h' a (h1 a ha).2).2.2.1 f).trans ((h a (h1 a ha).1).2.2.1 f), (h' a (h1 a ha).2).2.2.2.1.trans (h a (h1 a ha).1).2.2.2.1, (h' a (h1 a ha).2).2.2.2.2.trans (h a (h1 a ha).1).2.2.2.2⟩
theorem Sam_mo {P R : Nat → Prop} {σ σ' : fr_S} (h : Sam P σ σ') (h1 : ∀ a, R a → P a) : Sam R σ σ' := fun a ha => h a (h1 a ha)
theorem Sam_pN {P : Nat → Prop} {σ σ' : fr_S} {a : Nat} {k : fr_K} (h : Sam P σ σ') (hn : ∀ x, P x → x ≠ a) : Sam P σ (pN σ' a k) := fun x hx => by
  have hne := hn x hx
  rw [z_gV_pN, if_neg hne, z_gQ_pN, if_neg hne]
  exact ⟨by rw [z_gK_pN, if_neg hne]; exact (h x hx).1, fun f => by rw [z_gI_pN, if_neg hne]; exact (h x hx).2.1 f, fun f => by rw [z_gP_pN, if_neg hne]; exact (h x hx).2.2.1 f, (h x hx).2.2.2.1, (h x hx).2.2.2.2⟩
theorem Sam_pI {P : Nat → Prop} {σ σ' : fr_S} {f a : Nat} {v : Int32} (h : Sam P σ σ') (hn : ∀ x, P x → x ≠ a) : Sam P σ (pI σ' f a v) := fun x hx =>
  ⟨(h x hx).1, fun g => by rw [gI_pIa (hn x hx)]; exact (h x hx).2.1 g, (h x hx).2.2.1, (h x hx).2.2.2.1, (h x hx).2.2.2.2⟩
theorem Sam_pP {P : Nat → Prop} {σ σ' : fr_S} {f a : Nat} {v : Option Nat} (h : Sam P σ σ') (hn : ∀ x, P x → x ≠ a) : Sam P σ (pP σ' f a v) := fun x hx =>
  ⟨(h x hx).1, (h x hx).2.1, fun g => by rw [z_gP_pP, if_neg (fun z => hn x hx z.2)]; exact (h x hx).2.2.1 g, (h x hx).2.2.2.1, (h x hx).2.2.2.2⟩
theorem Sam_pB {P : Nat → Prop} {σ σ' : fr_S} {a : Nat} {u : Nat → Option Nat} (h : Sam P σ σ') (hn : ∀ x, P x → x ≠ a) : Sam P σ (pB σ' a u) := fun x hx =>
  ⟨(h x hx).1, (h x hx).2.1, (h x hx).2.2.1, (h x hx).2.2.2.1, by rw [z_gQ_pB, if_neg (hn x hx)]; exact (h x hx).2.2.2.2⟩
def R0 (σ : fr_S) (r v : Nat) : Prop := RowAt σ r v ∧ gI σ 257 r = 0 ∧ ∀ k, gV σ v k = 0
theorem R0_s {P : Nat → Prop} {σ σ' : fr_S} {r v : Nat} (h : R0 σ r v) (hs : Sam P σ σ') (hr : P r) (hv : P v) : R0 σ' r v := by
  obtain ⟨⟨h1, h2, h3⟩, h4, h5⟩ := h
  exact ⟨⟨(hs r hr).1.trans h1, ((hs r hr).2.2.1 256).trans h2, (hs v hv).1.trans h3⟩, ((hs r hr).2.1 257).trans h4, fun k => (congrFun (hs v hv).2.2.2.1 k).trans (h5 k)⟩
theorem x_row0 {σ : fr_S} {r nx : Nat} (hk : gK σ r = some (.inl 4)) (hr : r < nx) : ev (m_Row_init r σ nx) (fun q => q.2 = nx + 1 ∧ R0 q.1 r nx ∧ Sam (fun a => a ≠ r ∧ a < nx) σ q.1) := by
  unfold m_Row_init
  refine ev_bs (a := pN σ nx (.inr (0, 100))) rfl ?_
  have k1 : gK (pN σ nx (.inr (0, 100))) r = some (.inl 4) := by rw [z_gK_pN, if_neg (by omega)]; exact hk
  refine ev_bs (sP_k k1) ?_
  refine ev_bs (sI_k (show gK (pP (pN σ nx (.inr (0, 100))) 256 r (some nx)) r = some (.inl 4) from k1)) ?_
  refine ev_some ⟨rfl, ⟨⟨k1, ?_, ?_⟩, gI_pIs, fun k => ?_⟩, ?_⟩
  · show gP (pP (pN σ nx (.inr (0, 100))) 256 r (some nx)) 256 r = some nx
    rw [z_gP_pP, if_pos ⟨rfl, rfl⟩]
  · show gK (pN σ nx (.inr (0, 100))) nx = _
    rw [z_gK_pN, if_pos rfl]
  · show gV (pN σ nx (.inr (0, 100))) nx k = 0
    rw [z_gV_pN, if_pos rfl]
  · refine Sam_pI (Sam_pP (Sam_pN Sam_rf (fun x hx => ?_)) (fun x hx => hx.1)) (fun x hx => hx.1)
    have := hx.2
    omega
def PL0 (σ : fr_S) (p r v : Nat) : Prop := gK σ p = some (.inl 3) ∧ gP σ 192 p = some r ∧ R0 σ r v ∧ gI σ 193 p = 0 ∧ gI σ 195 p = -1
theorem PL0_s {P : Nat → Prop} {σ σ' : fr_S} {p r v : Nat} (h : PL0 σ p r v) (hs : Sam P σ σ') (hp : P p) (hr : P r) (hv : P v) : PL0 σ' p r v := by
  obtain ⟨h1, h2, h3, h4, h5⟩ := h
  exact ⟨(hs p hp).1.trans h1, ((hs p hp).2.2.1 192).trans h2, R0_s h3 hs hr hv, ((hs p hp).2.1 193).trans h4, ((hs p hp).2.1 195).trans h5⟩
theorem x_place0 {σ : fr_S} {p nx : Nat} (hk : gK σ p = some (.inl 3)) (hp : p < nx) : ev (m_Place_init p σ nx) (fun q => q.2 = nx + 2 ∧ PL0 q.1 p nx (nx + 1) ∧ Sam (fun a => a ≠ p ∧ a < nx) σ q.1) := by
  unfold m_Place_init
  refine ev_bs (a := pN σ nx (.inl 4)) rfl ?_
  have k1 : gK (pN σ nx (.inl 4)) p = some (.inl 3) := by rw [z_gK_pN, if_neg (by omega)]; exact hk
  refine ev_b (x_row0 (σ := pN σ nx (.inl 4)) (r := nx) (nx := nx + 1) (by rw [z_gK_pN, if_pos rfl]) (by omega)) (fun w hw => ?_)
  obtain ⟨σ2, n2⟩ := w
  obtain ⟨w1, w2, w3⟩ := hw
  have w1 : n2 = nx + 1 + 1 := w1
  have w2 : R0 σ2 nx (nx + 1) := w2
  have w3 : Sam (fun a => a ≠ nx ∧ a < nx + 1) (pN σ nx (.inl 4)) σ2 := w3
  have s2 : Sam (fun a => a ≠ p ∧ a < nx) σ σ2 := Sam_tr (P := fun a => a ≠ p ∧ a < nx) (Sam_pN Sam_rf (fun x hx => by have := hx.2; omega)) w3 (fun a ha => ⟨ha, ⟨by have := ha.2; omega, by have := ha.2; omega⟩⟩)
  have k2 : gK σ2 p = some (.inl 3) := (w3 p ⟨by omega, by omega⟩).1.trans k1
  refine ev_bs (sP_k k2) ?_
  refine ev_bs (sI_k (show gK (pP σ2 192 p (some nx)) p = some (.inl 3) from k2)) ?_
  refine ev_bs (sI_k (show gK (pI (pP σ2 192 p (some nx)) 193 p 0) p = some (.inl 3) from k2)) ?_
  refine ev_bs (sI_k (show gK (pI (pI (pP σ2 192 p (some nx)) 193 p 0) 194 p 1) p = some (.inl 3) from k2)) ?_
  have a5 : PL0 (pI (pI (pI (pP σ2 192 p (some nx)) 193 p 0) 194 p 1) 195 p (-1)) p nx (nx + 1) := by
    refine ⟨k2, ?_, ?_, ?_, gI_pIs⟩
    · show gP (pP σ2 192 p (some nx)) 192 p = some nx
      rw [z_gP_pP, if_pos ⟨rfl, rfl⟩]
    · exact R0_s (P := fun a => a ≠ p) w2 (Sam_pI (Sam_pI (Sam_pI (Sam_pP Sam_rf (fun x hx => hx)) (fun x hx => hx)) (fun x hx => hx)) (fun x hx => hx)) (show nx ≠ p by omega) (show nx + 1 ≠ p by omega)
    · rw [gI_pIf (by decide), gI_pIf (by decide), gI_pIs]
  have s5 : Sam (fun a => a ≠ p ∧ a < nx) σ (pI (pI (pI (pP σ2 192 p (some nx)) 193 p 0) 194 p 1) 195 p (-1)) := Sam_pI (Sam_pI (Sam_pI (Sam_pP s2 (fun x hx => hx.1)) (fun x hx => hx.1)) (fun x hx => hx.1)) (fun x hx => hx.1)
  generalize pI (pI (pI (pP σ2 192 p (some nx)) 193 p 0) 194 p 1) 195 p (-1) = σ5 at a5 s5 ⊢
  have st : ∀ (τ : fr_S) (f : Nat) (v : Int32), f ≠ 193 → f ≠ 195 → f ≠ 257 → PL0 τ p nx (nx + 1) ∧ Sam (fun a => a ≠ p ∧ a < nx) σ τ → PL0 (pI τ f p v) p nx (nx + 1) ∧ Sam (fun a => a ≠ p ∧ a < nx) σ (pI τ f p v) := by
    intro τ f v f1 f2 f3 h
    obtain ⟨⟨h1, h2, h3, h4, h5⟩, h6⟩ := h
    exact ⟨⟨h1, h2, ⟨h3.1, by rw [gI_pIf (Ne.symm f3)]; exact h3.2.1, h3.2.2⟩, by rw [gI_pIf (Ne.symm f1)]; exact h4, by rw [gI_pIf (Ne.symm f2)]; exact h5⟩, Sam_pI h6 (fun x hx => hx.1)⟩
  have q6 := st σ5 196 0 (by decide) (by decide) (by decide) ⟨a5, s5⟩
  refine ev_bs (sI_k a5.1) ?_
  have q7 := st _ 197 0 (by decide) (by decide) (by decide) q6
  refine ev_bs (sI_k q6.1.1) ?_
  have q8 := st _ 198 0 (by decide) (by decide) (by decide) q7
  refine ev_bs (sZ_k q7.1.1 (Or.inl rfl)) ?_
  have q9 := st _ 199 0 (by decide) (by decide) (by decide) q8
  refine ev_bs (sZ_k q8.1.1 (Or.inl rfl)) ?_
  have q10 := st _ 200 0 (by decide) (by decide) (by decide) q9
  refine ev_bs (sZ_k q9.1.1 (Or.inl rfl)) ?_
  have q11 := st _ 201 0 (by decide) (by decide) (by decide) q10
  refine ev_bs (sZ_k q10.1.1 (Or.inl rfl)) ?_
  exact ev_some ⟨w1, q11⟩
def WT0 (σ : fr_S) (w r v n : Nat) : Prop := gK σ w = some (.inl 7) ∧ gP σ 448 w = some r ∧ R0 σ r v ∧ gP σ 449 w = some n ∧ gK σ n = some (.inr (0, 6)) ∧ gI σ 450 w = 0 ∧ gI σ 453 w = 0
theorem WT0_s {P : Nat → Prop} {σ σ' : fr_S} {w r v n : Nat} (h : WT0 σ w r v n) (hs : Sam P σ σ') (hw : P w) (hr : P r) (hv : P v) (hn : P n) : WT0 σ' w r v n := by
  obtain ⟨h1, h2, h3, h4, h5, h6, h7⟩ := h
  exact ⟨(hs w hw).1.trans h1, ((hs w hw).2.2.1 448).trans h2, R0_s h3 hs hr hv, ((hs w hw).2.2.1 449).trans h4, (hs n hn).1.trans h5, ((hs w hw).2.1 450).trans h6, ((hs w hw).2.1 453).trans h7⟩
theorem x_want0 {σ : fr_S} {w nx : Nat} (hk : gK σ w = some (.inl 7)) (hw : w < nx) : ev (m_Want_init w σ nx) (fun q => q.2 = nx + 3 ∧ WT0 q.1 w nx (nx + 1) (nx + 2) ∧ Sam (fun a => a ≠ w ∧ a < nx) σ q.1) := by
  unfold m_Want_init
  refine ev_bs (a := pN σ nx (.inl 4)) rfl ?_
  have k1 : gK (pN σ nx (.inl 4)) w = some (.inl 7) := by rw [z_gK_pN, if_neg (by omega)]; exact hk
  refine ev_b (x_row0 (σ := pN σ nx (.inl 4)) (r := nx) (nx := nx + 1) (by rw [z_gK_pN, if_pos rfl]) (by omega)) (fun z hz => ?_)
  obtain ⟨σ2, n2⟩ := z
  obtain ⟨w1, w2, w3⟩ := hz
  have w1 : n2 = nx + 2 := w1
  have w2 : R0 σ2 nx (nx + 1) := w2
  have w3 : Sam (fun a => a ≠ nx ∧ a < nx + 1) (pN σ nx (.inl 4)) σ2 := w3
  have s2 : Sam (fun a => a ≠ w ∧ a < nx) σ σ2 := Sam_tr (P := fun a => a ≠ w ∧ a < nx) (Sam_pN Sam_rf (fun x hx => by have := hx.2; omega)) w3 (fun a ha => ⟨ha, ⟨by have := ha.2; omega, by have := ha.2; omega⟩⟩)
  have k2 : gK σ2 w = some (.inl 7) := (w3 w ⟨by omega, by omega⟩).1.trans k1
  subst w1
  refine ev_bs (sP_k k2) ?_
  refine ev_bs (a := pN (pP σ2 448 w (some nx)) (nx + 2) (.inr (0, 6))) rfl ?_
  have k4 : gK (pN (pP σ2 448 w (some nx)) (nx + 2) (.inr (0, 6))) w = some (.inl 7) := by rw [z_gK_pN, if_neg (by omega)]; exact k2
  refine ev_bs (sP_k k4) ?_
  have a5 : (gK (pP (pN (pP σ2 448 w (some nx)) (nx + 2) (.inr (0, 6))) 449 w (some (nx + 2))) w = some (.inl 7) ∧ gP (pP (pN (pP σ2 448 w (some nx)) (nx + 2) (.inr (0, 6))) 449 w (some (nx + 2))) 448 w = some nx ∧ R0 (pP (pN (pP σ2 448 w (some nx)) (nx + 2) (.inr (0, 6))) 449 w (some (nx + 2))) nx (nx + 1) ∧ gP (pP (pN (pP σ2 448 w (some nx)) (nx + 2) (.inr (0, 6))) 449 w (some (nx + 2))) 449 w = some (nx + 2) ∧ gK (pP (pN (pP σ2 448 w (some nx)) (nx + 2) (.inr (0, 6))) 449 w (some (nx + 2))) (nx + 2) = some (.inr (0, 6))) := by
    refine ⟨k4, ?_, ?_, ?_, ?_⟩
    · rw [z_gP_pP, if_neg (fun z => absurd z.1 (by decide)), z_gP_pN, if_neg (by omega), z_gP_pP, if_pos ⟨rfl, rfl⟩]
    · exact R0_s (P := fun a => a ≠ w ∧ a ≠ nx + 2) w2 (Sam_pP (Sam_pN (Sam_pP Sam_rf (fun x hx => hx.1)) (fun x hx => hx.2)) (fun x hx => hx.1)) (show nx ≠ w ∧ nx ≠ nx + 2 by omega) (show nx + 1 ≠ w ∧ nx + 1 ≠ nx + 2 by omega)
    · rw [z_gP_pP, if_pos ⟨rfl, rfl⟩]
    · show gK (pN (pP σ2 448 w (some nx)) (nx + 2) (.inr (0, 6))) (nx + 2) = _
      rw [z_gK_pN, if_pos rfl]
  have s5 : Sam (fun a => a ≠ w ∧ a < nx) σ (pP (pN (pP σ2 448 w (some nx)) (nx + 2) (.inr (0, 6))) 449 w (some (nx + 2))) := Sam_pP (Sam_pN (Sam_pP s2 (fun x hx => hx.1)) (fun x hx => by have := hx.2; omega)) (fun x hx => hx.1)
  generalize pP (pN (pP σ2 448 w (some nx)) (nx + 2) (.inr (0, 6))) 449 w (some (nx + 2)) = σ5 at a5 s5 ⊢
  obtain ⟨b1, b2, b3, b4, b5⟩ := a5
  refine ev_bs (sI_k b1) ?_
  refine ev_bs (sI_k (show gK (pI σ5 450 w 0) w = some (.inl 7) from b1)) ?_
  refine ev_bs (sI_k (show gK (pI (pI σ5 450 w 0) 451 w 0) w = some (.inl 7) from b1)) ?_
  refine ev_bs (sI_k (show gK (pI (pI (pI σ5 450 w 0) 451 w 0) 452 w 0) w = some (.inl 7) from b1)) ?_
  have a9 : WT0 (pI (pI (pI (pI σ5 450 w 0) 451 w 0) 452 w 0) 453 w 0) w nx (nx + 1) (nx + 2) := by
    refine ⟨b1, b2, ?_, b4, b5, ?_, gI_pIs⟩
    · exact R0_s (P := fun a => a ≠ w) b3 (Sam_pI (Sam_pI (Sam_pI (Sam_pI Sam_rf (fun x hx => hx)) (fun x hx => hx)) (fun x hx => hx)) (fun x hx => hx)) (show nx ≠ w by omega) (show nx + 1 ≠ w by omega)
    · rw [gI_pIf (by decide), gI_pIf (by decide), gI_pIf (by decide), gI_pIs]
  have s9 : Sam (fun a => a ≠ w ∧ a < nx) σ (pI (pI (pI (pI σ5 450 w 0) 451 w 0) 452 w 0) 453 w 0) := Sam_pI (Sam_pI (Sam_pI (Sam_pI s5 (fun x hx => hx.1)) (fun x hx => hx.1)) (fun x hx => hx.1)) (fun x hx => hx.1)
  generalize pI (pI (pI (pI σ5 450 w 0) 451 w 0) 452 w 0) 453 w 0 = σ9 at a9 s9 ⊢
  have st : ∀ (τ : fr_S) (f : Nat) (v : Int32), f ≠ 450 → f ≠ 453 → f ≠ 257 → WT0 τ w nx (nx + 1) (nx + 2) ∧ Sam (fun a => a ≠ w ∧ a < nx) σ τ → WT0 (pI τ f w v) w nx (nx + 1) (nx + 2) ∧ Sam (fun a => a ≠ w ∧ a < nx) σ (pI τ f w v) := by
    intro τ f v f1 f2 f3 h
    obtain ⟨⟨h1, h2, h3, h4, h5, h6, h7⟩, h8⟩ := h
    exact ⟨⟨h1, h2, ⟨h3.1, by rw [gI_pIf (Ne.symm f3)]; exact h3.2.1, h3.2.2⟩, h4, h5, by rw [gI_pIf (Ne.symm f1)]; exact h6, by rw [gI_pIf (Ne.symm f2)]; exact h7⟩, Sam_pI h8 (fun x hx => hx.1)⟩
  have q10 := st σ9 454 0 (by decide) (by decide) (by decide) ⟨a9, s9⟩
  refine ev_bs (sI_k a9.1) ?_
  have q11 := st _ 455 0 (by decide) (by decide) (by decide) q10
  refine ev_bs (sI_k q10.1.1) ?_
  have q12 := st _ 456 0 (by decide) (by decide) (by decide) q11
  refine ev_bs (sI_k q11.1.1) ?_
  exact ev_some ⟨rfl, q12⟩
