theorem z_gK_pP {σ : fr_S} {f a b : Nat} {v : Option Nat} : gK (pP σ f a v) b = gK σ b := rfl
theorem z_gK_pI {σ : fr_S} {f a b : Nat} {v : Int32} : gK (pI σ f a v) b = gK σ b := rfl
theorem z_gI_pP {σ : fr_S} {f a g b : Nat} {v : Option Nat} : gI (pP σ f a v) g b = gI σ g b := rfl
theorem z_gP_pI {σ : fr_S} {f a g b : Nat} {v : Int32} : gP (pI σ f a v) g b = gP σ g b := rfl
/-- the store -/
def ST0 (σ : fr_S) (b : Nat) : Prop := (gK σ (b + 5) = some (.inl 5) ∧ gP σ 320 (b + 5) = some (b + 6) ∧ gK σ (b + 6) = some (.inr (0, 10)) ∧ gP σ 321 (b + 5) = some (b + 7) ∧ gK σ (b + 7) = some (.inr (4, 10))) ∧ gI σ 322 (b + 5) = 0 ∧ ∀ i, i < 10 → gQ σ (b + 7) i = some (b + 8 + 2 * i) ∧ R0 σ (b + 8 + 2 * i) (b + 9 + 2 * i)
theorem ST0_s {P : Nat → Prop} {σ σ' : fr_S} {b : Nat} (h : ST0 σ b) (hs : Sam P σ σ') (hp : ∀ a, b + 5 ≤ a → a < b + 28 → P a) : ST0 σ' b := by
  obtain ⟨⟨h1, h2, h3, h4, h5⟩, h6, h7⟩ := h
  have s5 := hs (b + 5) (hp _ (by omega) (by omega))
  have s6 := hs (b + 6) (hp _ (by omega) (by omega))
  have s7 := hs (b + 7) (hp _ (by omega) (by omega))
  refine ⟨⟨s5.1.trans h1, (s5.2.2.1 320).trans h2, s6.1.trans h3, (s5.2.2.1 321).trans h4, s7.1.trans h5⟩, (s5.2.1 322).trans h6, fun i hi => ?_⟩
  obtain ⟨g1, g2⟩ := h7 i hi
  exact ⟨(congrFun s7.2.2.2.2 i).trans g1, R0_s g2 hs (hp _ (by omega) (by omega)) (hp _ (by omega) (by omega))⟩
theorem x_store0 {b : Nat} {σ : fr_S} (hk : gK σ (b + 5) = some (.inl 5)) : ev (m_Store_init (b + 5) σ (b + 6)) (fun q => q.2 = b + 28 ∧ ST0 q.1 b ∧ Sam (fun a => a < b + 5) σ q.1) := by
  unfold m_Store_init
  refine ev_bs (a := pN σ (b + 6) (.inr (0, 10))) rfl ?_
  have k1 : gK (pN σ (b + 6) (.inr (0, 10))) (b + 5) = some (.inl 5) := by rw [z_gK_pN, if_neg (by omega)]; exact hk
  refine ev_bs (sP_k k1) ?_
  refine ev_bs (a := pN (pP (pN σ (b + 6) (.inr (0, 10))) 320 (b + 5) (some (b + 6))) (b + 7) (.inr (4, 10))) rfl ?_
  have k3 : gK (pN (pP (pN σ (b + 6) (.inr (0, 10))) 320 (b + 5) (some (b + 6))) (b + 7) (.inr (4, 10))) (b + 5) = some (.inl 5) := by rw [z_gK_pN, if_neg (by omega)]; exact k1
  refine ev_bs (sP_k k3) ?_
  refine ev_bs (sI_k (show gK (pP (pN (pP (pN σ (b + 6) (.inr (0, 10))) 320 (b + 5) (some (b + 6))) (b + 7) (.inr (4, 10))) 321 (b + 5) (some (b + 7))) (b + 5) = some (.inl 5) from k3)) ?_
  have f0 : ∀ σ5, σ5 = pI (pP (pN (pP (pN σ (b + 6) (.inr (0, 10))) 320 (b + 5) (some (b + 6))) (b + 7) (.inr (4, 10))) 321 (b + 5) (some (b + 7))) 322 (b + 5) 0 → ((gK σ5 (b + 5) = some (.inl 5) ∧ gP σ5 320 (b + 5) = some (b + 6) ∧ gK σ5 (b + 6) = some (.inr (0, 10)) ∧ gP σ5 321 (b + 5) = some (b + 7) ∧ gK σ5 (b + 7) = some (.inr (4, 10))) ∧ gI σ5 322 (b + 5) = 0) ∧ Sam (fun a => a < b + 5) σ σ5 := by
    intro σ5 e
    subst e
    refine ⟨⟨⟨k3, ?_, ?_, ?_, ?_⟩, gI_pIs⟩, ?_⟩
    · simp [z_gP_pI, z_gP_pP, z_gP_pN]
    · simp [z_gK_pI, z_gK_pP, z_gK_pN]
    · simp [z_gP_pI, z_gP_pP]
    · simp [z_gK_pI, z_gK_pP, z_gK_pN]
    · refine Sam_pI (Sam_pP (Sam_pN (Sam_pP (Sam_pN Sam_rf (fun x hx => ?_)) (fun x hx => ?_)) (fun x hx => ?_)) (fun x hx => ?_)) (fun x hx => ?_) <;> (have hx : x < b + 5 := hx; omega)
  have f0 := f0 _ rfl
  generalize pI (pP (pN (pP (pN σ (b + 6) (.inr (0, 10))) 320 (b + 5) (some (b + 6))) (b + 7) (.inr (4, 10))) 321 (b + 5) (some (b + 7))) 322 (b + 5) 0 = σ5 at f0 ⊢
  obtain ⟨⟨⟨h1, h2, h3, h4, h5⟩, h6⟩, h7⟩ := f0
  have key := x_store_L h1 h4 1000 0 σ5 ⟨Sam_rf, h5, fun i hi => by omega⟩ (by omega) (by omega)
  rw [nI_0] at key
  refine ev_mono key (fun q hq => ?_)
  obtain ⟨⟨g1, g2, g3⟩, g4⟩ := hq
  have s5 := g1 (b + 5) (show b + 5 < b + 8 ∧ b + 5 ≠ b + 7 by omega)
  have s6 := g1 (b + 6) (show b + 6 < b + 8 ∧ b + 6 ≠ b + 7 by omega)
  refine ⟨g4, ⟨⟨s5.1.trans h1, (s5.2.2.1 320).trans h2, s6.1.trans h3, (s5.2.2.1 321).trans h4, g2⟩, (s5.2.1 322).trans h6, g3⟩, ?_⟩
  exact Sam_tr h7 g1 (fun a ha => ⟨ha, show a < b + 8 ∧ a ≠ b + 7 by have ha : a < b + 5 := ha; omega⟩)
/-- the tellings -/
def TL0 (σ : fr_S) (h n : Nat) : Prop := (gK σ h = some (.inl 6) ∧ gP σ 384 h = some n ∧ gK σ n = some (.inr (0, 60)) ∧ gP σ 385 h = some (n + 1) ∧ gK σ (n + 1) = some (.inr (0, 60)) ∧ gP σ 386 h = some (n + 2) ∧ gK σ (n + 2) = some (.inr (0, 60))) ∧ gI σ 387 h = 0
theorem TL0_s {P : Nat → Prop} {σ σ' : fr_S} {h n : Nat} (hh : TL0 σ h n) (hs : Sam P σ σ') (p0 : P h) (p1 : P n) (p2 : P (n + 1)) (p3 : P (n + 2)) : TL0 σ' h n := by
  obtain ⟨⟨h1, h2, h3, h4, h5, h6, h7⟩, h8⟩ := hh
  have s0 := hs h p0
  exact ⟨⟨s0.1.trans h1, (s0.2.2.1 384).trans h2, (hs n p1).1.trans h3, (s0.2.2.1 385).trans h4, (hs (n + 1) p2).1.trans h5, (s0.2.2.1 386).trans h6, (hs (n + 2) p3).1.trans h7⟩, (s0.2.1 387).trans h8⟩
theorem x_tell0 {σ : fr_S} {h nx : Nat} (hk : gK σ h = some (.inl 6)) (hh : h < nx) : ev (m_Tellings_init h σ nx) (fun q => q.2 = nx + 3 ∧ TL0 q.1 h nx ∧ Sam (fun a => a ≠ h ∧ a < nx) σ q.1) := by
  have e0 : h ≠ nx := by omega
  have e1 : h ≠ nx + 1 := by omega
  have e2 : h ≠ nx + 2 := by omega
  unfold m_Tellings_init
  refine ev_bs (a := pN σ nx (.inr (0, 60))) rfl ?_
  refine ev_bs (sP_k (by simp [z_gK_pN, e0, hk])) ?_
  refine ev_bs (a := pN (pP (pN σ nx (.inr (0, 60))) 384 h (some nx)) (nx + 1) (.inr (0, 60))) rfl ?_
  refine ev_bs (sP_k (by simp [z_gK_pN, z_gK_pP, e0, e1, hk])) ?_
  refine ev_bs (a := pN (pP (pN (pP (pN σ nx (.inr (0, 60))) 384 h (some nx)) (nx + 1) (.inr (0, 60))) 385 h (some (nx + 1))) (nx + 2) (.inr (0, 60))) rfl ?_
  refine ev_bs (sP_k (by simp [z_gK_pN, z_gK_pP, e0, e1, e2, hk])) ?_
  refine ev_bs (sI_k (by simp [z_gK_pN, z_gK_pP, e0, e1, e2, hk])) ?_
  refine ev_some ⟨rfl, ⟨⟨?_, ?_, ?_, ?_, ?_, ?_, ?_⟩, gI_pIs⟩, ?_⟩
  · simp [z_gK_pN, z_gK_pP, z_gK_pI, e0, e1, e2, hk]
  · simp [z_gP_pN, z_gP_pP, z_gP_pI, e0, e1, e2]
  · simp [z_gK_pN, z_gK_pP, z_gK_pI]
  · simp [z_gP_pN, z_gP_pP, z_gP_pI, e0, e1, e2]
  · simp [z_gK_pN, z_gK_pP, z_gK_pI]
  · simp [z_gP_pN, z_gP_pP, z_gP_pI, e0, e1, e2]
  · simp [z_gK_pN, z_gK_pP, z_gK_pI]
  · refine Sam_pI (Sam_pP (Sam_pN (Sam_pP (Sam_pN (Sam_pP (Sam_pN Sam_rf (fun x hx => ?_)) (fun x hx => ?_)) (fun x hx => ?_)) (fun x hx => ?_)) (fun x hx => ?_)) (fun x hx => ?_)) (fun x hx => ?_) <;> (have hx : x ≠ h ∧ x < nx := hx; omega)
/-- the files -/
def FL0 (σ : fr_S) (h n : Nat) : Prop := (gK σ h = some (.inl 2) ∧ gP σ 128 h = some n ∧ gK σ n = some (.inr (0, 33)) ∧ gP σ 129 h = some (n + 1) ∧ gK σ (n + 1) = some (.inr (0, 33)) ∧ gP σ 130 h = some (n + 2) ∧ gK σ (n + 2) = some (.inr (0, 33)) ∧ gP σ 131 h = some (n + 3) ∧ gK σ (n + 3) = some (.inr (0, 33))) ∧ gI σ 132 h = 0
theorem FL0_s {P : Nat → Prop} {σ σ' : fr_S} {h n : Nat} (hh : FL0 σ h n) (hs : Sam P σ σ') (p0 : P h) (p1 : P n) (p2 : P (n + 1)) (p3 : P (n + 2)) (p4 : P (n + 3)) : FL0 σ' h n := by
  obtain ⟨⟨h1, h2, h3, h4, h5, h6, h7, h8, h9⟩, h10⟩ := hh
  have s0 := hs h p0
  exact ⟨⟨s0.1.trans h1, (s0.2.2.1 128).trans h2, (hs n p1).1.trans h3, (s0.2.2.1 129).trans h4, (hs (n + 1) p2).1.trans h5, (s0.2.2.1 130).trans h6, (hs (n + 2) p3).1.trans h7, (s0.2.2.1 131).trans h8, (hs (n + 3) p4).1.trans h9⟩, (s0.2.1 132).trans h10⟩
theorem x_files0 {σ : fr_S} {h nx : Nat} (hk : gK σ h = some (.inl 2)) (hh : h < nx) : ev (m_Files_init h σ nx) (fun q => q.2 = nx + 4 ∧ FL0 q.1 h nx ∧ Sam (fun a => a ≠ h ∧ a < nx) σ q.1) := by
  have e0 : h ≠ nx := by omega
  have e1 : h ≠ nx + 1 := by omega
  have e2 : h ≠ nx + 2 := by omega
  have e3 : h ≠ nx + 3 := by omega
  unfold m_Files_init
  refine ev_bs (a := pN σ nx (.inr (0, 33))) rfl ?_
  refine ev_bs (sP_k (by simp [z_gK_pN, e0, hk])) ?_
  refine ev_bs (a := pN (pP (pN σ nx (.inr (0, 33))) 128 h (some nx)) (nx + 1) (.inr (0, 33))) rfl ?_
  refine ev_bs (sP_k (by simp [z_gK_pN, z_gK_pP, e0, e1, hk])) ?_
  refine ev_bs (a := pN (pP (pN (pP (pN σ nx (.inr (0, 33))) 128 h (some nx)) (nx + 1) (.inr (0, 33))) 129 h (some (nx + 1))) (nx + 2) (.inr (0, 33))) rfl ?_
  refine ev_bs (sP_k (by simp [z_gK_pN, z_gK_pP, e0, e1, e2, hk])) ?_
  refine ev_bs (a := pN (pP (pN (pP (pN (pP (pN σ nx (.inr (0, 33))) 128 h (some nx)) (nx + 1) (.inr (0, 33))) 129 h (some (nx + 1))) (nx + 2) (.inr (0, 33))) 130 h (some (nx + 2))) (nx + 3) (.inr (0, 33))) rfl ?_
  refine ev_bs (sP_k (by simp [z_gK_pN, z_gK_pP, e0, e1, e2, e3, hk])) ?_
  refine ev_bs (sI_k (by simp [z_gK_pN, z_gK_pP, e0, e1, e2, e3, hk])) ?_
  refine ev_some ⟨rfl, ⟨⟨?_, ?_, ?_, ?_, ?_, ?_, ?_, ?_, ?_⟩, gI_pIs⟩, ?_⟩
  · simp [z_gK_pN, z_gK_pP, z_gK_pI, e0, e1, e2, e3, hk]
  · simp [z_gP_pN, z_gP_pP, z_gP_pI, e0, e1, e2, e3]
  · simp [z_gK_pN, z_gK_pP, z_gK_pI]
  · simp [z_gP_pN, z_gP_pP, z_gP_pI, e0, e1, e2, e3]
  · simp [z_gK_pN, z_gK_pP, z_gK_pI]
  · simp [z_gP_pN, z_gP_pP, z_gP_pI, e0, e1, e2, e3]
  · simp [z_gK_pN, z_gK_pP, z_gK_pI]
  · simp [z_gP_pN, z_gP_pP, z_gP_pI, e0, e1, e2, e3]
  · simp [z_gK_pN, z_gK_pP, z_gK_pI]
  · refine Sam_pI (Sam_pP (Sam_pN (Sam_pP (Sam_pN (Sam_pP (Sam_pN (Sam_pP (Sam_pN Sam_rf (fun x hx => ?_)) (fun x hx => ?_)) (fun x hx => ?_)) (fun x hx => ?_)) (fun x hx => ?_)) (fun x hx => ?_)) (fun x hx => ?_)) (fun x hx => ?_)) (fun x hx => ?_) <;> (have hx : x ≠ h ∧ x < nx := hx; omega)
