/-! THE REFERENCE as it is made -/
def MZ (k c : Nat) (σ : fr_S) : Prop := gK σ c = some (.inl 0) ∧ (∀ f, f ∈ md_F → md_A f ≤ k → gP σ f c = some (c + md_A f)) ∧ (∀ a, 1 ≤ a → a ≤ k → gK σ (c + a) = some (.inr (md_K a))) ∧ (∀ f, gI σ f c = 0) ∧ ∀ a i, gV σ a i = 0
theorem z_gK_pN {σ : fr_S} {a b : Nat} {k : fr_K} : gK (pN σ a k) b = if b = a then some k else gK σ b := rfl
theorem z_gI_pN {σ : fr_S} {a b f : Nat} {k : fr_K} : gI (pN σ a k) f b = if b = a then 0 else gI σ f b := rfl
theorem z_gP_pN {σ : fr_S} {a b f : Nat} {k : fr_K} : gP (pN σ a k) f b = if b = a then none else gP σ f b := rfl
theorem z_gV_pN {σ : fr_S} {a b : Nat} {k : fr_K} : gV (pN σ a k) b = if b = a then (fun _ => 0) else gV σ b := rfl
theorem z_gQ_pN {σ : fr_S} {a b : Nat} {k : fr_K} : gQ (pN σ a k) b = if b = a then (fun _ => none) else gQ σ b := rfl
theorem z_gP_pP {σ : fr_S} {f a g b : Nat} {v : Option Nat} : gP (pP σ f a v) g b = if g = f ∧ b = a then v else gP σ g b := rfl
theorem z_gQ_pB {σ : fr_S} {a b : Nat} {u : Nat → Option Nat} : gQ (pB σ a u) b = if b = a then u else gQ σ b := rfl
theorem sP_k {σ : fr_S} {ci f a r : Nat} (hk : gK σ a = some (.inl ci)) : sP σ ci f a r = some (pP σ f a (some r)) := if_pos hk
theorem md_inj : ∀ f, f ∈ md_F → ∀ g, g ∈ md_F → md_A f = md_A g → f = g := by decide
theorem MZ_step {k c f : Nat} {σ : fr_S} (h : MZ k c σ) (hf : f ∈ md_F) (hk : md_A f = k + 1) : MZ (k + 1) c (pP (pN σ (c + 1 + k) (.inr (md_K (k + 1)))) f c (some (c + 1 + k))) := by
  obtain ⟨h1, h2, h3, h4, h5⟩ := h
  refine ⟨?_, fun g hg hgk => ?_, fun a ha hak => ?_, fun g => ?_, fun a i => ?_⟩
  · show gK (pN σ (c + 1 + k) (.inr (md_K (k + 1)))) c = _
    rw [z_gK_pN, if_neg (by omega)]
    exact h1
  · rw [z_gP_pP]
    by_cases e : g = f
    · subst e
      rw [if_pos ⟨rfl, rfl⟩, hk]
      congr 1
      omega
    · rw [if_neg (fun z => e z.1), z_gP_pN, if_neg (by omega)]
      refine h2 g hg ?_
      have : md_A g ≠ k + 1 := fun z => e (md_inj g hg f hf (z.trans hk.symm))
      omega
  · show gK (pN σ (c + 1 + k) (.inr (md_K (k + 1)))) (c + a) = _
    rw [z_gK_pN]
    by_cases e : a = k + 1
    · subst e
      rw [if_pos (by omega)]
    · rw [if_neg (by omega)]
      exact h3 a ha (by omega)
  · show gI (pN σ (c + 1 + k) (.inr (md_K (k + 1)))) g c = _
    rw [z_gI_pN, if_neg (by omega)]
    exact h4 g
  · show gV (pN σ (c + 1 + k) (.inr (md_K (k + 1)))) a i = _
    rw [z_gV_pN]
    by_cases e : a = c + 1 + k
    · rw [if_pos e]
    · rw [if_neg e]
      exact h5 a i
theorem MZ_end {c re : Nat} {σ : fr_S} (h : MZ 34 c σ) (hre : re ≤ 5) : MI c (pI σ 0 c (nI re)) := by
  obtain ⟨h1, h2, h3, h4, h5⟩ := h
  have z : ∀ f, f ≠ 0 → gI (pI σ 0 c (nI re)) f c = nI 0 := fun f hf => by rw [gI_pIf hf, nI_0]; exact h4 f
  have v : ∀ a i, gV (pI σ 0 c (nI re)) a i = nI 0 := fun a i => by rw [gV_pI, nI_0]; exact h5 a i
  refine ⟨⟨h1, fun f hf => h2 f hf ?_, fun a h1 h2 => h3 a h1 h2⟩, 0, 0, 0, 0, 0, 0, re, ⟨by omega, z 6 (by decide)⟩, ⟨by omega, z 7 (by decide)⟩, z 8 (by decide), z 9 (by decide), z 10 (by decide), ⟨by omega, z 39 (by decide)⟩, ⟨hre, gI_pIs⟩, ?_, ?_, ?_, ?_, ?_, ?_, ?_, ?_, ?_, ?_, ?_⟩
  · revert f hf
    decide
  · intro i hi; omega
  · intro i hi; exact ⟨⟨0, by omega, v _ _⟩, ⟨0, by omega, v _ _⟩, ⟨0, by omega, v _ _⟩⟩
  · intro k _; exact ⟨0, by omega, v _ _⟩
  · intro j _; exact ⟨0, by omega, v _ _, fun k hk => by omega⟩
  · intro j _; exact ⟨⟨0, by omega, v _ _, fun hh => by omega⟩, ⟨0, by omega, v _ _⟩, ⟨0, by omega, v _ _⟩⟩
  · intro k _; exact ⟨0, by omega, v _ _⟩
  · exact ⟨fun k hk => by omega, fun k k' _ hk => by omega⟩
  · intro k _; exact ⟨0, by omega, v _ _⟩
  · exact ⟨fun k hk => by omega, fun k k' _ hk => by omega⟩
  · exact ⟨fun k hk => by omega, fun k k' _ hk => by omega⟩
  · intro k hk; omega
theorem MZ_0 (c : Nat) : MZ 0 c (pN fl_e c (.inl 0)) := by
  refine ⟨?_, fun f hf hk => ?_, fun a ha hk => by omega, fun f => ?_, fun a i => ?_⟩
  · rw [z_gK_pN, if_pos rfl]
  · have : ∀ f, f ∈ md_F → ¬ md_A f ≤ 0 := by decide
    exact absurd hk (this f hf)
  · rw [z_gI_pN, if_pos rfl]
  · rw [z_gV_pN]
    by_cases e : a = c
    · rw [if_pos e]
    · rw [if_neg e]
      rfl
theorem md_init (c : Nat) (x : Int32) : ev (m_Md_init c x (pN fl_e c (.inl 0)) (c + 1)) (fun q => MI c q.1) := by
  have h := MZ_0 c
  unfold m_Md_init
  generalize pN fl_e c (.inl 0) = σ at h ⊢
  refine ev_bs (a := pN σ (c + 1) (.inr (1, 8))) rfl ?_
  have h1 : MZ 1 c (pP (pN σ (c + 1) (.inr (1, 8))) 4 c (some (c + 1))) := MZ_step (f := 4) h (by decide) (by decide)
  refine ev_bs (sP_k h1.1) ?_
  generalize pP (pN σ (c + 1) (.inr (1, 8))) 4 c (some (c + 1)) = σ1 at h1 ⊢
  refine ev_bs (a := pN σ1 (c + 1 + 1) (.inr (0, 8))) rfl ?_
  have h2 : MZ 2 c (pP (pN σ1 (c + 1 + 1) (.inr (0, 8))) 5 c (some (c + 1 + 1))) := MZ_step (f := 5) h1 (by decide) (by decide)
  refine ev_bs (sP_k h2.1) ?_
  generalize pP (pN σ1 (c + 1 + 1) (.inr (0, 8))) 5 c (some (c + 1 + 1)) = σ2 at h2 ⊢
  refine ev_bs (a := pN σ2 (c + 1 + 2) (.inr (0, 16))) rfl ?_
  have h3 : MZ 3 c (pP (pN σ2 (c + 1 + 2) (.inr (0, 16))) 11 c (some (c + 1 + 2))) := MZ_step (f := 11) h2 (by decide) (by decide)
  refine ev_bs (sP_k h3.1) ?_
  generalize pP (pN σ2 (c + 1 + 2) (.inr (0, 16))) 11 c (some (c + 1 + 2)) = σ3 at h3 ⊢
  refine ev_bs (a := pN σ3 (c + 1 + 3) (.inr (0, 16))) rfl ?_
  have h4 : MZ 4 c (pP (pN σ3 (c + 1 + 3) (.inr (0, 16))) 12 c (some (c + 1 + 3))) := MZ_step (f := 12) h3 (by decide) (by decide)
  refine ev_bs (sP_k h4.1) ?_
  generalize pP (pN σ3 (c + 1 + 3) (.inr (0, 16))) 12 c (some (c + 1 + 3)) = σ4 at h4 ⊢
  refine ev_bs (a := pN σ4 (c + 1 + 4) (.inr (0, 16))) rfl ?_
  have h5 : MZ 5 c (pP (pN σ4 (c + 1 + 4) (.inr (0, 16))) 13 c (some (c + 1 + 4))) := MZ_step (f := 13) h4 (by decide) (by decide)
  refine ev_bs (sP_k h5.1) ?_
  generalize pP (pN σ4 (c + 1 + 4) (.inr (0, 16))) 13 c (some (c + 1 + 4)) = σ5 at h5 ⊢
  refine ev_bs (a := pN σ5 (c + 1 + 5) (.inr (0, 16))) rfl ?_
  have h6 : MZ 6 c (pP (pN σ5 (c + 1 + 5) (.inr (0, 16))) 14 c (some (c + 1 + 5))) := MZ_step (f := 14) h5 (by decide) (by decide)
  refine ev_bs (sP_k h6.1) ?_
  generalize pP (pN σ5 (c + 1 + 5) (.inr (0, 16))) 14 c (some (c + 1 + 5)) = σ6 at h6 ⊢
  refine ev_bs (a := pN σ6 (c + 1 + 6) (.inr (0, 16))) rfl ?_
  have h7 : MZ 7 c (pP (pN σ6 (c + 1 + 6) (.inr (0, 16))) 15 c (some (c + 1 + 6))) := MZ_step (f := 15) h6 (by decide) (by decide)
  refine ev_bs (sP_k h7.1) ?_
  generalize pP (pN σ6 (c + 1 + 6) (.inr (0, 16))) 15 c (some (c + 1 + 6)) = σ7 at h7 ⊢
  refine ev_bs (a := pN σ7 (c + 1 + 7) (.inr (0, 16))) rfl ?_
  have h8 : MZ 8 c (pP (pN σ7 (c + 1 + 7) (.inr (0, 16))) 16 c (some (c + 1 + 7))) := MZ_step (f := 16) h7 (by decide) (by decide)
  refine ev_bs (sP_k h8.1) ?_
  generalize pP (pN σ7 (c + 1 + 7) (.inr (0, 16))) 16 c (some (c + 1 + 7)) = σ8 at h8 ⊢
  refine ev_bs (a := pN σ8 (c + 1 + 8) (.inr (0, 1600))) rfl ?_
  have h9 : MZ 9 c (pP (pN σ8 (c + 1 + 8) (.inr (0, 1600))) 17 c (some (c + 1 + 8))) := MZ_step (f := 17) h8 (by decide) (by decide)
  refine ev_bs (sP_k h9.1) ?_
  generalize pP (pN σ8 (c + 1 + 8) (.inr (0, 1600))) 17 c (some (c + 1 + 8)) = σ9 at h9 ⊢
  refine ev_bs (a := pN σ9 (c + 1 + 9) (.inr (1, 16))) rfl ?_
  have h10 : MZ 10 c (pP (pN σ9 (c + 1 + 9) (.inr (1, 16))) 18 c (some (c + 1 + 9))) := MZ_step (f := 18) h9 (by decide) (by decide)
  refine ev_bs (sP_k h10.1) ?_
  generalize pP (pN σ9 (c + 1 + 9) (.inr (1, 16))) 18 c (some (c + 1 + 9)) = σ10 at h10 ⊢
  refine ev_bs (a := pN σ10 (c + 1 + 10) (.inr (1, 16))) rfl ?_
  have h11 : MZ 11 c (pP (pN σ10 (c + 1 + 10) (.inr (1, 16))) 19 c (some (c + 1 + 10))) := MZ_step (f := 19) h10 (by decide) (by decide)
  refine ev_bs (sP_k h11.1) ?_
  generalize pP (pN σ10 (c + 1 + 10) (.inr (1, 16))) 19 c (some (c + 1 + 10)) = σ11 at h11 ⊢
  refine ev_bs (a := pN σ11 (c + 1 + 11) (.inr (1, 16))) rfl ?_
  have h12 : MZ 12 c (pP (pN σ11 (c + 1 + 11) (.inr (1, 16))) 20 c (some (c + 1 + 11))) := MZ_step (f := 20) h11 (by decide) (by decide)
  refine ev_bs (sP_k h12.1) ?_
  generalize pP (pN σ11 (c + 1 + 11) (.inr (1, 16))) 20 c (some (c + 1 + 11)) = σ12 at h12 ⊢
  refine ev_bs (a := pN σ12 (c + 1 + 12) (.inr (1, 16))) rfl ?_
  have h13 : MZ 13 c (pP (pN σ12 (c + 1 + 12) (.inr (1, 16))) 21 c (some (c + 1 + 12))) := MZ_step (f := 21) h12 (by decide) (by decide)
  refine ev_bs (sP_k h13.1) ?_
  generalize pP (pN σ12 (c + 1 + 12) (.inr (1, 16))) 21 c (some (c + 1 + 12)) = σ13 at h13 ⊢
  refine ev_bs (a := pN σ13 (c + 1 + 13) (.inr (0, 10))) rfl ?_
  have h14 : MZ 14 c (pP (pN σ13 (c + 1 + 13) (.inr (0, 10))) 22 c (some (c + 1 + 13))) := MZ_step (f := 22) h13 (by decide) (by decide)
  refine ev_bs (sP_k h14.1) ?_
  generalize pP (pN σ13 (c + 1 + 13) (.inr (0, 10))) 22 c (some (c + 1 + 13)) = σ14 at h14 ⊢
  refine ev_bs (a := pN σ14 (c + 1 + 14) (.inr (0, 10))) rfl ?_
  have h15 : MZ 15 c (pP (pN σ14 (c + 1 + 14) (.inr (0, 10))) 23 c (some (c + 1 + 14))) := MZ_step (f := 23) h14 (by decide) (by decide)
  refine ev_bs (sP_k h15.1) ?_
  generalize pP (pN σ14 (c + 1 + 14) (.inr (0, 10))) 23 c (some (c + 1 + 14)) = σ15 at h15 ⊢
  refine ev_bs (a := pN σ15 (c + 1 + 15) (.inr (0, 60))) rfl ?_
  have h16 : MZ 16 c (pP (pN σ15 (c + 1 + 15) (.inr (0, 60))) 24 c (some (c + 1 + 15))) := MZ_step (f := 24) h15 (by decide) (by decide)
  refine ev_bs (sP_k h16.1) ?_
  generalize pP (pN σ15 (c + 1 + 15) (.inr (0, 60))) 24 c (some (c + 1 + 15)) = σ16 at h16 ⊢
  refine ev_bs (a := pN σ16 (c + 1 + 16) (.inr (0, 10))) rfl ?_
  have h17 : MZ 17 c (pP (pN σ16 (c + 1 + 16) (.inr (0, 10))) 25 c (some (c + 1 + 16))) := MZ_step (f := 25) h16 (by decide) (by decide)
  refine ev_bs (sP_k h17.1) ?_
  generalize pP (pN σ16 (c + 1 + 16) (.inr (0, 10))) 25 c (some (c + 1 + 16)) = σ17 at h17 ⊢
  refine ev_bs (a := pN σ17 (c + 1 + 17) (.inr (0, 10))) rfl ?_
  have h18 : MZ 18 c (pP (pN σ17 (c + 1 + 17) (.inr (0, 10))) 26 c (some (c + 1 + 17))) := MZ_step (f := 26) h17 (by decide) (by decide)
  refine ev_bs (sP_k h18.1) ?_
  generalize pP (pN σ17 (c + 1 + 17) (.inr (0, 10))) 26 c (some (c + 1 + 17)) = σ18 at h18 ⊢
  refine ev_bs (a := pN σ18 (c + 1 + 18) (.inr (0, 10))) rfl ?_
  have h19 : MZ 19 c (pP (pN σ18 (c + 1 + 18) (.inr (0, 10))) 27 c (some (c + 1 + 18))) := MZ_step (f := 27) h18 (by decide) (by decide)
  refine ev_bs (sP_k h19.1) ?_
  generalize pP (pN σ18 (c + 1 + 18) (.inr (0, 10))) 27 c (some (c + 1 + 18)) = σ19 at h19 ⊢
  refine ev_bs (a := pN σ19 (c + 1 + 19) (.inr (0, 1000))) rfl ?_
  have h20 : MZ 20 c (pP (pN σ19 (c + 1 + 19) (.inr (0, 1000))) 28 c (some (c + 1 + 19))) := MZ_step (f := 28) h19 (by decide) (by decide)
  refine ev_bs (sP_k h20.1) ?_
  generalize pP (pN σ19 (c + 1 + 19) (.inr (0, 1000))) 28 c (some (c + 1 + 19)) = σ20 at h20 ⊢
  refine ev_bs (a := pN σ20 (c + 1 + 20) (.inr (0, 10))) rfl ?_
  have h21 : MZ 21 c (pP (pN σ20 (c + 1 + 20) (.inr (0, 10))) 29 c (some (c + 1 + 20))) := MZ_step (f := 29) h20 (by decide) (by decide)
  refine ev_bs (sP_k h21.1) ?_
  generalize pP (pN σ20 (c + 1 + 20) (.inr (0, 10))) 29 c (some (c + 1 + 20)) = σ21 at h21 ⊢
  refine ev_bs (a := pN σ21 (c + 1 + 21) (.inr (0, 10))) rfl ?_
  have h22 : MZ 22 c (pP (pN σ21 (c + 1 + 21) (.inr (0, 10))) 30 c (some (c + 1 + 21))) := MZ_step (f := 30) h21 (by decide) (by decide)
  refine ev_bs (sP_k h22.1) ?_
  generalize pP (pN σ21 (c + 1 + 21) (.inr (0, 10))) 30 c (some (c + 1 + 21)) = σ22 at h22 ⊢
  refine ev_bs (a := pN σ22 (c + 1 + 22) (.inr (0, 10))) rfl ?_
  have h23 : MZ 23 c (pP (pN σ22 (c + 1 + 22) (.inr (0, 10))) 31 c (some (c + 1 + 22))) := MZ_step (f := 31) h22 (by decide) (by decide)
  refine ev_bs (sP_k h23.1) ?_
  generalize pP (pN σ22 (c + 1 + 22) (.inr (0, 10))) 31 c (some (c + 1 + 22)) = σ23 at h23 ⊢
  refine ev_bs (a := pN σ23 (c + 1 + 23) (.inr (0, 10))) rfl ?_
  have h24 : MZ 24 c (pP (pN σ23 (c + 1 + 23) (.inr (0, 10))) 32 c (some (c + 1 + 23))) := MZ_step (f := 32) h23 (by decide) (by decide)
  refine ev_bs (sP_k h24.1) ?_
  generalize pP (pN σ23 (c + 1 + 23) (.inr (0, 10))) 32 c (some (c + 1 + 23)) = σ24 at h24 ⊢
  refine ev_bs (a := pN σ24 (c + 1 + 24) (.inr (0, 10))) rfl ?_
  have h25 : MZ 25 c (pP (pN σ24 (c + 1 + 24) (.inr (0, 10))) 33 c (some (c + 1 + 24))) := MZ_step (f := 33) h24 (by decide) (by decide)
  refine ev_bs (sP_k h25.1) ?_
  generalize pP (pN σ24 (c + 1 + 24) (.inr (0, 10))) 33 c (some (c + 1 + 24)) = σ25 at h25 ⊢
  refine ev_bs (a := pN σ25 (c + 1 + 25) (.inr (0, 1000))) rfl ?_
  have h26 : MZ 26 c (pP (pN σ25 (c + 1 + 25) (.inr (0, 1000))) 34 c (some (c + 1 + 25))) := MZ_step (f := 34) h25 (by decide) (by decide)
  refine ev_bs (sP_k h26.1) ?_
  generalize pP (pN σ25 (c + 1 + 25) (.inr (0, 1000))) 34 c (some (c + 1 + 25)) = σ26 at h26 ⊢
  refine ev_bs (a := pN σ26 (c + 1 + 26) (.inr (0, 400))) rfl ?_
  have h27 : MZ 27 c (pP (pN σ26 (c + 1 + 26) (.inr (0, 400))) 35 c (some (c + 1 + 26))) := MZ_step (f := 35) h26 (by decide) (by decide)
  refine ev_bs (sP_k h27.1) ?_
  generalize pP (pN σ26 (c + 1 + 26) (.inr (0, 400))) 35 c (some (c + 1 + 26)) = σ27 at h27 ⊢
  refine ev_bs (a := pN σ27 (c + 1 + 27) (.inr (0, 400))) rfl ?_
  have h28 : MZ 28 c (pP (pN σ27 (c + 1 + 27) (.inr (0, 400))) 36 c (some (c + 1 + 27))) := MZ_step (f := 36) h27 (by decide) (by decide)
  refine ev_bs (sP_k h28.1) ?_
  generalize pP (pN σ27 (c + 1 + 27) (.inr (0, 400))) 36 c (some (c + 1 + 27)) = σ28 at h28 ⊢
  refine ev_bs (a := pN σ28 (c + 1 + 28) (.inr (0, 400))) rfl ?_
  have h29 : MZ 29 c (pP (pN σ28 (c + 1 + 28) (.inr (0, 400))) 37 c (some (c + 1 + 28))) := MZ_step (f := 37) h28 (by decide) (by decide)
  refine ev_bs (sP_k h29.1) ?_
  generalize pP (pN σ28 (c + 1 + 28) (.inr (0, 400))) 37 c (some (c + 1 + 28)) = σ29 at h29 ⊢
  refine ev_bs (a := pN σ29 (c + 1 + 29) (.inr (0, 10))) rfl ?_
  have h30 : MZ 30 c (pP (pN σ29 (c + 1 + 29) (.inr (0, 10))) 38 c (some (c + 1 + 29))) := MZ_step (f := 38) h29 (by decide) (by decide)
  refine ev_bs (sP_k h30.1) ?_
  generalize pP (pN σ29 (c + 1 + 29) (.inr (0, 10))) 38 c (some (c + 1 + 29)) = σ30 at h30 ⊢
  refine ev_bs (a := pN σ30 (c + 1 + 30) (.inr (0, 40))) rfl ?_
  have h31 : MZ 31 c (pP (pN σ30 (c + 1 + 30) (.inr (0, 40))) 40 c (some (c + 1 + 30))) := MZ_step (f := 40) h30 (by decide) (by decide)
  refine ev_bs (sP_k h31.1) ?_
  generalize pP (pN σ30 (c + 1 + 30) (.inr (0, 40))) 40 c (some (c + 1 + 30)) = σ31 at h31 ⊢
  refine ev_bs (a := pN σ31 (c + 1 + 31) (.inr (0, 40))) rfl ?_
  have h32 : MZ 32 c (pP (pN σ31 (c + 1 + 31) (.inr (0, 40))) 41 c (some (c + 1 + 31))) := MZ_step (f := 41) h31 (by decide) (by decide)
  refine ev_bs (sP_k h32.1) ?_
  generalize pP (pN σ31 (c + 1 + 31) (.inr (0, 40))) 41 c (some (c + 1 + 31)) = σ32 at h32 ⊢
  refine ev_bs (a := pN σ32 (c + 1 + 32) (.inr (0, 40))) rfl ?_
  have h33 : MZ 33 c (pP (pN σ32 (c + 1 + 32) (.inr (0, 40))) 42 c (some (c + 1 + 32))) := MZ_step (f := 42) h32 (by decide) (by decide)
  refine ev_bs (sP_k h33.1) ?_
  generalize pP (pN σ32 (c + 1 + 32) (.inr (0, 40))) 42 c (some (c + 1 + 32)) = σ33 at h33 ⊢
  refine ev_bs (a := pN σ33 (c + 1 + 33) (.inr (0, 40))) rfl ?_
  have h34 : MZ 34 c (pP (pN σ33 (c + 1 + 33) (.inr (0, 40))) 43 c (some (c + 1 + 33))) := MZ_step (f := 43) h33 (by decide) (by decide)
  refine ev_bs (sP_k h34.1) ?_
  generalize pP (pN σ33 (c + 1 + 33) (.inr (0, 40))) 43 c (some (c + 1 + 33)) = σ34 at h34 ⊢
  refine ev_if (fun h0 => ?_) (fun _ => ?_)
  · refine ev_if (fun h5 => ?_) (fun _ => ?_)
    · obtain ⟨q, -, hq, rfl⟩ := nI_rng (x := x) (lo := 0) (hi := 5) (by rw [nI_0]; exact Int32.not_lt.mpr h0) (by rw [← nI_lit5]; exact h5) (by decide) (by decide)
      exact ev_bs (sI_k h34.1) (ev_some (MZ_end h34 hq))
    · refine ev_bs (sI_k h34.1) (ev_some ?_)
      have := MZ_end (re := 5) h34 (by omega)
      rw [← nI_lit5] at this
      exact this
  · refine ev_bs (sI_k h34.1) (ev_some ?_)
    have := MZ_end (re := 0) h34 (by omega)
    rw [nI_0] at this
    exact this
/-! THE CLASS as it is made -/
/-- the cells that P names are as they were -/
def Sam (P : Nat → Prop) (σ σ' : fr_S) : Prop := ∀ a, P a → gK σ' a = gK σ a ∧ (∀ f, gI σ' f a = gI σ f a) ∧ (∀ f, gP σ' f a = gP σ f a) ∧ gV σ' a = gV σ a ∧ gQ σ' a = gQ σ a
theorem Sam_rf {P : Nat → Prop} {σ : fr_S} : Sam P σ σ := fun _ _ => ⟨rfl, fun _ => rfl, fun _ => rfl, rfl, rfl⟩
theorem Sam_tr {P Q R : Nat → Prop} {σ σ' σ'' : fr_S} (h : Sam P σ σ') (h' : Sam Q σ' σ'') (h1 : ∀ a, R a → P a ∧ Q a) : Sam R σ σ'' := fun a ha =>
  ⟨(h' a (h1 a ha).2).1.trans (h a (h1 a ha).1).1, fun f => ((h' a (h1 a ha).2).2.1 f).trans ((h a (h1 a ha).1).2.1 f), fun f => ((h' a (h1 a ha).2).2.2.1 f).trans ((h a (h1 a ha).1).2.2.1 f), (h' a (h1 a ha).2).2.2.2.1.trans (h a (h1 a ha).1).2.2.2.1, (h' a (h1 a ha).2).2.2.2.2.trans (h a (h1 a ha).1).2.2.2.2⟩
theorem Sam_mo {P R : Nat → Prop} {σ σ' : fr_S} (h : Sam P σ σ') (h1 : ∀ a, R a → P a) : Sam R σ σ' := fun a ha => h a (h1 a ha)
theorem Sam_pN {P : Nat → Prop} {σ σ' : fr_S} {a : Nat} {k : fr_K} (h : Sam P σ σ') (hn : ∀ x, P x → x ≠ a) : Sam P σ (pN σ' a k) := fun x hx => by
  have hne := hn x hx
  rw [z_gV_pN, if_neg hne, z_gQ_pN, if_neg hne]
  exact ⟨by rw [z_gK_pN, if_neg hne]; exact (h x hx).1, fun f => by rw [z_gI_pN, if_neg hne]; exact (h x hx).2.1 f, fun f => by rw [z_gP_pN, if_neg hne]; exact (h x hx).2.2.1 f, (h x hx).2.2.2.1, (h x hx).2.2.2.2⟩
theorem Sam_pI {P : Nat → Prop} {σ σ' : fr_S} {f a : Nat} {v : Int32} (h : Sam P σ σ') (hn : ∀ x, P x → x ≠ a) : Sam P σ (pI σ' f a v) := fun x hx =>
  ⟨(h x hx).1, fun g => by rw [gI_pIa (hn x hx)]; exact (h x hx).2.1 g, (h x hx).2.2.1, (h x hx).2.2.2.1, (h x hx).2.2.2.2⟩
theorem Sam_pP {P : Nat → Prop} {σ σ' : fr_S} {f a : Nat} {v : Option Nat} (h : Sam P σ σ') (hn : ∀ x, P x → x ≠ a) : Sam P σ (pP σ' f a v) := fun x hx =>
  ⟨(h x hx).1, (h x hx).2.1, fun g => by rw [z_gP_pP, if_neg (fun z => hn x hx z.2)]; exact (h x hx).2.2.1 g, (h x hx).2.2.2.1, (h x hx).2.2.2.2⟩
theorem Sam_pB {P : Nat → Prop} {σ σ' : fr_S} {a : Nat} {u : Nat → Option Nat} (h : Sam P σ σ') (hn : ∀ x, P x → x ≠ a) : Sam P σ (pB σ' a u) := fun x hx =>
  ⟨(h x hx).1, (h x hx).2.1, (h x hx).2.2.1, (h x hx).2.2.2.1, by rw [z_gQ_pB, if_neg (hn x hx)]; exact (h x hx).2.2.2.2⟩
def R0 (σ : fr_S) (r v : Nat) : Prop := RowAt σ r v ∧ gI σ 257 r = 0 ∧ ∀ k, gV σ v k = 0
theorem R0_s {P : Nat → Prop} {σ σ' : fr_S} {r v : Nat} (h : R0 σ r v) (hs : Sam P σ σ') (hr : P r) (hv : P v) : R0 σ' r v := by
  obtain ⟨⟨h1, h2, h3⟩, h4, h5⟩ := h
  exact ⟨⟨(hs r hr).1.trans h1, ((hs r hr).2.2.1 256).trans h2, (hs v hv).1.trans h3⟩, ((hs r hr).2.1 257).trans h4, fun k => (congrFun (hs v hv).2.2.2.1 k).trans (h5 k)⟩
theorem x_row0 {σ : fr_S} {r nx : Nat} (hk : gK σ r = some (.inl 4)) (hr : r < nx) : ev (m_Row_init r σ nx) (fun q => q.2 = nx + 1 ∧ R0 q.1 r nx ∧ Sam (fun a => a ≠ r ∧ a < nx) σ q.1) := by
  unfold m_Row_init
  refine ev_bs (a := pN σ nx (.inr (0, 100))) rfl ?_
  have k1 : gK (pN σ nx (.inr (0, 100))) r = some (.inl 4) := by rw [z_gK_pN, if_neg (by omega)]; exact hk
  refine ev_bs (sP_k k1) ?_
  refine ev_bs (sI_k (show gK (pP (pN σ nx (.inr (0, 100))) 256 r (some nx)) r = some (.inl 4) from k1)) ?_
  refine ev_some ⟨rfl, ⟨⟨k1, ?_, ?_⟩, gI_pIs, fun k => ?_⟩, ?_⟩
  · show gP (pP (pN σ nx (.inr (0, 100))) 256 r (some nx)) 256 r = some nx
    rw [z_gP_pP, if_pos ⟨rfl, rfl⟩]
  · show gK (pN σ nx (.inr (0, 100))) nx = _
    rw [z_gK_pN, if_pos rfl]
  · show gV (pN σ nx (.inr (0, 100))) nx k = 0
    rw [z_gV_pN, if_pos rfl]
  · refine Sam_pI (Sam_pP (Sam_pN Sam_rf (fun x hx => ?_)) (fun x hx => hx.1)) (fun x hx => hx.1)
    have := hx.2
    omega
def PL0 (σ : fr_S) (p r v : Nat) : Prop := gK σ p = some (.inl 3) ∧ gP σ 192 p = some r ∧ R0 σ r v ∧ gI σ 193 p = 0 ∧ gI σ 195 p = -1
theorem PL0_s {P : Nat → Prop} {σ σ' : fr_S} {p r v : Nat} (h : PL0 σ p r v) (hs : Sam P σ σ') (hp : P p) (hr : P r) (hv : P v) : PL0 σ' p r v := by
  obtain ⟨h1, h2, h3, h4, h5⟩ := h
  exact ⟨(hs p hp).1.trans h1, ((hs p hp).2.2.1 192).trans h2, R0_s h3 hs hr hv, ((hs p hp).2.1 193).trans h4, ((hs p hp).2.1 195).trans h5⟩
theorem x_place0 {σ : fr_S} {p nx : Nat} (hk : gK σ p = some (.inl 3)) (hp : p < nx) : ev (m_Place_init p σ nx) (fun q => q.2 = nx + 2 ∧ PL0 q.1 p nx (nx + 1) ∧ Sam (fun a => a ≠ p ∧ a < nx) σ q.1) := by
  unfold m_Place_init
  refine ev_bs (a := pN σ nx (.inl 4)) rfl ?_
  have k1 : gK (pN σ nx (.inl 4)) p = some (.inl 3) := by rw [z_gK_pN, if_neg (by omega)]; exact hk
  refine ev_b (x_row0 (σ := pN σ nx (.inl 4)) (r := nx) (nx := nx + 1) (by rw [z_gK_pN, if_pos rfl]) (by omega)) (fun w hw => ?_)
  obtain ⟨σ2, n2⟩ := w
  obtain ⟨w1, w2, w3⟩ := hw
  have w1 : n2 = nx + 1 + 1 := w1
  have w2 : R0 σ2 nx (nx + 1) := w2
  have w3 : Sam (fun a => a ≠ nx ∧ a < nx + 1) (pN σ nx (.inl 4)) σ2 := w3
  have s2 : Sam (fun a => a ≠ p ∧ a < nx) σ σ2 := Sam_tr (P := fun a => a ≠ p ∧ a < nx) (Sam_pN Sam_rf (fun x hx => by have := hx.2; omega)) w3 (fun a ha => ⟨ha, ⟨by have := ha.2; omega, by have := ha.2; omega⟩⟩)
  have k2 : gK σ2 p = some (.inl 3) := (w3 p ⟨by omega, by omega⟩).1.trans k1
  refine ev_bs (sP_k k2) ?_
  refine ev_bs (sI_k (show gK (pP σ2 192 p (some nx)) p = some (.inl 3) from k2)) ?_
  refine ev_bs (sI_k (show gK (pI (pP σ2 192 p (some nx)) 193 p 0) p = some (.inl 3) from k2)) ?_
  refine ev_bs (sI_k (show gK (pI (pI (pP σ2 192 p (some nx)) 193 p 0) 194 p 1) p = some (.inl 3) from k2)) ?_
  have a5 : PL0 (pI (pI (pI (pP σ2 192 p (some nx)) 193 p 0) 194 p 1) 195 p (-1)) p nx (nx + 1) := by
    refine ⟨k2, ?_, ?_, ?_, gI_pIs⟩
    · show gP (pP σ2 192 p (some nx)) 192 p = some nx
      rw [z_gP_pP, if_pos ⟨rfl, rfl⟩]
    · exact R0_s (P := fun a => a ≠ p) w2 (Sam_pI (Sam_pI (Sam_pI (Sam_pP Sam_rf (fun x hx => hx)) (fun x hx => hx)) (fun x hx => hx)) (fun x hx => hx)) (show nx ≠ p by omega) (show nx + 1 ≠ p by omega)
    · rw [gI_pIf (by decide), gI_pIf (by decide), gI_pIs]
  have s5 : Sam (fun a => a ≠ p ∧ a < nx) σ (pI (pI (pI (pP σ2 192 p (some nx)) 193 p 0) 194 p 1) 195 p (-1)) := Sam_pI (Sam_pI (Sam_pI (Sam_pP s2 (fun x hx => hx.1)) (fun x hx => hx.1)) (fun x hx => hx.1)) (fun x hx => hx.1)
  generalize pI (pI (pI (pP σ2 192 p (some nx)) 193 p 0) 194 p 1) 195 p (-1) = σ5 at a5 s5 ⊢
  have st : ∀ (τ : fr_S) (f : Nat) (v : Int32), f ≠ 193 → f ≠ 195 → f ≠ 257 → PL0 τ p nx (nx + 1) ∧ Sam (fun a => a ≠ p ∧ a < nx) σ τ → PL0 (pI τ f p v) p nx (nx + 1) ∧ Sam (fun a => a ≠ p ∧ a < nx) σ (pI τ f p v) := by
    intro τ f v f1 f2 f3 h
    obtain ⟨⟨h1, h2, h3, h4, h5⟩, h6⟩ := h
    exact ⟨⟨h1, h2, ⟨h3.1, by rw [gI_pIf (Ne.symm f3)]; exact h3.2.1, h3.2.2⟩, by rw [gI_pIf (Ne.symm f1)]; exact h4, by rw [gI_pIf (Ne.symm f2)]; exact h5⟩, Sam_pI h6 (fun x hx => hx.1)⟩
  have q6 := st σ5 196 0 (by decide) (by decide) (by decide) ⟨a5, s5⟩
  refine ev_bs (sI_k a5.1) ?_
  have q7 := st _ 197 0 (by decide) (by decide) (by decide) q6
  refine ev_bs (sI_k q6.1.1) ?_
  have q8 := st _ 198 0 (by decide) (by decide) (by decide) q7
  refine ev_bs (sZ_k q7.1.1 (Or.inl rfl)) ?_
  have q9 := st _ 199 0 (by decide) (by decide) (by decide) q8
  refine ev_bs (sZ_k q8.1.1 (Or.inl rfl)) ?_
  have q10 := st _ 200 0 (by decide) (by decide) (by decide) q9
  refine ev_bs (sZ_k q9.1.1 (Or.inl rfl)) ?_
  have q11 := st _ 201 0 (by decide) (by decide) (by decide) q10
  refine ev_bs (sZ_k q10.1.1 (Or.inl rfl)) ?_
  exact ev_some ⟨w1, q11⟩
def WT0 (σ : fr_S) (w r v n : Nat) : Prop := gK σ w = some (.inl 7) ∧ gP σ 448 w = some r ∧ R0 σ r v ∧ gP σ 449 w = some n ∧ gK σ n = some (.inr (0, 6)) ∧ gI σ 450 w = 0 ∧ gI σ 453 w = 0
theorem WT0_s {P : Nat → Prop} {σ σ' : fr_S} {w r v n : Nat} (h : WT0 σ w r v n) (hs : Sam P σ σ') (hw : P w) (hr : P r) (hv : P v) (hn : P n) : WT0 σ' w r v n := by
  obtain ⟨h1, h2, h3, h4, h5, h6, h7⟩ := h
  exact ⟨(hs w hw).1.trans h1, ((hs w hw).2.2.1 448).trans h2, R0_s h3 hs hr hv, ((hs w hw).2.2.1 449).trans h4, (hs n hn).1.trans h5, ((hs w hw).2.1 450).trans h6, ((hs w hw).2.1 453).trans h7⟩
theorem x_want0 {σ : fr_S} {w nx : Nat} (hk : gK σ w = some (.inl 7)) (hw : w < nx) : ev (m_Want_init w σ nx) (fun q => q.2 = nx + 3 ∧ WT0 q.1 w nx (nx + 1) (nx + 2) ∧ Sam (fun a => a ≠ w ∧ a < nx) σ q.1) := by
  unfold m_Want_init
  refine ev_bs (a := pN σ nx (.inl 4)) rfl ?_
  have k1 : gK (pN σ nx (.inl 4)) w = some (.inl 7) := by rw [z_gK_pN, if_neg (by omega)]; exact hk
  refine ev_b (x_row0 (σ := pN σ nx (.inl 4)) (r := nx) (nx := nx + 1) (by rw [z_gK_pN, if_pos rfl]) (by omega)) (fun z hz => ?_)
  obtain ⟨σ2, n2⟩ := z
  obtain ⟨w1, w2, w3⟩ := hz
  have w1 : n2 = nx + 2 := w1
  have w2 : R0 σ2 nx (nx + 1) := w2
  have w3 : Sam (fun a => a ≠ nx ∧ a < nx + 1) (pN σ nx (.inl 4)) σ2 := w3
  have s2 : Sam (fun a => a ≠ w ∧ a < nx) σ σ2 := Sam_tr (P := fun a => a ≠ w ∧ a < nx) (Sam_pN Sam_rf (fun x hx => by have := hx.2; omega)) w3 (fun a ha => ⟨ha, ⟨by have := ha.2; omega, by have := ha.2; omega⟩⟩)
  have k2 : gK σ2 w = some (.inl 7) := (w3 w ⟨by omega, by omega⟩).1.trans k1
  subst w1
  refine ev_bs (sP_k k2) ?_
  refine ev_bs (a := pN (pP σ2 448 w (some nx)) (nx + 2) (.inr (0, 6))) rfl ?_
  have k4 : gK (pN (pP σ2 448 w (some nx)) (nx + 2) (.inr (0, 6))) w = some (.inl 7) := by rw [z_gK_pN, if_neg (by omega)]; exact k2
  refine ev_bs (sP_k k4) ?_
  have a5 : (gK (pP (pN (pP σ2 448 w (some nx)) (nx + 2) (.inr (0, 6))) 449 w (some (nx + 2))) w = some (.inl 7) ∧ gP (pP (pN (pP σ2 448 w (some nx)) (nx + 2) (.inr (0, 6))) 449 w (some (nx + 2))) 448 w = some nx ∧ R0 (pP (pN (pP σ2 448 w (some nx)) (nx + 2) (.inr (0, 6))) 449 w (some (nx + 2))) nx (nx + 1) ∧ gP (pP (pN (pP σ2 448 w (some nx)) (nx + 2) (.inr (0, 6))) 449 w (some (nx + 2))) 449 w = some (nx + 2) ∧ gK (pP (pN (pP σ2 448 w (some nx)) (nx + 2) (.inr (0, 6))) 449 w (some (nx + 2))) (nx + 2) = some (.inr (0, 6))) := by
    refine ⟨k4, ?_, ?_, ?_, ?_⟩
    · rw [z_gP_pP, if_neg (fun z => absurd z.1 (by decide)), z_gP_pN, if_neg (by omega), z_gP_pP, if_pos ⟨rfl, rfl⟩]
    · exact R0_s (P := fun a => a ≠ w ∧ a ≠ nx + 2) w2 (Sam_pP (Sam_pN (Sam_pP Sam_rf (fun x hx => hx.1)) (fun x hx => hx.2)) (fun x hx => hx.1)) (show nx ≠ w ∧ nx ≠ nx + 2 by omega) (show nx + 1 ≠ w ∧ nx + 1 ≠ nx + 2 by omega)
    · rw [z_gP_pP, if_pos ⟨rfl, rfl⟩]
    · show gK (pN (pP σ2 448 w (some nx)) (nx + 2) (.inr (0, 6))) (nx + 2) = _
      rw [z_gK_pN, if_pos rfl]
  have s5 : Sam (fun a => a ≠ w ∧ a < nx) σ (pP (pN (pP σ2 448 w (some nx)) (nx + 2) (.inr (0, 6))) 449 w (some (nx + 2))) := Sam_pP (Sam_pN (Sam_pP s2 (fun x hx => hx.1)) (fun x hx => by have := hx.2; omega)) (fun x hx => hx.1)
  generalize pP (pN (pP σ2 448 w (some nx)) (nx + 2) (.inr (0, 6))) 449 w (some (nx + 2)) = σ5 at a5 s5 ⊢
  obtain ⟨b1, b2, b3, b4, b5⟩ := a5
  refine ev_bs (sI_k b1) ?_
  refine ev_bs (sI_k (show gK (pI σ5 450 w 0) w = some (.inl 7) from b1)) ?_
  refine ev_bs (sI_k (show gK (pI (pI σ5 450 w 0) 451 w 0) w = some (.inl 7) from b1)) ?_
  refine ev_bs (sI_k (show gK (pI (pI (pI σ5 450 w 0) 451 w 0) 452 w 0) w = some (.inl 7) from b1)) ?_
  have a9 : WT0 (pI (pI (pI (pI σ5 450 w 0) 451 w 0) 452 w 0) 453 w 0) w nx (nx + 1) (nx + 2) := by
    refine ⟨b1, b2, ?_, b4, b5, ?_, gI_pIs⟩
    · exact R0_s (P := fun a => a ≠ w) b3 (Sam_pI (Sam_pI (Sam_pI (Sam_pI Sam_rf (fun x hx => hx)) (fun x hx => hx)) (fun x hx => hx)) (fun x hx => hx)) (show nx ≠ w by omega) (show nx + 1 ≠ w by omega)
    · rw [gI_pIf (by decide), gI_pIf (by decide), gI_pIf (by decide), gI_pIs]
  have s9 : Sam (fun a => a ≠ w ∧ a < nx) σ (pI (pI (pI (pI σ5 450 w 0) 451 w 0) 452 w 0) 453 w 0) := Sam_pI (Sam_pI (Sam_pI (Sam_pI s5 (fun x hx => hx.1)) (fun x hx => hx.1)) (fun x hx => hx.1)) (fun x hx => hx.1)
  generalize pI (pI (pI (pI σ5 450 w 0) 451 w 0) 452 w 0) 453 w 0 = σ9 at a9 s9 ⊢
  have st : ∀ (τ : fr_S) (f : Nat) (v : Int32), f ≠ 450 → f ≠ 453 → f ≠ 257 → WT0 τ w nx (nx + 1) (nx + 2) ∧ Sam (fun a => a ≠ w ∧ a < nx) σ τ → WT0 (pI τ f w v) w nx (nx + 1) (nx + 2) ∧ Sam (fun a => a ≠ w ∧ a < nx) σ (pI τ f w v) := by
    intro τ f v f1 f2 f3 h
    obtain ⟨⟨h1, h2, h3, h4, h5, h6, h7⟩, h8⟩ := h
    exact ⟨⟨h1, h2, ⟨h3.1, by rw [gI_pIf (Ne.symm f3)]; exact h3.2.1, h3.2.2⟩, h4, h5, by rw [gI_pIf (Ne.symm f1)]; exact h6, by rw [gI_pIf (Ne.symm f2)]; exact h7⟩, Sam_pI h8 (fun x hx => hx.1)⟩
  have q10 := st σ9 454 0 (by decide) (by decide) (by decide) ⟨a9, s9⟩
  refine ev_bs (sI_k a9.1) ?_
  have q11 := st _ 455 0 (by decide) (by decide) (by decide) q10
  refine ev_bs (sI_k q10.1.1) ?_
  have q12 := st _ 456 0 (by decide) (by decide) (by decide) q11
  refine ev_bs (sI_k q11.1.1) ?_
  exact ev_some ⟨rfl, q12⟩
theorem oR_k {cl mc sl ms : Nat} (h : cl ≤ mc ∧ sl ≤ ms) : oR cl mc sl ms = some () := if_pos h
theorem sQ_nI {σ : fr_S} {t ci a n i r : Nat} (hk : gK σ a = some (.inr (t, n))) (hr : gK σ r = some (.inl ci)) (hi : i < n) (hn : n < 2 ^ 31) : sQ σ t ci a (nI i) r = some (pB σ a (va_up (gQ σ a) i (some r))) := by
  unfold sQ
  rw [hk]
  have h1 : (nI i).toNatClampNeg = i := nI_clamp (by omega)
  have h2 : ¬ (nI i < 0 ∨ n ≤ (nI i).toNatClampNeg) := nI_in hi hn
  rw [h1] at h2
  simp only [true_and, h1]
  rw [if_pos ⟨hr, h2⟩]
/-- rows of the store, made so far -/
def KI (b k : Nat) (σ0 σ : fr_S) : Prop := Sam (fun a => a < b + 8 ∧ a ≠ b + 7) σ0 σ ∧ gK σ (b + 7) = some (.inr (4, 10)) ∧ ∀ i, i < k → gQ σ (b + 7) i = some (b + 8 + 2 * i) ∧ R0 σ (b + 8 + 2 * i) (b + 9 + 2 * i)
theorem KI_step {b k : Nat} {σ0 σ : fr_S} (h : KI b k σ0 σ) (hk : k < 10) : ev ((nC σ (b + 8 + 2 * k) (.inl 4)).bind fun σ_9 => (m_Row_init (b + 8 + 2 * k) σ_9 (b + 8 + 2 * k + 1)).bind fun w10 => (sQ w10.1 4 4 (b + 7) (nI k) (b + 8 + 2 * k)).bind fun σ_11 => some (σ_11, w10.2)) (fun q => KI b (k + 1) σ0 q.1 ∧ q.2 = b + 8 + 2 * (k + 1)) := by
  obtain ⟨h1, h2, h3⟩ := h
  refine ev_bs (a := pN σ (b + 8 + 2 * k) (.inl 4)) rfl ?_
  refine ev_b (x_row0 (σ := pN σ (b + 8 + 2 * k) (.inl 4)) (r := b + 8 + 2 * k) (by rw [z_gK_pN, if_pos rfl]) (by omega)) (fun w hw => ?_)
  obtain ⟨σ2, n2⟩ := w
  obtain ⟨w1, w2, w3⟩ := hw
  have w1 : n2 = b + 8 + 2 * k + 1 + 1 := w1
  have w2 : R0 σ2 (b + 8 + 2 * k) (b + 8 + 2 * k + 1) := w2
  have s2 : Sam (fun a => a < b + 8 + 2 * k) σ σ2 := Sam_tr (P := fun a => a < b + 8 + 2 * k) (Sam_pN Sam_rf (fun x hx => Nat.ne_of_lt hx)) w3 (fun a ha => ⟨ha, Nat.ne_of_lt ha, Nat.lt_succ_of_lt ha⟩)
  have k7 : gK σ2 (b + 7) = some (.inr (4, 10)) := (s2 (b + 7) (show b + 7 < b + 8 + 2 * k by omega)).1.trans h2
  refine ev_bs (sQ_nI k7 w2.1.1 hk (by decide)) ?_
  refine ev_some ⟨⟨?_, k7, fun i hi => ?_⟩, show n2 = _ by omega⟩
  · refine Sam_pB (Sam_tr h1 s2 (fun a ha => ⟨ha, show a < b + 8 + 2 * k by have := ha.1; omega⟩)) (fun x hx => hx.2)
  · rw [z_gQ_pB, if_pos rfl]
    have e9 : b + 9 + 2 * i = b + 8 + 2 * i + 1 := by omega
    have sB : ∀ u, Sam (fun a => a ≠ b + 7) σ2 (pB σ2 (b + 7) u) := fun u => Sam_pB Sam_rf (fun x hx => hx)
    by_cases e : i = k
    · subst e
      rw [va_up_self, e9]
      exact ⟨rfl, R0_s w2 (sB _) (show b + 8 + 2 * i ≠ b + 7 by omega) (show b + 8 + 2 * i + 1 ≠ b + 7 by omega)⟩
    · rw [va_up_ne _ _ e, (s2 (b + 7) (show b + 7 < b + 8 + 2 * k by omega)).2.2.2.2]
      obtain ⟨g1, g2⟩ := h3 i (by omega)
      exact ⟨g1, R0_s (P := fun a => a ≠ b + 7) (R0_s (P := fun a => a < b + 8 + 2 * k) g2 s2 (show b + 8 + 2 * i < b + 8 + 2 * k by omega) (show b + 9 + 2 * i < b + 8 + 2 * k by omega)) (sB _) (show b + 8 + 2 * i ≠ b + 7 by omega) (show b + 9 + 2 * i ≠ b + 7 by omega)⟩
theorem ev_bb {α β γ : Type} {o : Option α} {f : α → Option β} {g : β → Option γ} {P : β → Prop} {Q : γ → Prop} (ho : ev (o.bind f) P) (h : ∀ z, P z → ev (g z) Q) : ev (o.bind fun a => (f a).bind g) Q := by
  cases o with
  | none => obtain ⟨z, hz, -⟩ := ho; cases hz
  | some a => exact ev_b (o := f a) ho h
theorem x_store_L {b : Nat} {σ0 : fr_S} (hk5 : gK σ0 (b + 5) = some (.inl 5)) (hp : gP σ0 321 (b + 5) = some (b + 7)) : ∀ (n k : Nat) (σ : fr_S), KI b k σ0 σ → k ≤ 10 → 10 - k < n → ev (m_Store_init_L28 n (b + 5) (nI k) σ (b + 8 + 2 * k) (2 + 2 * k) (20 + 102 * k)) (fun q => KI b 10 σ0 q.1 ∧ q.2 = b + 28) := by
  intro n
  induction n with
  | zero => intro k σ _ _ h; omega
  | succ n ih =>
    intro k σ h hk hn
    unfold m_Store_init_L28
    refine ev_if (fun z => ?_) (fun z => ?_)
    · rw [nI_lit10, nI_leI (by omega) (by omega)] at z
      have e : k = 10 := by omega
      subst e
      exact ev_bs (oR_k (by omega)) (ev_some ⟨h, rfl⟩)
    · rw [nI_lit10, nI_leI (by omega) (by omega)] at z
      have s5 := h.1 (b + 5) (show b + 5 < b + 8 ∧ b + 5 ≠ b + 7 by omega)
      refine ev_bs (oP_g (s5.1.trans hk5) ((s5.2.2.1 321).trans hp)) ?_
      refine ev_bs (oR_k (by omega)) ?_
      obtain ⟨q, hq, hq2, hq3⟩ := KI_step h (by omega)
      obtain ⟨σ9, e9, hq⟩ := fr_bind hq
      obtain ⟨w10, e10, hq⟩ := fr_bind hq
      obtain ⟨σ11, e11, hq⟩ := fr_bind hq
      cases hq
      refine ev_bs e9 ?_
      refine ev_bs (oR_k (by omega)) ?_
      refine ev_bs e10 ?_
      refine ev_bs e11 ?_
      have hq3 : w10.2 = b + 8 + 2 * (k + 1) := hq3
      rw [hq3, nI_1]
      exact ih (k + 1) σ11 hq2 (by omega) (by omega)
/-- the places, made so far -/
def PI (b k : Nat) (σ0 σ : fr_S) : Prop := Sam (fun a => a < b + 38 ∧ a ≠ b + 3) σ0 σ ∧ gK σ (b + 3) = some (.inr (2, 16)) ∧ ∀ i, i < k → gQ σ (b + 3) i = some (b + 38 + 3 * i) ∧ PL0 σ (b + 38 + 3 * i) (b + 39 + 3 * i) (b + 40 + 3 * i)
theorem PI_step {b k : Nat} {σ0 σ : fr_S} (h : PI b k σ0 σ) (hk : k < 16) : ev ((nC σ (b + 38 + 3 * k) (.inl 3)).bind fun σ_28 => (m_Place_init (b + 38 + 3 * k) σ_28 (b + 38 + 3 * k + 1)).bind fun w29 => (sQ w29.1 2 3 (b + 3) (nI k) (b + 38 + 3 * k)).bind fun σ_30 => some (σ_30, w29.2)) (fun q => PI b (k + 1) σ0 q.1 ∧ q.2 = b + 38 + 3 * (k + 1)) := by
  obtain ⟨h1, h2, h3⟩ := h
  refine ev_bs (a := pN σ (b + 38 + 3 * k) (.inl 3)) rfl ?_
  refine ev_b (x_place0 (σ := pN σ (b + 38 + 3 * k) (.inl 3)) (p := b + 38 + 3 * k) (by rw [z_gK_pN, if_pos rfl]) (by omega)) (fun w hw => ?_)
  obtain ⟨σ2, n2⟩ := w
  obtain ⟨w1, w2, w3⟩ := hw
  have w1 : n2 = b + 38 + 3 * k + 1 + 2 := w1
  have w2 : PL0 σ2 (b + 38 + 3 * k) (b + 38 + 3 * k + 1) (b + 38 + 3 * k + 2) := w2
  have s2 : Sam (fun a => a < b + 38 + 3 * k) σ σ2 := Sam_tr (P := fun a => a < b + 38 + 3 * k) (Sam_pN Sam_rf (fun x hx => Nat.ne_of_lt hx)) w3 (fun a ha => ⟨ha, Nat.ne_of_lt ha, Nat.lt_succ_of_lt ha⟩)
  have k7 : gK σ2 (b + 3) = some (.inr (2, 16)) := (s2 (b + 3) (show b + 3 < b + 38 + 3 * k by omega)).1.trans h2
  refine ev_bs (sQ_nI k7 w2.1 hk (by decide)) ?_
  refine ev_some ⟨⟨?_, k7, fun i hi => ?_⟩, show n2 = _ by omega⟩
  · refine Sam_pB (Sam_tr h1 s2 (fun a ha => ⟨ha, show a < b + 38 + 3 * k by have := ha.1; omega⟩)) (fun x hx => hx.2)
  · rw [z_gQ_pB, if_pos rfl]
    have e9 : b + 39 + 3 * i = b + 38 + 3 * i + 1 := by omega
    have e10 : b + 40 + 3 * i = b + 38 + 3 * i + 2 := by omega
    have sB : ∀ u, Sam (fun a => a ≠ b + 3) σ2 (pB σ2 (b + 3) u) := fun u => Sam_pB Sam_rf (fun x hx => hx)
    by_cases e : i = k
    · subst e
      rw [va_up_self, e9, e10]
      exact ⟨rfl, PL0_s w2 (sB _) (show b + 38 + 3 * i ≠ b + 3 by omega) (show b + 38 + 3 * i + 1 ≠ b + 3 by omega) (show b + 38 + 3 * i + 2 ≠ b + 3 by omega)⟩
    · rw [va_up_ne _ _ e, (s2 (b + 3) (show b + 3 < b + 38 + 3 * k by omega)).2.2.2.2]
      obtain ⟨g1, g2⟩ := h3 i (by omega)
      exact ⟨g1, PL0_s (P := fun a => a ≠ b + 3) (PL0_s (P := fun a => a < b + 38 + 3 * k) g2 s2 (show b + 38 + 3 * i < b + 38 + 3 * k by omega) (show b + 39 + 3 * i < b + 38 + 3 * k by omega) (show b + 40 + 3 * i < b + 38 + 3 * k by omega)) (sB _) (show b + 38 + 3 * i ≠ b + 3 by omega) (show b + 39 + 3 * i ≠ b + 3 by omega) (show b + 40 + 3 * i ≠ b + 3 by omega)⟩
/-- the wants, made so far -/
def WI (b k : Nat) (σ0 σ : fr_S) : Prop := Sam (fun a => a < b + 86 ∧ a ≠ b + 4) σ0 σ ∧ gK σ (b + 4) = some (.inr (3, 10)) ∧ ∀ i, i < k → gQ σ (b + 4) i = some (b + 86 + 4 * i) ∧ WT0 σ (b + 86 + 4 * i) (b + 87 + 4 * i) (b + 88 + 4 * i) (b + 89 + 4 * i)
theorem WI_step {b k : Nat} {σ0 σ : fr_S} (h : WI b k σ0 σ) (hk : k < 10) : ev ((nC σ (b + 86 + 4 * k) (.inl 7)).bind fun σ_28 => (m_Want_init (b + 86 + 4 * k) σ_28 (b + 86 + 4 * k + 1)).bind fun w29 => (sQ w29.1 3 7 (b + 4) (nI k) (b + 86 + 4 * k)).bind fun σ_30 => some (σ_30, w29.2)) (fun q => WI b (k + 1) σ0 q.1 ∧ q.2 = b + 86 + 4 * (k + 1)) := by
  obtain ⟨h1, h2, h3⟩ := h
  refine ev_bs (a := pN σ (b + 86 + 4 * k) (.inl 7)) rfl ?_
  refine ev_b (x_want0 (σ := pN σ (b + 86 + 4 * k) (.inl 7)) (w := b + 86 + 4 * k) (by rw [z_gK_pN, if_pos rfl]) (by omega)) (fun w hw => ?_)
  obtain ⟨σ2, n2⟩ := w
  obtain ⟨w1, w2, w3⟩ := hw
  have w1 : n2 = b + 86 + 4 * k + 1 + 3 := w1
  have w2 : WT0 σ2 (b + 86 + 4 * k) (b + 86 + 4 * k + 1) (b + 86 + 4 * k + 2) (b + 86 + 4 * k + 3) := w2
  have s2 : Sam (fun a => a < b + 86 + 4 * k) σ σ2 := Sam_tr (P := fun a => a < b + 86 + 4 * k) (Sam_pN Sam_rf (fun x hx => Nat.ne_of_lt hx)) w3 (fun a ha => ⟨ha, Nat.ne_of_lt ha, Nat.lt_succ_of_lt ha⟩)
  have k7 : gK σ2 (b + 4) = some (.inr (3, 10)) := (s2 (b + 4) (show b + 4 < b + 86 + 4 * k by omega)).1.trans h2
  refine ev_bs (sQ_nI k7 w2.1 hk (by decide)) ?_
  refine ev_some ⟨⟨?_, k7, fun i hi => ?_⟩, show n2 = _ by omega⟩
  · refine Sam_pB (Sam_tr h1 s2 (fun a ha => ⟨ha, show a < b + 86 + 4 * k by have := ha.1; omega⟩)) (fun x hx => hx.2)
  · rw [z_gQ_pB, if_pos rfl]
    have e9 : b + 87 + 4 * i = b + 86 + 4 * i + 1 := by omega
    have e10 : b + 88 + 4 * i = b + 86 + 4 * i + 2 := by omega
    have e11 : b + 89 + 4 * i = b + 86 + 4 * i + 3 := by omega
    have sB : ∀ u, Sam (fun a => a ≠ b + 4) σ2 (pB σ2 (b + 4) u) := fun u => Sam_pB Sam_rf (fun x hx => hx)
    by_cases e : i = k
    · subst e
      rw [va_up_self, e9, e10, e11]
      exact ⟨rfl, WT0_s w2 (sB _) (show b + 86 + 4 * i ≠ b + 4 by omega) (show b + 86 + 4 * i + 1 ≠ b + 4 by omega) (show b + 86 + 4 * i + 2 ≠ b + 4 by omega) (show b + 86 + 4 * i + 3 ≠ b + 4 by omega)⟩
    · rw [va_up_ne _ _ e, (s2 (b + 4) (show b + 4 < b + 86 + 4 * k by omega)).2.2.2.2]
      obtain ⟨g1, g2⟩ := h3 i (by omega)
      exact ⟨g1, WT0_s (P := fun a => a ≠ b + 4) (WT0_s (P := fun a => a < b + 86 + 4 * k) g2 s2 (show b + 86 + 4 * i < b + 86 + 4 * k by omega) (show b + 87 + 4 * i < b + 86 + 4 * k by omega) (show b + 88 + 4 * i < b + 86 + 4 * k by omega) (show b + 89 + 4 * i < b + 86 + 4 * k by omega)) (sB _) (show b + 86 + 4 * i ≠ b + 4 by omega) (show b + 87 + 4 * i ≠ b + 4 by omega) (show b + 88 + 4 * i ≠ b + 4 by omega) (show b + 89 + 4 * i ≠ b + 4 by omega)⟩
theorem x_wants_L {b : Nat} {σ0 : fr_S} (hk5 : gK σ0 b = some (.inl 1)) (hp : gP σ0 69 b = some (b + 4)) : ∀ (n k : Nat) (σ : fr_S), WI b k σ0 σ → k ≤ 10 → 10 - k < n → ev (m_FR_init_L146 n b (nI k) σ (b + 86 + 4 * k) (85 + 4 * k) (3208 + 117 * k)) (fun q => WI b 10 σ0 q.1 ∧ q.2 = b + 126) := by
  intro n
  induction n with
  | zero => intro k σ _ _ h; omega
  | succ n ih =>
    intro k σ h hk hn
    unfold m_FR_init_L146
    refine ev_if (fun z => ?_) (fun z => ?_)
    · rw [nI_lit10, nI_leI (by omega) (by omega)] at z
      have e : k = 10 := by omega
      subst e
      exact ev_bs (oR_k (by omega)) (ev_some ⟨h, rfl⟩)
    · rw [nI_lit10, nI_leI (by omega) (by omega)] at z
      have s5 := h.1 b (show b < b + 86 ∧ b ≠ b + 4 by omega)
      refine ev_bs (oP_g (s5.1.trans hk5) ((s5.2.2.1 69).trans hp)) ?_
      refine ev_bs (oR_k (by omega)) ?_
      obtain ⟨q, hq, hq2, hq3⟩ := WI_step h (by omega)
      obtain ⟨σ9, e9, hq⟩ := fr_bind hq
      obtain ⟨w10, e10, hq⟩ := fr_bind hq
      obtain ⟨σ11, e11, hq⟩ := fr_bind hq
      cases hq
      refine ev_bs e9 ?_
      refine ev_bs (oR_k (by omega)) ?_
      refine ev_bs e10 ?_
      refine ev_bs e11 ?_
      have hq3 : w10.2 = b + 86 + 4 * (k + 1) := hq3
      rw [hq3, nI_1]
      exact ih (k + 1) σ11 hq2 (by omega) (by omega)
theorem x_places_L {b : Nat} {σ0 : fr_S} (hk5 : gK σ0 b = some (.inl 1)) (hp : gP σ0 67 b = some (b + 3)) (hp2 : gP σ0 69 b = some (b + 4)) (hk4 : gK σ0 (b + 4) = some (.inr (3, 10))) : ∀ (n k : Nat) (σ : fr_S), PI b k σ0 σ → k ≤ 16 → 16 - k < n → ev (m_FR_init_L119 n b (nI k) σ (b + 38 + 3 * k) (37 + 3 * k) (1416 + 112 * k)) (fun q => (∃ σ1, PI b 16 σ0 σ1 ∧ WI b 10 σ1 q.1) ∧ q.2 = b + 126) := by
  intro n
  induction n with
  | zero => intro k σ _ _ h; omega
  | succ n ih =>
    intro k σ h hk hn
    unfold m_FR_init_L119
    have s5 := h.1 b (show b < b + 38 ∧ b ≠ b + 3 by omega)
    refine ev_if (fun z => ?_) (fun z => ?_)
    · rw [nI_lit16, nI_leI (by omega) (by omega)] at z
      have e : k = 16 := by omega
      subst e
      have s4 := h.1 (b + 4) (show b + 4 < b + 38 ∧ b + 4 ≠ b + 3 by omega)
      have key := x_wants_L (b := b) (σ0 := σ) (s5.1.trans hk5) ((s5.2.2.1 69).trans hp2) 1000 0 σ ⟨Sam_rf, s4.1.trans hk4, fun i hi => by omega⟩ (by omega) (by omega)
      rw [nI_0] at key
      refine ev_mono key (fun q hq => ⟨⟨σ, h, hq.1⟩, hq.2⟩)
    · rw [nI_lit16, nI_leI (by omega) (by omega)] at z
      refine ev_bs (oP_g (s5.1.trans hk5) ((s5.2.2.1 67).trans hp)) ?_
      refine ev_bs (oR_k (by omega)) ?_
      obtain ⟨q, hq, hq2, hq3⟩ := PI_step h (by omega)
      obtain ⟨σ9, e9, hq⟩ := fr_bind hq
      obtain ⟨w10, e10, hq⟩ := fr_bind hq
      obtain ⟨σ11, e11, hq⟩ := fr_bind hq
      cases hq
      refine ev_bs e9 ?_
      refine ev_bs (oR_k (by omega)) ?_
      refine ev_bs e10 ?_
      refine ev_bs e11 ?_
      have hq3 : w10.2 = b + 38 + 3 * (k + 1) := hq3
      rw [hq3, nI_1]
      exact ih (k + 1) σ11 hq2 (by omega) (by omega)
theorem z_gK_pP {σ : fr_S} {f a b : Nat} {v : Option Nat} : gK (pP σ f a v) b = gK σ b := rfl
theorem z_gK_pI {σ : fr_S} {f a b : Nat} {v : Int32} : gK (pI σ f a v) b = gK σ b := rfl
theorem z_gI_pP {σ : fr_S} {f a g b : Nat} {v : Option Nat} : gI (pP σ f a v) g b = gI σ g b := rfl
theorem z_gP_pI {σ : fr_S} {f a g b : Nat} {v : Int32} : gP (pI σ f a v) g b = gP σ g b := rfl
/-- the store -/
def ST0 (σ : fr_S) (b : Nat) : Prop := (gK σ (b + 5) = some (.inl 5) ∧ gP σ 320 (b + 5) = some (b + 6) ∧ gK σ (b + 6) = some (.inr (0, 10)) ∧ gP σ 321 (b + 5) = some (b + 7) ∧ gK σ (b + 7) = some (.inr (4, 10))) ∧ gI σ 322 (b + 5) = 0 ∧ ∀ i, i < 10 → gQ σ (b + 7) i = some (b + 8 + 2 * i) ∧ R0 σ (b + 8 + 2 * i) (b + 9 + 2 * i)
theorem ST0_s {P : Nat → Prop} {σ σ' : fr_S} {b : Nat} (h : ST0 σ b) (hs : Sam P σ σ') (hp : ∀ a, b + 5 ≤ a → a < b + 28 → P a) : ST0 σ' b := by
  obtain ⟨⟨h1, h2, h3, h4, h5⟩, h6, h7⟩ := h
  have s5 := hs (b + 5) (hp _ (by omega) (by omega))
  have s6 := hs (b + 6) (hp _ (by omega) (by omega))
  have s7 := hs (b + 7) (hp _ (by omega) (by omega))
  refine ⟨⟨s5.1.trans h1, (s5.2.2.1 320).trans h2, s6.1.trans h3, (s5.2.2.1 321).trans h4, s7.1.trans h5⟩, (s5.2.1 322).trans h6, fun i hi => ?_⟩
  obtain ⟨g1, g2⟩ := h7 i hi
  exact ⟨(congrFun s7.2.2.2.2 i).trans g1, R0_s g2 hs (hp _ (by omega) (by omega)) (hp _ (by omega) (by omega))⟩
theorem x_store0 {b : Nat} {σ : fr_S} (hk : gK σ (b + 5) = some (.inl 5)) : ev (m_Store_init (b + 5) σ (b + 6)) (fun q => q.2 = b + 28 ∧ ST0 q.1 b ∧ Sam (fun a => a < b + 5) σ q.1) := by
  unfold m_Store_init
  refine ev_bs (a := pN σ (b + 6) (.inr (0, 10))) rfl ?_
  have k1 : gK (pN σ (b + 6) (.inr (0, 10))) (b + 5) = some (.inl 5) := by rw [z_gK_pN, if_neg (by omega)]; exact hk
  refine ev_bs (sP_k k1) ?_
  refine ev_bs (a := pN (pP (pN σ (b + 6) (.inr (0, 10))) 320 (b + 5) (some (b + 6))) (b + 7) (.inr (4, 10))) rfl ?_
  have k3 : gK (pN (pP (pN σ (b + 6) (.inr (0, 10))) 320 (b + 5) (some (b + 6))) (b + 7) (.inr (4, 10))) (b + 5) = some (.inl 5) := by rw [z_gK_pN, if_neg (by omega)]; exact k1
  refine ev_bs (sP_k k3) ?_
  refine ev_bs (sI_k (show gK (pP (pN (pP (pN σ (b + 6) (.inr (0, 10))) 320 (b + 5) (some (b + 6))) (b + 7) (.inr (4, 10))) 321 (b + 5) (some (b + 7))) (b + 5) = some (.inl 5) from k3)) ?_
  have f0 : ∀ σ5, σ5 = pI (pP (pN (pP (pN σ (b + 6) (.inr (0, 10))) 320 (b + 5) (some (b + 6))) (b + 7) (.inr (4, 10))) 321 (b + 5) (some (b + 7))) 322 (b + 5) 0 → ((gK σ5 (b + 5) = some (.inl 5) ∧ gP σ5 320 (b + 5) = some (b + 6) ∧ gK σ5 (b + 6) = some (.inr (0, 10)) ∧ gP σ5 321 (b + 5) = some (b + 7) ∧ gK σ5 (b + 7) = some (.inr (4, 10))) ∧ gI σ5 322 (b + 5) = 0) ∧ Sam (fun a => a < b + 5) σ σ5 := by
    intro σ5 e
    subst e
    refine ⟨⟨⟨k3, ?_, ?_, ?_, ?_⟩, gI_pIs⟩, ?_⟩
    · simp [z_gP_pI, z_gP_pP, z_gP_pN]
    · simp [z_gK_pI, z_gK_pP, z_gK_pN]
    · simp [z_gP_pI, z_gP_pP]
    · simp [z_gK_pI, z_gK_pP, z_gK_pN]
    · refine Sam_pI (Sam_pP (Sam_pN (Sam_pP (Sam_pN Sam_rf (fun x hx => ?_)) (fun x hx => ?_)) (fun x hx => ?_)) (fun x hx => ?_)) (fun x hx => ?_) <;> (have hx : x < b + 5 := hx; omega)
  have f0 := f0 _ rfl
  generalize pI (pP (pN (pP (pN σ (b + 6) (.inr (0, 10))) 320 (b + 5) (some (b + 6))) (b + 7) (.inr (4, 10))) 321 (b + 5) (some (b + 7))) 322 (b + 5) 0 = σ5 at f0 ⊢
  obtain ⟨⟨⟨h1, h2, h3, h4, h5⟩, h6⟩, h7⟩ := f0
  have key := x_store_L h1 h4 1000 0 σ5 ⟨Sam_rf, h5, fun i hi => by omega⟩ (by omega) (by omega)
  rw [nI_0] at key
  refine ev_mono key (fun q hq => ?_)
  obtain ⟨⟨g1, g2, g3⟩, g4⟩ := hq
  have s5 := g1 (b + 5) (show b + 5 < b + 8 ∧ b + 5 ≠ b + 7 by omega)
  have s6 := g1 (b + 6) (show b + 6 < b + 8 ∧ b + 6 ≠ b + 7 by omega)
  refine ⟨g4, ⟨⟨s5.1.trans h1, (s5.2.2.1 320).trans h2, s6.1.trans h3, (s5.2.2.1 321).trans h4, g2⟩, (s5.2.1 322).trans h6, g3⟩, ?_⟩
  exact Sam_tr h7 g1 (fun a ha => ⟨ha, show a < b + 8 ∧ a ≠ b + 7 by have ha : a < b + 5 := ha; omega⟩)
/-- the tellings -/
def TL0 (σ : fr_S) (h n : Nat) : Prop := (gK σ h = some (.inl 6) ∧ gP σ 384 h = some n ∧ gK σ n = some (.inr (0, 60)) ∧ gP σ 385 h = some (n + 1) ∧ gK σ (n + 1) = some (.inr (0, 60)) ∧ gP σ 386 h = some (n + 2) ∧ gK σ (n + 2) = some (.inr (0, 60))) ∧ gI σ 387 h = 0
theorem TL0_s {P : Nat → Prop} {σ σ' : fr_S} {h n : Nat} (hh : TL0 σ h n) (hs : Sam P σ σ') (p0 : P h) (p1 : P n) (p2 : P (n + 1)) (p3 : P (n + 2)) : TL0 σ' h n := by
  obtain ⟨⟨h1, h2, h3, h4, h5, h6, h7⟩, h8⟩ := hh
  have s0 := hs h p0
  exact ⟨⟨s0.1.trans h1, (s0.2.2.1 384).trans h2, (hs n p1).1.trans h3, (s0.2.2.1 385).trans h4, (hs (n + 1) p2).1.trans h5, (s0.2.2.1 386).trans h6, (hs (n + 2) p3).1.trans h7⟩, (s0.2.1 387).trans h8⟩
theorem x_tell0 {σ : fr_S} {h nx : Nat} (hk : gK σ h = some (.inl 6)) (hh : h < nx) : ev (m_Tellings_init h σ nx) (fun q => q.2 = nx + 3 ∧ TL0 q.1 h nx ∧ Sam (fun a => a ≠ h ∧ a < nx) σ q.1) := by
  have e0 : h ≠ nx := by omega
  have e1 : h ≠ nx + 1 := by omega
  have e2 : h ≠ nx + 2 := by omega
  unfold m_Tellings_init
  refine ev_bs (a := pN σ nx (.inr (0, 60))) rfl ?_
  refine ev_bs (sP_k (by simp [z_gK_pN, e0, hk])) ?_
  refine ev_bs (a := pN (pP (pN σ nx (.inr (0, 60))) 384 h (some nx)) (nx + 1) (.inr (0, 60))) rfl ?_
  refine ev_bs (sP_k (by simp [z_gK_pN, z_gK_pP, e0, e1, hk])) ?_
  refine ev_bs (a := pN (pP (pN (pP (pN σ nx (.inr (0, 60))) 384 h (some nx)) (nx + 1) (.inr (0, 60))) 385 h (some (nx + 1))) (nx + 2) (.inr (0, 60))) rfl ?_
  refine ev_bs (sP_k (by simp [z_gK_pN, z_gK_pP, e0, e1, e2, hk])) ?_
  refine ev_bs (sI_k (by simp [z_gK_pN, z_gK_pP, e0, e1, e2, hk])) ?_
  refine ev_some ⟨rfl, ⟨⟨?_, ?_, ?_, ?_, ?_, ?_, ?_⟩, gI_pIs⟩, ?_⟩
  · simp [z_gK_pN, z_gK_pP, z_gK_pI, e0, e1, e2, hk]
  · simp [z_gP_pN, z_gP_pP, z_gP_pI, e0, e1, e2]
  · simp [z_gK_pN, z_gK_pP, z_gK_pI]
  · simp [z_gP_pN, z_gP_pP, z_gP_pI, e0, e1, e2]
  · simp [z_gK_pN, z_gK_pP, z_gK_pI]
  · simp [z_gP_pN, z_gP_pP, z_gP_pI, e0, e1, e2]
  · simp [z_gK_pN, z_gK_pP, z_gK_pI]
  · refine Sam_pI (Sam_pP (Sam_pN (Sam_pP (Sam_pN (Sam_pP (Sam_pN Sam_rf (fun x hx => ?_)) (fun x hx => ?_)) (fun x hx => ?_)) (fun x hx => ?_)) (fun x hx => ?_)) (fun x hx => ?_)) (fun x hx => ?_) <;> (have hx : x ≠ h ∧ x < nx := hx; omega)
/-- the files -/
def FL0 (σ : fr_S) (h n : Nat) : Prop := (gK σ h = some (.inl 2) ∧ gP σ 128 h = some n ∧ gK σ n = some (.inr (0, 33)) ∧ gP σ 129 h = some (n + 1) ∧ gK σ (n + 1) = some (.inr (0, 33)) ∧ gP σ 130 h = some (n + 2) ∧ gK σ (n + 2) = some (.inr (0, 33)) ∧ gP σ 131 h = some (n + 3) ∧ gK σ (n + 3) = some (.inr (0, 33))) ∧ gI σ 132 h = 0
theorem FL0_s {P : Nat → Prop} {σ σ' : fr_S} {h n : Nat} (hh : FL0 σ h n) (hs : Sam P σ σ') (p0 : P h) (p1 : P n) (p2 : P (n + 1)) (p3 : P (n + 2)) (p4 : P (n + 3)) : FL0 σ' h n := by
  obtain ⟨⟨h1, h2, h3, h4, h5, h6, h7, h8, h9⟩, h10⟩ := hh
  have s0 := hs h p0
  exact ⟨⟨s0.1.trans h1, (s0.2.2.1 128).trans h2, (hs n p1).1.trans h3, (s0.2.2.1 129).trans h4, (hs (n + 1) p2).1.trans h5, (s0.2.2.1 130).trans h6, (hs (n + 2) p3).1.trans h7, (s0.2.2.1 131).trans h8, (hs (n + 3) p4).1.trans h9⟩, (s0.2.1 132).trans h10⟩
theorem x_files0 {σ : fr_S} {h nx : Nat} (hk : gK σ h = some (.inl 2)) (hh : h < nx) : ev (m_Files_init h σ nx) (fun q => q.2 = nx + 4 ∧ FL0 q.1 h nx ∧ Sam (fun a => a ≠ h ∧ a < nx) σ q.1) := by
  have e0 : h ≠ nx := by omega
  have e1 : h ≠ nx + 1 := by omega
  have e2 : h ≠ nx + 2 := by omega
  have e3 : h ≠ nx + 3 := by omega
  unfold m_Files_init
  refine ev_bs (a := pN σ nx (.inr (0, 33))) rfl ?_
  refine ev_bs (sP_k (by simp [z_gK_pN, e0, hk])) ?_
  refine ev_bs (a := pN (pP (pN σ nx (.inr (0, 33))) 128 h (some nx)) (nx + 1) (.inr (0, 33))) rfl ?_
  refine ev_bs (sP_k (by simp [z_gK_pN, z_gK_pP, e0, e1, hk])) ?_
  refine ev_bs (a := pN (pP (pN (pP (pN σ nx (.inr (0, 33))) 128 h (some nx)) (nx + 1) (.inr (0, 33))) 129 h (some (nx + 1))) (nx + 2) (.inr (0, 33))) rfl ?_
  refine ev_bs (sP_k (by simp [z_gK_pN, z_gK_pP, e0, e1, e2, hk])) ?_
  refine ev_bs (a := pN (pP (pN (pP (pN (pP (pN σ nx (.inr (0, 33))) 128 h (some nx)) (nx + 1) (.inr (0, 33))) 129 h (some (nx + 1))) (nx + 2) (.inr (0, 33))) 130 h (some (nx + 2))) (nx + 3) (.inr (0, 33))) rfl ?_
  refine ev_bs (sP_k (by simp [z_gK_pN, z_gK_pP, e0, e1, e2, e3, hk])) ?_
  refine ev_bs (sI_k (by simp [z_gK_pN, z_gK_pP, e0, e1, e2, e3, hk])) ?_
  refine ev_some ⟨rfl, ⟨⟨?_, ?_, ?_, ?_, ?_, ?_, ?_, ?_, ?_⟩, gI_pIs⟩, ?_⟩
  · simp [z_gK_pN, z_gK_pP, z_gK_pI, e0, e1, e2, e3, hk]
  · simp [z_gP_pN, z_gP_pP, z_gP_pI, e0, e1, e2, e3]
  · simp [z_gK_pN, z_gK_pP, z_gK_pI]
  · simp [z_gP_pN, z_gP_pP, z_gP_pI, e0, e1, e2, e3]
  · simp [z_gK_pN, z_gK_pP, z_gK_pI]
  · simp [z_gP_pN, z_gP_pP, z_gP_pI, e0, e1, e2, e3]
  · simp [z_gK_pN, z_gK_pP, z_gK_pI]
  · simp [z_gP_pN, z_gP_pP, z_gP_pI, e0, e1, e2, e3]
  · simp [z_gK_pN, z_gK_pP, z_gK_pI]
  · refine Sam_pI (Sam_pP (Sam_pN (Sam_pP (Sam_pN (Sam_pP (Sam_pN (Sam_pP (Sam_pN Sam_rf (fun x hx => ?_)) (fun x hx => ?_)) (fun x hx => ?_)) (fun x hx => ?_)) (fun x hx => ?_)) (fun x hx => ?_)) (fun x hx => ?_)) (fun x hx => ?_)) (fun x hx => ?_) <;> (have hx : x ≠ h ∧ x < nx := hx; omega)
/-- the object's own cell, its first arrays -/
def FA0 (σ : fr_S) (b : Nat) : Prop := gK σ b = some (.inl 1) ∧ (gP σ 65 b = some (b + 1) ∧ gK σ (b + 1) = some (.inr (1, 8))) ∧ (gP σ 66 b = some (b + 2) ∧ gK σ (b + 2) = some (.inr (0, 8))) ∧ (gP σ 67 b = some (b + 3) ∧ gK σ (b + 3) = some (.inr (2, 16))) ∧ (gP σ 69 b = some (b + 4) ∧ gK σ (b + 4) = some (.inr (3, 10))) ∧ gI σ 68 b = 0 ∧ gI σ 70 b = 0
def FB0 (σ : fr_S) (b : Nat) : Prop := FA0 σ b ∧ ST0 σ b ∧ TL0 σ (b + 28) (b + 29) ∧ FL0 σ (b + 33) (b + 34) ∧ gP σ 71 b = some (b + 5) ∧ gP σ 72 b = some (b + 28) ∧ (gP σ 73 b = some (b + 32) ∧ gK σ (b + 32) = some (.inr (0, 10))) ∧ gP σ 75 b = some (b + 33) ∧ gI σ 74 b = 0
theorem x_fin {b : Nat} {σ0 σ1 σ : fr_S} (h : FB0 σ0 b) (hP : PI b 16 σ0 σ1) (hW : WI b 10 σ1 σ) : XI b σ := by
  obtain ⟨p1, p2, p3⟩ := hP
  obtain ⟨w1, w2, w3⟩ := hW
  have s : Sam (fun a => a < b + 38 ∧ a ≠ b + 3 ∧ a ≠ b + 4) σ0 σ := Sam_tr p1 w1 (fun a ha => ⟨⟨ha.1, ha.2.1⟩, ⟨by have := ha.1; omega, ha.2.2⟩⟩)
  obtain ⟨⟨a1, a2, a3, a4, a5, a6, a7⟩, hS, hT, hF, c1, c2, c3, c4, c5⟩ := h
  have hS := ST0_s hS s (fun a h1 h2 => ⟨by omega, by omega, by omega⟩)
  have hT := TL0_s hT s ⟨by omega, by omega, by omega⟩ ⟨by omega, by omega, by omega⟩ ⟨by omega, by omega, by omega⟩ ⟨by omega, by omega, by omega⟩
  have hF := FL0_s hF s ⟨by omega, by omega, by omega⟩ ⟨by omega, by omega, by omega⟩ ⟨by omega, by omega, by omega⟩ ⟨by omega, by omega, by omega⟩ ⟨by omega, by omega, by omega⟩
  have sb := s b ⟨by omega, by omega, by omega⟩
  have s1 := s (b + 1) ⟨by omega, by omega, by omega⟩
  have s2 := s (b + 2) ⟨by omega, by omega, by omega⟩
  have s32 := s (b + 32) ⟨by omega, by omega, by omega⟩
  have s3 := w1 (b + 3) ⟨by omega, by omega⟩
  have hpl : ∀ i, i < 16 → PL0 σ (b + 38 + 3 * i) (b + 39 + 3 * i) (b + 40 + 3 * i) := fun i hi => PL0_s (p3 i hi).2 w1 ⟨by omega, by omega⟩ ⟨by omega, by omega⟩ ⟨by omega, by omega⟩
  have r0 : ∀ r v, R0 σ r v → RI σ r v := fun r v h => ⟨⟨0, by omega, by rw [nI_0]; exact h.2.1⟩, fun k _ => ⟨0, by omega, by rw [nI_0]; exact h.2.2 k⟩⟩
  refine ⟨⟨⟨sb.1.trans a1, ⟨(sb.2.2.1 65).trans a2.1, s1.1.trans a2.2⟩, ⟨(sb.2.2.1 66).trans a3.1, s2.1.trans a3.2⟩, ⟨(sb.2.2.1 67).trans a4.1, s3.1.trans p2⟩, ⟨(sb.2.2.1 69).trans a5.1, w2⟩, ⟨(sb.2.2.1 71).trans c1, hS.1⟩, ⟨(sb.2.2.1 72).trans c2, hT.1⟩, ⟨(sb.2.2.1 73).trans c3.1, s32.1.trans c3.2⟩, ⟨(sb.2.2.1 75).trans c4, hF.1⟩⟩, fun i hi => ?_, fun j hj => ?_, fun i hi => ?_⟩, 0, 0, 0, 0, 0, 0, ?_, ?_, ?_, ?_, ?_, ?_, fun i hi => ?_, fun j hj => ?_, fun r v hp => ?_⟩
  · exact ⟨(congrFun s3.2.2.2.2 i).trans (p3 i hi).1, (hpl i hi).1, (hpl i hi).2.1, (hpl i hi).2.2.1.1⟩
  · exact ⟨(w3 j hj).1, (w3 j hj).2.1, (w3 j hj).2.2.1, (w3 j hj).2.2.2.1.1, (w3 j hj).2.2.2.2.1, (w3 j hj).2.2.2.2.2.1⟩
  · exact ⟨(hS.2.2 i hi).1, (hS.2.2 i hi).2.1⟩
  · exact ⟨by omega, by rw [nI_0]; exact (sb.2.1 68).trans a6⟩
  · exact ⟨by omega, by rw [nI_0]; exact (sb.2.1 70).trans a7⟩
  · exact ⟨by omega, by rw [nI_0]; exact hS.2.1⟩
  · exact ⟨by omega, by rw [nI_0]; exact hT.2⟩
  · exact ⟨by omega, by rw [nI_0]; exact (sb.2.1 74).trans c5⟩
  · exact ⟨by omega, by rw [nI_0]; exact hF.2⟩
  · exact ⟨⟨0, by omega, by rw [nI_0]; exact (hpl i hi).2.2.2.1⟩, Or.inl (hpl i hi).2.2.2.2⟩
  · exact ⟨⟨0, by omega, by rw [nI_0]; exact (w3 j hj).2.2.2.2.2.2.1, fun k hk => by omega⟩, ⟨0, by omega, by rw [nI_0]; exact (w3 j hj).2.2.2.2.2.2.2⟩⟩
  · rcases hp with ⟨i, hi, rfl, rfl⟩ | ⟨j, hj, rfl, rfl⟩ | ⟨i, hi, rfl, rfl⟩
    · exact r0 _ _ (hpl i hi).2.2.1
    · exact r0 _ _ (w3 j hj).2.2.2.1
    · exact r0 _ _ (hS.2.2 i hi).2
/-- what the relation with the reference wants beside -/
def X2 (b : Nat) (x : Int32) (σ : fr_S) : Prop := (∀ i, i < 16 → gI σ 195 (b + 38 + 3 * i) = -1) ∧ gI σ 64 b = x
theorem x_fin2 {b : Nat} {σ0 σ1 σ : fr_S} {x : Int32} (hP : PI b 16 σ0 σ1) (hW : WI b 10 σ1 σ) (h64 : gI σ0 64 b = x) : X2 b x σ := by
  obtain ⟨p1, p2, p3⟩ := hP
  obtain ⟨w1, w2, w3⟩ := hW
  have hpl : ∀ i, i < 16 → PL0 σ (b + 38 + 3 * i) (b + 39 + 3 * i) (b + 40 + 3 * i) := fun i hi => PL0_s (p3 i hi).2 w1 ⟨by omega, by omega⟩ ⟨by omega, by omega⟩ ⟨by omega, by omega⟩
  exact ⟨fun i hi => (hpl i hi).2.2.2.2, ((w1 b ⟨by omega, by omega⟩).2.1 64).trans (((p1 b ⟨by omega, by omega⟩).2.1 64).trans h64)⟩
/-- behind the store -/
theorem x_init2 {b : Nat} {σ : fr_S} (h : FA0 σ b) (hS : ST0 σ b) (x : Int32) : ev ((sP σ 1 71 b (b + 5)).bind fun σ_13 =>
  (nC σ_13 (b + 28) (.inl 6)).bind fun σ_14 =>
  (m_Tellings_init (b + 28) σ_14 (b + 28 + 1)).bind fun w15 =>
  (sP w15.1 1 72 b (b + 28)).bind fun σ_16 =>
  (nC σ_16 w15.2 (.inr (0, 10))).bind fun σ_17 =>
  (sP σ_17 1 73 b w15.2).bind fun σ_18 =>
  (sI σ_18 1 74 b 0).bind fun σ_19 =>
  (nC σ_19 (w15.2 + 1) (.inl 2)).bind fun σ_20 =>
  (m_Files_init ((w15.2 + 1)) σ_20 (w15.2 + 2)).bind fun w21 =>
  (sP w21.1 1 75 b (w15.2 + 1)).bind fun σ_22 =>
  (sZ σ_22 1 76 b 0).bind fun σ_23 =>
  (sI σ_23 1 77 b 0).bind fun σ_24 =>
  (sI σ_24 1 64 b x).bind fun σ_25 =>
  m_FR_init_L119 1000 b 0 σ_25 w21.2 37 1416) (fun q => (XI b q.1 ∧ X2 b x q.1) ∧ q.2 = b + 126) := by
  obtain ⟨a1, a2, a3, a4, a5, a6, a7⟩ := id h
  refine ev_bs (sP_k a1) ?_
  refine ev_bs (a := pN (pP σ 71 b (some (b + 5))) (b + 28) (.inl 6)) rfl ?_
  refine ev_b (x_tell0 (σ := pN (pP σ 71 b (some (b + 5))) (b + 28) (.inl 6)) (h := b + 28) (by rw [z_gK_pN, if_pos rfl]) (by omega)) (fun w hw => ?_)
  obtain ⟨σ15, n15⟩ := w
  obtain ⟨t1, t2, t3⟩ := hw
  have t1 : n15 = b + 32 := t1
  have t2 : TL0 σ15 (b + 28) (b + 29) := t2
  have t3 : Sam (fun a => a ≠ b + 28 ∧ a < b + 29) (pN (pP σ 71 b (some (b + 5))) (b + 28) (.inl 6)) σ15 := t3
  subst t1
  have u15 : Sam (fun a => a < b + 28 ∧ a ≠ b) σ σ15 := Sam_tr (P := fun a => a < b + 28 ∧ a ≠ b) (Sam_pN (Sam_pP Sam_rf (fun x hx => hx.2)) (fun x hx => by have := hx.1; omega)) t3 (fun a ha => ⟨ha, ⟨by have := ha.1; omega, by have := ha.1; omega⟩⟩)
  have b15 := t3 b ⟨by omega, by omega⟩
  have k15 : gK σ15 b = some (.inl 1) := b15.1.trans (by rw [z_gK_pN, if_neg (by omega)]; exact a1)
  have P15 : ∀ f, gP σ15 f b = if f = 71 then some (b + 5) else gP σ f b := fun f => (b15.2.2.1 f).trans (by rw [z_gP_pN, if_neg (by omega), z_gP_pP]; simp)
  have I15 : ∀ f, gI σ15 f b = gI σ f b := fun f => (b15.2.1 f).trans (by rw [z_gI_pN, if_neg (by omega), z_gI_pP])
  refine ev_bs (sP_k k15) ?_
  refine ev_bs (a := pN (pP σ15 72 b (some (b + 28))) (b + 32) (.inr (0, 10))) rfl ?_
  refine ev_bs (sP_k (by rw [z_gK_pN, if_neg (by omega)]; exact k15)) ?_
  refine ev_bs (sI_k (by rw [z_gK_pP, z_gK_pN, if_neg (by omega)]; exact k15)) ?_
  refine ev_bs (a := pN (pI (pP (pN (pP σ15 72 b (some (b + 28))) (b + 32) (.inr (0, 10))) 73 b (some (b + 32))) 74 b 0) (b + 33) (.inl 2)) rfl ?_
  have f20 : ∀ σ20, σ20 = pN (pI (pP (pN (pP σ15 72 b (some (b + 28))) (b + 32) (.inr (0, 10))) 73 b (some (b + 32))) 74 b 0) (b + 33) (.inl 2) → gK σ20 (b + 33) = some (.inl 2) ∧ gK σ20 b = some (.inl 1) ∧ gK σ20 (b + 32) = some (.inr (0, 10)) ∧ (∀ f, gP σ20 f b = if f = 73 then some (b + 32) else if f = 72 then some (b + 28) else gP σ15 f b) ∧ (∀ f, gI σ20 f b = if f = 74 then 0 else gI σ15 f b) ∧ Sam (fun a => a < b + 32 ∧ a ≠ b) σ15 σ20 := by
    intro σ20 e
    subst e
    refine ⟨?_, ?_, ?_, fun f => ?_, fun f => ?_, ?_⟩
    · rw [z_gK_pN, if_pos rfl]
    · rw [z_gK_pN, if_neg (by omega), z_gK_pI, z_gK_pP, z_gK_pN, if_neg (by omega)]; exact k15
    · rw [z_gK_pN, if_neg (by omega), z_gK_pI, z_gK_pP, z_gK_pN, if_pos rfl]
    · simp [z_gP_pN, z_gP_pI, z_gP_pP]
    · simp [z_gI_pN, gI_pIx, z_gI_pP]
    · refine Sam_pN (Sam_pI (Sam_pP (Sam_pN (Sam_pP Sam_rf (fun x hx => hx.2)) (fun x hx => ?_)) (fun x hx => hx.2)) (fun x hx => hx.2)) (fun x hx => ?_) <;> (have := hx.1; omega)
  have f20 := f20 _ rfl
  generalize pN (pI (pP (pN (pP σ15 72 b (some (b + 28))) (b + 32) (.inr (0, 10))) 73 b (some (b + 32))) 74 b 0) (b + 33) (.inl 2) = σ20 at f20 ⊢
  obtain ⟨g1, g2, g3, g4, g5, g6⟩ := f20
  refine ev_b (x_files0 (σ := σ20) (h := b + 33) (nx := b + 34) g1 (by omega)) (fun w hw => ?_)
  obtain ⟨σ21, n21⟩ := w
  obtain ⟨v1, v2, v3⟩ := hw
  have v1 : n21 = b + 38 := v1
  have v2 : FL0 σ21 (b + 33) (b + 34) := v2
  have v3 : Sam (fun a => a ≠ b + 33 ∧ a < b + 34) σ20 σ21 := v3
  subst v1
  have b21 := v3 b ⟨by omega, by omega⟩
  have k21 : gK σ21 b = some (.inl 1) := b21.1.trans g2
  refine ev_bs (sP_k k21) ?_
  refine ev_bs (sZ_k (by rw [z_gK_pP]; exact k21) (Or.inl rfl)) ?_
  refine ev_bs (sI_k (by rw [z_gK_pI, z_gK_pP]; exact k21)) ?_
  refine ev_bs (sI_k (by rw [z_gK_pI, z_gK_pI, z_gK_pP]; exact k21)) ?_
  have u25 : Sam (fun a => a ≠ b) σ21 (pI (pI (pI (pP σ21 75 b (some (b + 33))) 76 b 0) 77 b 0) 64 b x) := Sam_pI (Sam_pI (Sam_pI (Sam_pP Sam_rf (fun x hx => hx)) (fun x hx => hx)) (fun x hx => hx)) (fun x hx => hx)
  have k25 : gK (pI (pI (pI (pP σ21 75 b (some (b + 33))) 76 b 0) 77 b 0) 64 b x) b = some (.inl 1) := k21
  have P25 : ∀ f, gP (pI (pI (pI (pP σ21 75 b (some (b + 33))) 76 b 0) 77 b 0) 64 b x) f b = if f = 75 then some (b + 33) else gP σ21 f b := fun f => by
    rw [z_gP_pI, z_gP_pI, z_gP_pI, z_gP_pP]
    simp
  have I25 : ∀ f, f ≠ 64 → f ≠ 77 → f ≠ 76 → gI (pI (pI (pI (pP σ21 75 b (some (b + 33))) 76 b 0) 77 b 0) 64 b x) f b = gI σ21 f b := fun f h1 h2 h3 => by
    rw [gI_pIf h1, gI_pIf h2, gI_pIf h3, z_gI_pP]
  have v64 : gI (pI (pI (pI (pP σ21 75 b (some (b + 33))) 76 b 0) 77 b 0) 64 b x) 64 b = x := gI_pIs
  generalize pI (pI (pI (pP σ21 75 b (some (b + 33))) 76 b 0) 77 b 0) 64 b x = σ25 at u25 k25 P25 I25 v64 ⊢
  have U : Sam (fun a => a < b + 28 ∧ a ≠ b) σ σ25 := Sam_tr (Sam_tr (R := fun a => a < b + 28 ∧ a ≠ b) u15 g6 (fun a ha => ⟨ha, ⟨by have := ha.1; omega, ha.2⟩⟩)) (Sam_tr (R := fun a => a < b + 28 ∧ a ≠ b) v3 u25 (fun a ha => ⟨⟨by have := ha.1; omega, by have := ha.1; omega⟩, ha.2⟩)) (fun a ha => ⟨ha, ha⟩)
  have PP : ∀ f, gP σ25 f b = if f = 75 then some (b + 33) else if f = 73 then some (b + 32) else if f = 72 then some (b + 28) else if f = 71 then some (b + 5) else gP σ f b := fun f => by
    rw [P25, b21.2.2.1, g4, P15]
  have II : ∀ f, f ≠ 64 → f ≠ 77 → f ≠ 76 → gI σ25 f b = if f = 74 then 0 else gI σ f b := fun f h1 h2 h3 => by
    rw [I25 f h1 h2 h3, b21.2.1, g5, I15]
  have s1 := U (b + 1) ⟨by omega, by omega⟩
  have s2 := U (b + 2) ⟨by omega, by omega⟩
  have s3 := U (b + 3) ⟨by omega, by omega⟩
  have s4 := U (b + 4) ⟨by omega, by omega⟩
  have FB : FB0 σ25 b := by
    refine ⟨⟨k25, ⟨(PP 65).trans a2.1, s1.1.trans a2.2⟩, ⟨(PP 66).trans a3.1, s2.1.trans a3.2⟩, ⟨(PP 67).trans a4.1, s3.1.trans a4.2⟩, ⟨(PP 69).trans a5.1, s4.1.trans a5.2⟩, (II 68 (by decide) (by decide) (by decide)).trans a6, (II 70 (by decide) (by decide) (by decide)).trans a7⟩, ST0_s hS U (fun a h1 h2 => ⟨by omega, by omega⟩), ?_, ?_, PP 71, PP 72, ⟨PP 73, ?_⟩, PP 75, II 74 (by decide) (by decide) (by decide)⟩
    · have S3 : Sam (fun a => a < b + 32 ∧ a ≠ b) σ15 σ25 := Sam_tr g6 (Sam_tr (R := fun a => a < b + 32 ∧ a ≠ b) v3 u25 (fun a ha => ⟨⟨by have := ha.1; omega, by have := ha.1; omega⟩, ha.2⟩)) (fun a ha => ⟨ha, ha⟩)
      exact TL0_s t2 S3 ⟨by omega, by omega⟩ ⟨by omega, by omega⟩ ⟨by omega, by omega⟩ ⟨by omega, by omega⟩
    · exact FL0_s v2 u25 (show b + 33 ≠ b by omega) (show b + 34 ≠ b by omega) (show b + 34 + 1 ≠ b by omega) (show b + 34 + 2 ≠ b by omega) (show b + 34 + 3 ≠ b by omega)
    · exact (u25 (b + 32) (show b + 32 ≠ b by omega)).1.trans ((v3 (b + 32) ⟨by omega, by omega⟩).1.trans g3)
  have key := x_places_L (b := b) (σ0 := σ25) FB.1.1 FB.1.2.2.2.1.1 FB.1.2.2.2.2.1.1 FB.1.2.2.2.2.1.2 1000 0 σ25 ⟨Sam_rf, FB.1.2.2.2.1.2, fun i hi => by omega⟩ (by omega) (by omega)
  rw [nI_0] at key
  refine ev_mono key (fun q hq => ?_)
  obtain ⟨⟨σ1, h1, h2⟩, h3⟩ := hq
  exact ⟨⟨x_fin FB h1 h2, x_fin2 h1 h2 v64⟩, h3⟩
theorem x_initL (b : Nat) (x : Int32) : ev (m_FR_init b x (pN fl_e b (.inl 1)) (b + 1)) (fun q => (XI b q.1 ∧ X2 b (if 0 < (if x < 5 then x else 5) then (if x < 5 then x else 5) else 0) q.1) ∧ q.2 = b + 126) := by
  unfold m_FR_init
  have k0 : gK (pN fl_e b (.inl 1)) b = some (.inl 1) := by rw [z_gK_pN, if_pos rfl]
  generalize pN fl_e b (.inl 1) = σ at k0 ⊢
  have e1 : b ≠ b + 1 := by omega
  have e2 : b ≠ b + 2 := by omega
  have e3 : b ≠ b + 3 := by omega
  have e4 : b ≠ b + 4 := by omega
  have e5 : b ≠ b + 5 := by omega
  refine ev_bs (a := pN σ (b + 1) (.inr (1, 8))) rfl ?_
  refine ev_bs (a := pP (pN σ (b + 1) (.inr (1, 8))) 65 b (some (b + 1))) (sP_k (by simp [z_gK_pN, k0])) ?_
  refine ev_bs (a := pN (pP (pN σ (b + 1) (.inr (1, 8))) 65 b (some (b + 1))) (b + 2) (.inr (0, 8))) rfl ?_
  refine ev_bs (a := pP (pN (pP (pN σ (b + 1) (.inr (1, 8))) 65 b (some (b + 1))) (b + 2) (.inr (0, 8))) 66 b (some (b + 2))) (sP_k (by simp [z_gK_pN, z_gK_pP, k0])) ?_
  have g4 : ∀ τ, τ = pP (pN (pP (pN σ (b + 1) (.inr (1, 8))) 65 b (some (b + 1))) (b + 2) (.inr (0, 8))) 66 b (some (b + 2)) → gK τ b = some (.inl 1) ∧ (gP τ 65 b = some (b + 1) ∧ gK τ (b + 1) = some (.inr (1, 8))) ∧ (gP τ 66 b = some (b + 2) ∧ gK τ (b + 2) = some (.inr (0, 8))) := by
    intro τ e
    subst e
    simp [z_gK_pN, z_gK_pP, z_gP_pN, z_gP_pP, k0]
  have g4 := g4 _ rfl
  generalize pP (pN (pP (pN σ (b + 1) (.inr (1, 8))) 65 b (some (b + 1))) (b + 2) (.inr (0, 8))) 66 b (some (b + 2)) = σ4 at g4 ⊢
  obtain ⟨q1, q2, q3⟩ := g4
  refine ev_bs (a := pN σ4 (b + 3) (.inr (2, 16))) rfl ?_
  refine ev_bs (a := pP (pN σ4 (b + 3) (.inr (2, 16))) 67 b (some (b + 3))) (sP_k (by simp [z_gK_pN, q1])) ?_
  refine ev_bs (a := pI (pP (pN σ4 (b + 3) (.inr (2, 16))) 67 b (some (b + 3))) 68 b 0) (sI_k (by simp [z_gK_pN, z_gK_pP, q1])) ?_
  refine ev_bs (a := pN (pI (pP (pN σ4 (b + 3) (.inr (2, 16))) 67 b (some (b + 3))) 68 b 0) (b + 4) (.inr (3, 10))) rfl ?_
  refine ev_bs (a := pP (pN (pI (pP (pN σ4 (b + 3) (.inr (2, 16))) 67 b (some (b + 3))) 68 b 0) (b + 4) (.inr (3, 10))) 69 b (some (b + 4))) (sP_k (by simp [z_gK_pN, z_gK_pP, z_gK_pI, q1])) ?_
  refine ev_bs (a := pI (pP (pN (pI (pP (pN σ4 (b + 3) (.inr (2, 16))) 67 b (some (b + 3))) 68 b 0) (b + 4) (.inr (3, 10))) 69 b (some (b + 4))) 70 b 0) (sI_k (by simp [z_gK_pN, z_gK_pP, z_gK_pI, q1])) ?_
  refine ev_bs (a := pN (pI (pP (pN (pI (pP (pN σ4 (b + 3) (.inr (2, 16))) 67 b (some (b + 3))) 68 b 0) (b + 4) (.inr (3, 10))) 69 b (some (b + 4))) 70 b 0) (b + 5) (.inl 5)) rfl ?_
  have g11 : ∀ τ, τ = pN (pI (pP (pN (pI (pP (pN σ4 (b + 3) (.inr (2, 16))) 67 b (some (b + 3))) 68 b 0) (b + 4) (.inr (3, 10))) 69 b (some (b + 4))) 70 b 0) (b + 5) (.inl 5) → FA0 τ b ∧ gK τ (b + 5) = some (.inl 5) := by
    intro τ e
    subst e
    simp [FA0, z_gK_pN, z_gK_pP, z_gK_pI, z_gP_pN, z_gP_pP, z_gP_pI, z_gI_pN, z_gI_pP, gI_pIx, q1, q2, q3]
  have g11 := g11 _ rfl
  generalize pN (pI (pP (pN (pI (pP (pN σ4 (b + 3) (.inr (2, 16))) 67 b (some (b + 3))) 68 b 0) (b + 4) (.inr (3, 10))) 69 b (some (b + 4))) 70 b 0) (b + 5) (.inl 5) = σ11 at g11 ⊢
  refine ev_b (x_store0 (b := b) g11.2) (fun w hw => ?_)
  obtain ⟨σ12, n12⟩ := w
  obtain ⟨w1, w2, w3⟩ := hw
  have w1 : n12 = b + 28 := w1
  have w2 : ST0 σ12 b := w2
  have w3 : Sam (fun a => a < b + 5) σ11 σ12 := w3
  subst w1
  obtain ⟨a1, a2, a3, a4, a5, a6, a7⟩ := g11.1
  have sb := w3 b (show b < b + 5 by omega)
  have s1 := w3 (b + 1) (show b + 1 < b + 5 by omega)
  have s2 := w3 (b + 2) (show b + 2 < b + 5 by omega)
  have s3 := w3 (b + 3) (show b + 3 < b + 5 by omega)
  have s4 := w3 (b + 4) (show b + 4 < b + 5 by omega)
  have FA : FA0 σ12 b := ⟨sb.1.trans a1, ⟨(sb.2.2.1 65).trans a2.1, s1.1.trans a2.2⟩, ⟨(sb.2.2.1 66).trans a3.1, s2.1.trans a3.2⟩, ⟨(sb.2.2.1 67).trans a4.1, s3.1.trans a4.2⟩, ⟨(sb.2.2.1 69).trans a5.1, s4.1.trans a5.2⟩, (sb.2.1 68).trans a6, (sb.2.1 70).trans a7⟩
  exact x_init2 FA w2 _
theorem x_init (b : Nat) (x : Int32) : ev (m_FR_init b x (pN fl_e b (.inl 1)) (b + 1)) (fun q => XI b q.1 ∧ q.2 = b + 126) := ev_mono (x_initL b x) (fun _ h => ⟨h.1.1, h.2⟩)
