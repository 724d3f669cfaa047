/-! THE REFERENCE as it is made -/
def MZ (k c : Nat) (σ : fr_S) : Prop := gK σ c = some (.inl 0) ∧ (∀ f, f ∈ md_F → md_A f ≤ k → gP σ f c = some (c + md_A f)) ∧ (∀ a, 1 ≤ a → a ≤ k → gK σ (c + a) = some (.inr (md_K a))) ∧ (∀ f, gI σ f c = 0) ∧ ∀ a i, gV σ a i = 0
theorem z_gK_pN {σ : fr_S} {a b : Nat} {k : fr_K} : gK (pN σ a k) b = if b = a then some k else gK σ b := rfl
theorem z_gI_pN {σ : fr_S} {a b f : Nat} {k : fr_K} : gI (pN σ a k) f b = if b = a then 0 else gI σ f b := rfl
theorem z_gP_pN {σ : fr_S} {a b f : Nat} {k : fr_K} : gP (pN σ a k) f b = if b = a then none else gP σ f b := rfl
theorem z_gV_pN {σ : fr_S} {a b : Nat} {k : fr_K} : gV (pN σ a k) b = if b = a then (fun _ => 0) else gV σ b := rfl
theorem z_gQ_pN {σ : fr_S} {a b : Nat} {k : fr_K} : gQ (pN σ a k) b = if b = a then (fun _ => none) else gQ σ b := rfl
theorem z_gP_pP {σ : fr_S} {f a g b : Nat} {v : Option Nat} : gP (pP σ f a v) g b = if g = f ∧ b = a then v else gP σ g b := rfl
theorem z_gQ_pB {σ : fr_S} {a b : Nat} {u : Nat → Option Nat} : gQ (pB σ a u) b = if b = a then u else gQ σ b := rfl
theorem sP_k {σ : fr_S} {ci f a r : Nat} (hk : gK σ a = some (.inl ci)) : sP σ ci f a r = some (pP σ f a (some r)) := if_pos hk
theorem md_inj : ∀ f, f ∈ md_F → ∀ g, g ∈ md_F → md_A f = md_A g → f = g := by decide
theorem MZ_step {k c f : Nat} {σ : fr_S} (h : MZ k c σ) (hf : f ∈ md_F) (hk : md_A f = k + 1) : MZ (k + 1) c (pP (pN σ (c + 1 + k) (.inr (md_K (k + 1)))) f c (some (c + 1 + k))) := by
  obtain ⟨h1, h2, h3, h4, h5⟩ := h
  refine ⟨?_, fun g hg hgk => ?_, fun a ha hak => ?_, fun g => ?_, fun a i => ?_⟩
  · show gK (pN σ (c + 1 + k) (.inr (md_K (k + 1)))) c = _
    rw [z_gK_pN, if_neg (by omega)]
    exact h1
  · rw [z_gP_pP]
    by_cases e : g = f
    · subst e
      rw [if_pos ⟨rfl, rfl⟩, hk]
      congr 1
      omega
    · rw [if_neg (fun z => e z.1), z_gP_pN, if_neg (by omega)]
      refine h2 g hg ?_
      have : md_A g ≠ k + 1 := fun z => e (md_inj g hg f hf (z.trans hk.symm))
      omega
  · show gK (pN σ (c + 1 + k) (.inr (md_K (k + 1)))) (c + a) = _
    rw [z_gK_pN]
    by_cases e : a = k + 1
    · subst e
      rw [if_pos (by omega)]
    · rw [if_neg (by omega)]
      exact h3 a ha (by omega)
  · show gI (pN σ (c + 1 + k) (.inr (md_K (k + 1)))) g c = _
    rw [z_gI_pN, if_neg (by omega)]
    exact h4 g
  · show gV (pN σ (c + 1 + k) (.inr (md_K (k + 1)))) a i = _
    rw [z_gV_pN]
    by_cases e : a = c + 1 + k
    · rw [if_pos e]
    · rw [if_neg e]
      exact h5 a i
theorem MZ_end {c re : Nat} {σ : fr_S} (h : MZ 34 c σ) (hre : re ≤ 5) : MI c (pI σ 0 c (nI re)) := by
  obtain ⟨h1, h2, h3, h4, h5⟩ := h
  have z : ∀ f, f ≠ 0 → gI (pI σ 0 c (nI re)) f c = nI 0 := fun f hf => by rw [gI_pIf hf, nI_0]; exact h4 f
  have v : ∀ a i, gV (pI σ 0 c (nI re)) a i = nI 0 := fun a i => by rw [gV_pI, nI_0]; exact h5 a i
  refine ⟨⟨h1, fun f hf => h2 f hf ?_, fun a h1 h2 => h3 a h1 h2⟩, 0, 0, 0, 0, 0, 0, re, ⟨by omega, z 6 (by decide)⟩, ⟨by omega, z 7 (by decide)⟩, z 8 (by decide), z 9 (by decide), z 10 (by decide), ⟨by omega, z 39 (by decide)⟩, ⟨hre, gI_pIs⟩, ?_, ?_, ?_, ?_, ?_, ?_, ?_, ?_, ?_, ?_, ?_⟩
  · revert f hf
    decide
  · intro i hi; omega
  · intro i hi; exact ⟨⟨0, by omega, v _ _⟩, ⟨0, by omega, v _ _⟩, ⟨0, by omega, v _ _⟩⟩
  · intro k _; exact ⟨0, by omega, v _ _⟩
  · intro j _; exact ⟨0, by omega, v _ _, fun k hk => by omega⟩
  · intro j _; exact ⟨⟨0, by omega, v _ _, fun hh => by omega⟩, ⟨0, by omega, v _ _⟩, ⟨0, by omega, v _ _⟩⟩
  · intro k _; exact ⟨0, by omega, v _ _⟩
  · exact ⟨fun k hk => by omega, fun k k' _ hk => by omega⟩
  · intro k _; exact ⟨0, by omega, v _ _⟩
  · exact ⟨fun k hk => by omega, fun k k' _ hk => by omega⟩
  · exact ⟨fun k hk => by omega, fun k k' _ hk => by omega⟩
  · intro k hk; omega
theorem MZ_0 (c : Nat) : MZ 0 c (pN fl_e c (.inl 0)) := by
  refine ⟨?_, fun f hf hk => ?_, fun a ha hk => by omega, fun f => ?_, fun a i => ?_⟩
  · rw [z_gK_pN, if_pos rfl]
  · have : ∀ f, f ∈ md_F → ¬ md_A f ≤ 0 := by decide
    exact absurd hk (this f hf)
  · rw [z_gI_pN, if_pos rfl]
  · rw [z_gV_pN]
    by_cases e : a = c
    · rw [if_pos e]
    · rw [if_neg e]
      rfl
theorem md_init (c : Nat) (x : Int32) : ev (m_Md_init c x (pN fl_e c (.inl 0)) (c + 1)) (fun q => MI c q.1) := by
  have h := MZ_0 c
  unfold m_Md_init
  generalize pN fl_e c (.inl 0) = σ at h ⊢
  refine ev_bs (a := pN σ (c + 1) (.inr (1, 8))) rfl ?_
  have h1 : MZ 1 c (pP (pN σ (c + 1) (.inr (1, 8))) 4 c (some (c + 1))) := MZ_step (f := 4) h (by decide) (by decide)
  refine ev_bs (sP_k h1.1) ?_
  generalize pP (pN σ (c + 1) (.inr (1, 8))) 4 c (some (c + 1)) = σ1 at h1 ⊢
  refine ev_bs (a := pN σ1 (c + 1 + 1) (.inr (0, 8))) rfl ?_
  have h2 : MZ 2 c (pP (pN σ1 (c + 1 + 1) (.inr (0, 8))) 5 c (some (c + 1 + 1))) := MZ_step (f := 5) h1 (by decide) (by decide)
  refine ev_bs (sP_k h2.1) ?_
  generalize pP (pN σ1 (c + 1 + 1) (.inr (0, 8))) 5 c (some (c + 1 + 1)) = σ2 at h2 ⊢
  refine ev_bs (a := pN σ2 (c + 1 + 2) (.inr (0, 16))) rfl ?_
  have h3 : MZ 3 c (pP (pN σ2 (c + 1 + 2) (.inr (0, 16))) 11 c (some (c + 1 + 2))) := MZ_step (f := 11) h2 (by decide) (by decide)
  refine ev_bs (sP_k h3.1) ?_
  generalize pP (pN σ2 (c + 1 + 2) (.inr (0, 16))) 11 c (some (c + 1 + 2)) = σ3 at h3 ⊢
  refine ev_bs (a := pN σ3 (c + 1 + 3) (.inr (0, 16))) rfl ?_
  have h4 : MZ 4 c (pP (pN σ3 (c + 1 + 3) (.inr (0, 16))) 12 c (some (c + 1 + 3))) := MZ_step (f := 12) h3 (by decide) (by decide)
  refine ev_bs (sP_k h4.1) ?_
  generalize pP (pN σ3 (c + 1 + 3) (.inr (0, 16))) 12 c (some (c + 1 + 3)) = σ4 at h4 ⊢
  refine ev_bs (a := pN σ4 (c + 1 + 4) (.inr (0, 16))) rfl ?_
  have h5 : MZ 5 c (pP (pN σ4 (c + 1 + 4) (.inr (0, 16))) 13 c (some (c + 1 + 4))) := MZ_step (f := 13) h4 (by decide) (by decide)
  refine ev_bs (sP_k h5.1) ?_
  generalize pP (pN σ4 (c + 1 + 4) (.inr (0, 16))) 13 c (some (c + 1 + 4)) = σ5 at h5 ⊢
  refine ev_bs (a := pN σ5 (c + 1 + 5) (.inr (0, 16))) rfl ?_
  have h6 : MZ 6 c (pP (pN σ5 (c + 1 + 5) (.inr (0, 16))) 14 c (some (c + 1 + 5))) := MZ_step (f := 14) h5 (by decide) (by decide)
  refine ev_bs (sP_k h6.1) ?_
  generalize pP (pN σ5 (c + 1 + 5) (.inr (0, 16))) 14 c (some (c + 1 + 5)) = σ6 at h6 ⊢
  refine ev_bs (a := pN σ6 (c + 1 + 6) (.inr (0, 16))) rfl ?_
  have h7 : MZ 7 c (pP (pN σ6 (c + 1 + 6) (.inr (0, 16))) 15 c (some (c + 1 + 6))) := MZ_step (f := 15) h6 (by decide) (by decide)
  refine ev_bs (sP_k h7.1) ?_
  generalize pP (pN σ6 (c + 1 + 6) (.inr (0, 16))) 15 c (some (c + 1 + 6)) = σ7 at h7 ⊢
  refine ev_bs (a := pN σ7 (c + 1 + 7) (.inr (0, 16))) rfl ?_
  have h8 : MZ 8 c (pP (pN σ7 (c + 1 + 7) (.inr (0, 16))) 16 c (some (c + 1 + 7))) := MZ_step (f := 16) h7 (by decide) (by decide)
  refine ev_bs (sP_k h8.1) ?_
  generalize pP (pN σ7 (c + 1 + 7) (.inr (0, 16))) 16 c (some (c + 1 + 7)) = σ8 at h8 ⊢
  refine ev_bs (a := pN σ8 (c + 1 + 8) (.inr (0, 1600))) rfl ?_
  have h9 : MZ 9 c (pP (pN σ8 (c + 1 + 8) (.inr (0, 1600))) 17 c (some (c + 1 + 8))) := MZ_step (f := 17) h8 (by decide) (by decide)
  refine ev_bs (sP_k h9.1) ?_
  generalize pP (pN σ8 (c + 1 + 8) (.inr (0, 1600))) 17 c (some (c + 1 + 8)) = σ9 at h9 ⊢
  refine ev_bs (a := pN σ9 (c + 1 + 9) (.inr (1, 16))) rfl ?_
  have h10 : MZ 10 c (pP (pN σ9 (c + 1 + 9) (.inr (1, 16))) 18 c (some (c + 1 + 9))) := MZ_step (f := 18) h9 (by decide) (by decide)
  refine ev_bs (sP_k h10.1) ?_
  generalize pP (pN σ9 (c + 1 + 9) (.inr (1, 16))) 18 c (some (c + 1 + 9)) = σ10 at h10 ⊢
  refine ev_bs (a := pN σ10 (c + 1 + 10) (.inr (1, 16))) rfl ?_
  have h11 : MZ 11 c (pP (pN σ10 (c + 1 + 10) (.inr (1, 16))) 19 c (some (c + 1 + 10))) := MZ_step (f := 19) h10 (by decide) (by decide)
  refine ev_bs (sP_k h11.1) ?_
  generalize pP (pN σ10 (c + 1 + 10) (.inr (1, 16))) 19 c (some (c + 1 + 10)) = σ11 at h11 ⊢
  refine ev_bs (a := pN σ11 (c + 1 + 11) (.inr (1, 16))) rfl ?_
  have h12 : MZ 12 c (pP (pN σ11 (c + 1 + 11) (.inr (1, 16))) 20 c (some (c + 1 + 11))) := MZ_step (f := 20) h11 (by decide) (by decide)
  refine ev_bs (sP_k h12.1) ?_
  generalize pP (pN σ11 (c + 1 + 11) (.inr (1, 16))) 20 c (some (c + 1 + 11)) = σ12 at h12 ⊢
  refine ev_bs (a := pN σ12 (c + 1 + 12) (.inr (1, 16))) rfl ?_
  have h13 : MZ 13 c (pP (pN σ12 (c + 1 + 12) (.inr (1, 16))) 21 c (some (c + 1 + 12))) := MZ_step (f := 21) h12 (by decide) (by decide)
  refine ev_bs (sP_k h13.1) ?_
  generalize pP (pN σ12 (c + 1 + 12) (.inr (1, 16))) 21 c (some (c + 1 + 12)) = σ13 at h13 ⊢
  refine ev_bs (a := pN σ13 (c + 1 + 13) (.inr (0, 10))) rfl ?_
  have h14 : MZ 14 c (pP (pN σ13 (c + 1 + 13) (.inr (0, 10))) 22 c (some (c + 1 + 13))) := MZ_step (f := 22) h13 (by decide) (by decide)
  refine ev_bs (sP_k h14.1) ?_
  generalize pP (pN σ13 (c + 1 + 13) (.inr (0, 10))) 22 c (some (c + 1 + 13)) = σ14 at h14 ⊢
  refine ev_bs (a := pN σ14 (c + 1 + 14) (.inr (0, 10))) rfl ?_
  have h15 : MZ 15 c (pP (pN σ14 (c + 1 + 14) (.inr (0, 10))) 23 c (some (c + 1 + 14))) := MZ_step (f := 23) h14 (by decide) (by decide)
  refine ev_bs (sP_k h15.1) ?_
  generalize pP (pN σ14 (c + 1 + 14) (.inr (0, 10))) 23 c (some (c + 1 + 14)) = σ15 at h15 ⊢
  refine ev_bs (a := pN σ15 (c + 1 + 15) (.inr (0, 60))) rfl ?_
  have h16 : MZ 16 c (pP (pN σ15 (c + 1 + 15) (.inr (0, 60))) 24 c (some (c + 1 + 15))) := MZ_step (f := 24) h15 (by decide) (by decide)
  refine ev_bs (sP_k h16.1) ?_
  generalize pP (pN σ15 (c + 1 + 15) (.inr (0, 60))) 24 c (some (c + 1 + 15)) = σ16 at h16 ⊢
  refine ev_bs (a := pN σ16 (c + 1 + 16) (.inr (0, 10))) rfl ?_
  have h17 : MZ 17 c (pP (pN σ16 (c + 1 + 16) (.inr (0, 10))) 25 c (some (c + 1 + 16))) := MZ_step (f := 25) h16 (by decide) (by decide)
  refine ev_bs (sP_k h17.1) ?_
  generalize pP (pN σ16 (c + 1 + 16) (.inr (0, 10))) 25 c (some (c + 1 + 16)) = σ17 at h17 ⊢
  refine ev_bs (a := pN σ17 (c + 1 + 17) (.inr (0, 10))) rfl ?_
  have h18 : MZ 18 c (pP (pN σ17 (c + 1 + 17) (.inr (0, 10))) 26 c (some (c + 1 + 17))) := MZ_step (f := 26) h17 (by decide) (by decide)
  refine ev_bs (sP_k h18.1) ?_
  generalize pP (pN σ17 (c + 1 + 17) (.inr (0, 10))) 26 c (some (c + 1 + 17)) = σ18 at h18 ⊢
  refine ev_bs (a := pN σ18 (c + 1 + 18) (.inr (0, 10))) rfl ?_
  have h19 : MZ 19 c (pP (pN σ18 (c + 1 + 18) (.inr (0, 10))) 27 c (some (c + 1 + 18))) := MZ_step (f := 27) h18 (by decide) (by decide)
  refine ev_bs (sP_k h19.1) ?_
  generalize pP (pN σ18 (c + 1 + 18) (.inr (0, 10))) 27 c (some (c + 1 + 18)) = σ19 at h19 ⊢
  refine ev_bs (a := pN σ19 (c + 1 + 19) (.inr (0, 1000))) rfl ?_
  have h20 : MZ 20 c (pP (pN σ19 (c + 1 + 19) (.inr (0, 1000))) 28 c (some (c + 1 + 19))) := MZ_step (f := 28) h19 (by decide) (by decide)
  refine ev_bs (sP_k h20.1) ?_
  generalize pP (pN σ19 (c + 1 + 19) (.inr (0, 1000))) 28 c (some (c + 1 + 19)) = σ20 at h20 ⊢
  refine ev_bs (a := pN σ20 (c + 1 + 20) (.inr (0, 10))) rfl ?_
  have h21 : MZ 21 c (pP (pN σ20 (c + 1 + 20) (.inr (0, 10))) 29 c (some (c + 1 + 20))) := MZ_step (f := 29) h20 (by decide) (by decide)
  refine ev_bs (sP_k h21.1) ?_
  generalize pP (pN σ20 (c + 1 + 20) (.inr (0, 10))) 29 c (some (c + 1 + 20)) = σ21 at h21 ⊢
  refine ev_bs (a := pN σ21 (c + 1 + 21) (.inr (0, 10))) rfl ?_
  have h22 : MZ 22 c (pP (pN σ21 (c + 1 + 21) (.inr (0, 10))) 30 c (some (c + 1 + 21))) := MZ_step (f := 30) h21 (by decide) (by decide)
  refine ev_bs (sP_k h22.1) ?_
  generalize pP (pN σ21 (c + 1 + 21) (.inr (0, 10))) 30 c (some (c + 1 + 21)) = σ22 at h22 ⊢
  refine ev_bs (a := pN σ22 (c + 1 + 22) (.inr (0, 10))) rfl ?_
  have h23 : MZ 23 c (pP (pN σ22 (c + 1 + 22) (.inr (0, 10))) 31 c (some (c + 1 + 22))) := MZ_step (f := 31) h22 (by decide) (by decide)
  refine ev_bs (sP_k h23.1) ?_
  generalize pP (pN σ22 (c + 1 + 22) (.inr (0, 10))) 31 c (some (c + 1 + 22)) = σ23 at h23 ⊢
  refine ev_bs (a := pN σ23 (c + 1 + 23) (.inr (0, 10))) rfl ?_
  have h24 : MZ 24 c (pP (pN σ23 (c + 1 + 23) (.inr (0, 10))) 32 c (some (c + 1 + 23))) := MZ_step (f := 32) h23 (by decide) (by decide)
  refine ev_bs (sP_k h24.1) ?_
  generalize pP (pN σ23 (c + 1 + 23) (.inr (0, 10))) 32 c (some (c + 1 + 23)) = σ24 at h24 ⊢
  refine ev_bs (a := pN σ24 (c + 1 + 24) (.inr (0, 10))) rfl ?_
  have h25 : MZ 25 c (pP (pN σ24 (c + 1 + 24) (.inr (0, 10))) 33 c (some (c + 1 + 24))) := MZ_step (f := 33) h24 (by decide) (by decide)
  refine ev_bs (sP_k h25.1) ?_
  generalize pP (pN σ24 (c + 1 + 24) (.inr (0, 10))) 33 c (some (c + 1 + 24)) = σ25 at h25 ⊢
  refine ev_bs (a := pN σ25 (c + 1 + 25) (.inr (0, 1000))) rfl ?_
  have h26 : MZ 26 c (pP (pN σ25 (c + 1 + 25) (.inr (0, 1000))) 34 c (some (c + 1 + 25))) := MZ_step (f := 34) h25 (by decide) (by decide)
  refine ev_bs (sP_k h26.1) ?_
  generalize pP (pN σ25 (c + 1 + 25) (.inr (0, 1000))) 34 c (some (c + 1 + 25)) = σ26 at h26 ⊢
  refine ev_bs (a := pN σ26 (c + 1 + 26) (.inr (0, 400))) rfl ?_
  have h27 : MZ 27 c (pP (pN σ26 (c + 1 + 26) (.inr (0, 400))) 35 c (some (c + 1 + 26))) := MZ_step (f := 35) h26 (by decide) (by decide)
  refine ev_bs (sP_k h27.1) ?_
  generalize pP (pN σ26 (c + 1 + 26) (.inr (0, 400))) 35 c (some (c + 1 + 26)) = σ27 at h27 ⊢
  refine ev_bs (a := pN σ27 (c + 1 + 27) (.inr (0, 400))) rfl ?_
  have h28 : MZ 28 c (pP (pN σ27 (c + 1 + 27) (.inr (0, 400))) 36 c (some (c + 1 + 27))) := MZ_step (f := 36) h27 (by decide) (by decide)
  refine ev_bs (sP_k h28.1) ?_
  generalize pP (pN σ27 (c + 1 + 27) (.inr (0, 400))) 36 c (some (c + 1 + 27)) = σ28 at h28 ⊢
  refine ev_bs (a := pN σ28 (c + 1 + 28) (.inr (0, 400))) rfl ?_
  have h29 : MZ 29 c (pP (pN σ28 (c + 1 + 28) (.inr (0, 400))) 37 c (some (c + 1 + 28))) := MZ_step (f := 37) h28 (by decide) (by decide)
  refine ev_bs (sP_k h29.1) ?_
  generalize pP (pN σ28 (c + 1 + 28) (.inr (0, 400))) 37 c (some (c + 1 + 28)) = σ29 at h29 ⊢
  refine ev_bs (a := pN σ29 (c + 1 + 29) (.inr (0, 10))) rfl ?_
  have h30 : MZ 30 c (pP (pN σ29 (c + 1 + 29) (.inr (0, 10))) 38 c (some (c + 1 + 29))) := MZ_step (f := 38) h29 (by decide) (by decide)
  refine ev_bs (sP_k h30.1) ?_
  generalize pP (pN σ29 (c + 1 + 29) (.inr (0, 10))) 38 c (some (c + 1 + 29)) = σ30 at h30 ⊢
  refine ev_bs (a := pN σ30 (c + 1 + 30) (.inr (0, 40))) rfl ?_
  have h31 : MZ 31 c (pP (pN σ30 (c + 1 + 30) (.inr (0, 40))) 40 c (some (c + 1 + 30))) := MZ_step (f := 40) h30 (by decide) (by decide)
  refine ev_bs (sP_k h31.1) ?_
  generalize pP (pN σ30 (c + 1 + 30) (.inr (0, 40))) 40 c (some (c + 1 + 30)) = σ31 at h31 ⊢
  refine ev_bs (a := pN σ31 (c + 1 + 31) (.inr (0, 40))) rfl ?_
  have h32 : MZ 32 c (pP (pN σ31 (c + 1 + 31) (.inr (0, 40))) 41 c (some (c + 1 + 31))) := MZ_step (f := 41) h31 (by decide) (by decide)
  refine ev_bs (sP_k h32.1) ?_
  generalize pP (pN σ31 (c + 1 + 31) (.inr (0, 40))) 41 c (some (c + 1 + 31)) = σ32 at h32 ⊢
  refine ev_bs (a := pN σ32 (c + 1 + 32) (.inr (0, 40))) rfl ?_
  have h33 : MZ 33 c (pP (pN σ32 (c + 1 + 32) (.inr (0, 40))) 42 c (some (c + 1 + 32))) := MZ_step (f := 42) h32 (by decide) (by decide)
  refine ev_bs (sP_k h33.1) ?_
  generalize pP (pN σ32 (c + 1 + 32) (.inr (0, 40))) 42 c (some (c + 1 + 32)) = σ33 at h33 ⊢
  refine ev_bs (a := pN σ33 (c + 1 + 33) (.inr (0, 40))) rfl ?_
  have h34 : MZ 34 c (pP (pN σ33 (c + 1 + 33) (.inr (0, 40))) 43 c (some (c + 1 + 33))) := MZ_step (f := 43) h33 (by decide) (by decide)
  refine ev_bs (sP_k h34.1) ?_
  generalize pP (pN σ33 (c + 1 + 33) (.inr (0, 40))) 43 c (some (c + 1 + 33)) = σ34 at h34 ⊢
  refine ev_if (fun h0 => ?_) (fun _ => ?_)
  · refine ev_if (fun h5 => ?_) (fun _ => ?_)
    · obtain ⟨q, -, hq, rfl⟩ := nI_rng (x := x) (lo := 0) (hi := 5) (by rw [nI_0]; exact Int32.not_lt.mpr h0) (by rw [← nI_lit5]; exact h5) (by decide) (by decide)
      exact ev_bs (sI_k h34.1) (ev_some (MZ_end h34 hq))
    · refine ev_bs (sI_k h34.1) (ev_some ?_)
      have := MZ_end (re := 5) h34 (by omega)
      rw [← nI_lit5] at this
      exact this
  · refine ev_bs (sI_k h34.1) (ev_some ?_)
    have := MZ_end (re := 0) h34 (by omega)
    rw [nI_0] at this
    exact this
