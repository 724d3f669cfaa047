/-- a lack more, on both sides -/
theorem RN_lack {b c np nw nk nt nl nf : Nat} {σ τ : fr_S} {x : Int32} (hn : nl < 10) (h : RN b c np nw nk nt nl nf σ τ) : RN b c np nw nk nt (nl + 1) nf (pA (pI σ 74 b (nI (nl + 1))) (b + 32) (upd (gV σ (b + 32)) nl x)) (pI (pA τ (c + 30) (upd (gV τ (c + 30)) nl x)) 10 c (nI (nl + 1))) := by
  obtain ⟨h_c, h_g, h_h, h_p, h_b, h_w, h_k, h_t, h_l, h_f⟩ := h
  have hnk := h_c.2.2.1.1
  refine ⟨?_, ?_, ?_, ?_, ?_, ?_, ?_, ?_, ?_, ?_⟩
  · refine ⟨?_, ?_, ?_, ?_, ⟨by omega, ?_, ?_⟩, ?_⟩
    · simpa [gI_pIx, gI_pA] using h_c.1
    · simpa [gI_pIx, gI_pA] using h_c.2.1
    · simpa [gI_pIx, gI_pA] using h_c.2.2.1
    · simpa [gI_pIx, gI_pA] using h_c.2.2.2.1
    · simp [gI_pIx, gI_pA]
    · simp [gI_pIx]
    · simpa [gI_pIx, gI_pA] using h_c.2.2.2.2.2
  · simpa [R_g, gI_pIx, gI_pA] using h_g
  · simpa [R_h, gV_pI, gV_pAx] using h_h
  · simpa [R_p, gI_pIx, gV_pI, gI_pA, gV_pAx] using h_p
  · intro i hi
    obtain ⟨g1, g2⟩ := h_b i hi
    refine ⟨?_, fun m k e hm hk => ?_⟩
    · rw [gI_pA, gI_pIf (by decide), gV_pI, gV_pAn (by omega)]; exact g1
    · rw [gV_pI, gV_pAn (by omega)] at e
      rw [gV_pAn (by omega), gV_pI, gV_pI, gV_pAn (by omega)]
      exact g2 m k e hm hk
  · intro i hi
    obtain ⟨g1, g2, g3, g4, g5, g6, g7, g8⟩ := h_w i hi
    refine ⟨by simpa [gI_pIx, gV_pI, gI_pA, gV_pAx] using g1, by simpa [gI_pIx, gV_pI, gI_pA, gV_pAx] using g2, by simpa [gI_pIx, gV_pI, gI_pA, gV_pAx] using g3, by simpa [gI_pIx, gV_pI, gI_pA, gV_pAx] using g4, fun m k e hm hk => ?_, by simpa [gI_pIx, gV_pI, gI_pA, gV_pAx] using g6, by simpa [gI_pIx, gV_pI, gI_pA, gV_pAx] using g7, fun z => ?_⟩
    · rw [gV_pI, gV_pAn (by omega)] at e
      rw [gV_pAn (by omega), gV_pI, gV_pI, gV_pAn (by omega)]
      exact g5 m k e hm hk
    · rw [gV_pI, gV_pAn (by omega)] at z
      have g8 := g8 z
      refine ⟨?_, fun m k e hm hk => ?_⟩
      · rw [gI_pA, gI_pIf (by decide), gV_pI, gV_pAn (by omega)]; exact g8.1
      · rw [gV_pI, gV_pAn (by omega)] at e
        rw [gV_pAn (by omega), gV_pI, gV_pI, gV_pAn (by omega)]
        exact g8.2 m k e hm hk
  · intro i hi
    obtain ⟨g1, g2⟩ := h_k i hi
    refine ⟨?_, ?_, fun m k e hm hk => ?_⟩
    · rw [gV_pAn (by omega), gV_pI, gV_pI, gV_pAn (by omega)]; exact g1
    · rw [gI_pA, gI_pIf (by decide), gV_pI, gV_pAn (by omega)]; exact g2.1
    · rw [gV_pI, gV_pAn (by omega)] at e
      rw [gV_pAn (by omega), gV_pI, gV_pI, gV_pAn (by omega)]
      exact g2.2 m k e hm hk
  · simpa [R_t, gV_pI, gV_pAx] using h_t
  · intro i hi
    rw [gV_pAs, gV_pI, gV_pAs]
    by_cases e : i = nl
    · rw [e, upd_s, upd_s]
    · rw [upd_n e, upd_n e]
      exact h_l i (by omega)
  · simpa [R_f, gV_pI, gV_pAx] using h_f
theorem r_note {b c np nw nk nt nl nf : Nat} {σ τ : fr_S} (hs : Sx b σ) (hm : Sm c τ) (hR : RN b c np nw nk nt nl nf σ τ) (x : Int32) (hd : (∀ k, k < nl → gV τ (c + 30) k ≠ x) → nl < 10) : rel (m_FR_noteLacking b x σ) (m_Md_tellLack c x τ) (fun σ' τ' => (∃ nl', RN b c np nw nk nt nl' nf σ' τ') ∧ (∀ a, a ≠ b + 32 → gV σ' a = gV σ a) ∧ (∀ f, f ≠ 74 → ∀ a, gI σ' f a = gI σ f a) ∧ (∀ a, a ≠ c + 30 → gV τ' a = gV τ a) ∧ Sx b σ' ∧ Sm c τ') := by
  have hl := hR.1.2.2.2.2.1
  have hL := hR.2.2.2.2.2.2.2.2.1
  have hT := hs.1.2.2.2.2.2.2.2.1
  have k1 : ∀ (n k : Nat), k ≤ nl → nl - k < n → (∀ i, i < k → gV τ (c + 30) i ≠ x) → ev (m_FR_noteLacking_L2 n b x (nI k) σ) (fun σ' => (σ' = σ ∧ ∃ i, i < nl ∧ gV τ (c + 30) i = x) ∨ ((∀ i, i < nl → gV τ (c + 30) i ≠ x) ∧ σ' = pA (pI σ 74 b (nI (nl + 1))) (b + 32) (upd (gV σ (b + 32)) nl x))) := by
    intro n
    induction n with
    | zero => intro k _ h; omega
    | succ n ih =>
      intro k hk hn ho
      unfold m_FR_noteLacking_L2
      refine ev_bs ((xI hs).trans (congrArg some hl.2.1)) ?_
      refine ev_if (fun z => ?_) (fun z => ?_)
      · rw [nI_leI (by omega) (by omega)] at z
        have all : ∀ i, i < nl → gV τ (c + 30) i ≠ x := fun i hi => ho i (by omega)
        have h10 := hd all
        refine ev_bs ((xI hs).trans (congrArg some hl.2.1)) ?_
        refine ev_if (fun y => ?_) (fun _ => ?_)
        · rw [nI_lit10, nI_leI (by omega) (by omega)] at y
          omega
        refine ev_bs (xp73 hs) ?_
        refine ev_bs ((xI hs).trans (congrArg some hl.2.1)) ?_
        refine ev_bs (sI_k hs.1.1) ?_
        rw [nI_1]
        refine ev_bs (sV_nI (n := 10) (show gK (pI σ 74 b (nI (nl + 1))) (b + 32) = some (.inr (0, 10)) from hT.2) h10 (by decide)) ?_
        exact ev_some (Or.inr ⟨all, rfl⟩)
      · rw [nI_leI (by omega) (by omega)] at z
        refine ev_bs (xp73 hs) ?_
        refine ev_bs ((oV_nI (n := 10) hT.2 (by omega) (by decide)).trans (congrArg some (hL k (by omega)))) ?_
        refine ev_if (fun e => ev_some (Or.inl ⟨rfl, k, by omega, e⟩)) (fun e => ?_)
        rw [nI_1]
        refine ih (k + 1) (by omega) (by omega) (fun i hi => ?_)
        by_cases ei : i = k
        · rw [ei]; exact e
        · exact ho i (by omega)
  have k2 : ∀ (n k : Nat) (y : Int32), k ≤ nl → nl - k < n → ((y = 0 ∧ ∀ i, i < k → gV τ (c + 30) i ≠ x) ∨ (y = 1 ∧ ∃ i, i < nl ∧ gV τ (c + 30) i = x)) → ev (m_Md_tellLack_L4 n c x y (nI k) τ) (fun τ' => (τ' = τ ∧ ∃ i, i < nl ∧ gV τ (c + 30) i = x) ∨ ((∀ i, i < nl → gV τ (c + 30) i ≠ x) ∧ τ' = pI (pA τ (c + 30) (upd (gV τ (c + 30)) nl x)) 10 c (nI (nl + 1)))) := by
    intro n
    induction n with
    | zero => intro k y _ h; omega
    | succ n ih =>
      intro k y hk hn ho
      unfold m_Md_tellLack_L4
      refine ev_bs ((mI hm).trans (congrArg some hl.2.2)) ?_
      refine ev_if (fun z => ?_) (fun z => ?_)
      · rw [nI_leI (by omega) (by omega)] at z
        rcases ho with ⟨rfl, ho⟩ | ⟨rfl, ho⟩
        · have all : ∀ i, i < nl → gV τ (c + 30) i ≠ x := fun i hi => ho i (by omega)
          have h10 := hd all
          rw [if_pos rfl]
          refine ev_bs (mP38 hm) ?_
          refine ev_bs ((mI hm).trans (congrArg some hl.2.2)) ?_
          refine ev_bs (mS30 hm h10) ?_
          have hm2 : Sm c (pA τ (c + 30) (upd (gV τ (c + 30)) nl x)) := hm
          refine ev_bs (Eq.trans (mI hm2) (congrArg some (show _ = nI nl from hl.2.2))) ?_
          refine ev_bs (mSI hm2) ?_
          rw [nI_1]
          exact ev_some (Or.inr ⟨all, rfl⟩)
        · rw [if_neg (by decide)]
          exact ev_some (Or.inl ⟨rfl, ho⟩)
      · rw [nI_leI (by omega) (by omega)] at z
        rcases ho with ⟨rfl, ho⟩ | ⟨rfl, ho⟩
        · rw [if_pos rfl]
          refine ev_bs (mP38 hm) ?_
          refine ev_bs (mV30 hm (by omega)) ?_
          rw [nI_1]
          refine ev_if (fun e => ih (k + 1) 1 (by omega) (by omega) (Or.inr ⟨rfl, k, by omega, e⟩)) (fun e => ih (k + 1) 0 (by omega) (by omega) (Or.inl ⟨rfl, fun i hi => ?_⟩))
          by_cases ei : i = k
          · rw [ei]; exact e
          · exact ho i (by omega)
        · rw [if_neg (by decide), nI_1]
          exact ih (k + 1) 1 (by omega) (by omega) (Or.inr ⟨rfl, ho⟩)
  have a1 := k1 1000 0 (by omega) (by omega) (fun i hi => by omega)
  have a2 := k2 1000 0 0 (by omega) (by omega) (Or.inl ⟨rfl, fun i hi => by omega⟩)
  rw [nI_0] at a1 a2
  obtain ⟨σ', e1, p1⟩ := a1
  obtain ⟨τ', e2, p2⟩ := a2
  refine ⟨σ', τ', e1, e2, ?_⟩
  rcases p1 with ⟨rfl, i, hi, q⟩ | ⟨q, rfl⟩
  · rcases p2 with ⟨rfl, -⟩ | ⟨t, -⟩
    · exact ⟨⟨nl, hR⟩, fun _ _ => rfl, fun _ _ _ => rfl, fun _ _ => rfl, hs, hm⟩
    · exact absurd q (t i hi)
  · rcases p2 with ⟨-, i, hi, t⟩ | ⟨-, rfl⟩
    · exact absurd t (q i hi)
    · exact ⟨⟨nl + 1, RN_lack (hd q) hR⟩, fun a ha => by rw [gV_pAn ha, gV_pI], fun f hf a => by rw [gI_pA, gI_pIf hf], fun a ha => by rw [gV_pI, gV_pAn ha], hs, hm⟩
