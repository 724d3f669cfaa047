/-- what R_w says of one want -/
def W1 (b c j : Nat) (σ τ : fr_S) : Prop := gI σ 451 (b + 86 + 4 * j) = gV τ (c + 14) j ∧ gI σ 450 (b + 86 + 4 * j) = gV τ (c + 15) j ∧ gI σ 452 (b + 86 + 4 * j) = gV τ (c + 17) j ∧ gI σ 456 (b + 86 + 4 * j) = gV τ (c + 22) j ∧ (∀ m k, gV τ (c + 15) j = nI m → m ≤ 6 → k < m → gV σ (b + 89 + 4 * j) k = gV τ (c + 16) (6 * j + k)) ∧ ((gV τ (c + 17) j = 1 ∨ gV τ (c + 17) j = 2) → gI σ 453 (b + 86 + 4 * j) = gV τ (c + 18) j ∧ gI σ 454 (b + 86 + 4 * j) = gV τ (c + 23) j) ∧ (gV τ (c + 17) j = 2 → gI σ 455 (b + 86 + 4 * j) = gV τ (c + 21) j) ∧ (gV τ (c + 17) j ≠ 4 → R_r σ τ (b + 87 + 4 * j) (b + 88 + 4 * j) (gV τ (c + 19) j) (c + 20) (100 * j))
def wA : List Nat := [17, 18, 19, 21, 22, 23]
/-- the class changed in one want's cells alone -/
def DX (b j : Nat) (σ σ' : fr_S) : Prop := (∀ f a, a ≠ b + 86 + 4 * j → a ≠ b + 87 + 4 * j → gI σ' f a = gI σ f a) ∧ ∀ a, a ≠ b + 88 + 4 * j → gV σ' a = gV σ a
/-- the reference changed in one want's places alone -/
def DM (c j : Nat) (τ τ' : fr_S) : Prop := (∀ f, f ≠ 1 → gI τ' f c = gI τ f c) ∧ (∀ a, a ∉ wA → a ≠ 20 → gV τ' (c + a) = gV τ (c + a)) ∧ (∀ a, a ∈ wA → ∀ i, i ≠ j → gV τ' (c + a) i = gV τ (c + a) i) ∧ ∀ k, (k < 100 * j ∨ 100 * j + 100 ≤ k) → gV τ' (c + 20) k = gV τ (c + 20) k
theorem RN_want {b c np nw nk nt nl nf j : Nat} {σ τ σ' τ' : fr_S} (hj : j < 10) (h : RN b c np nw nk nt nl nf σ τ) (hx : DX b j σ σ') (hm : DM c j τ τ') (hw : W1 b c j σ' τ') : RN b c np nw nk nt nl nf σ' τ' := by
  obtain ⟨h_c, h_g, h_h, h_p, h_b, h_w, h_k, h_t, h_l, h_f⟩ := h
  obtain ⟨x1, x2⟩ := hx
  obtain ⟨m1, m2, m3, m4⟩ := hm
  have hnk := h_c.2.2.1.1
  refine ⟨?_, ?_, ?_, ?_, ?_, ?_, ?_, ?_, ?_, ?_⟩
  · obtain ⟨c1, c2, c3, c4, c5, c6⟩ := h_c
    refine ⟨⟨c1.1, ?_, ?_⟩, ⟨c2.1, ?_, ?_⟩, ⟨c3.1, ?_, ?_⟩, ⟨c4.1, ?_, ?_⟩, ⟨c5.1, ?_, ?_⟩, ⟨c6.1, ?_, ?_⟩⟩
    · rw [x1 _ _ (by omega) (by omega)]; exact c1.2.1
    · rw [m1 _ (by decide)]; exact c1.2.2
    · rw [x1 _ _ (by omega) (by omega)]; exact c2.2.1
    · rw [m1 _ (by decide)]; exact c2.2.2
    · rw [x1 _ _ (by omega) (by omega)]; exact c3.2.1
    · rw [m1 _ (by decide)]; exact c3.2.2
    · rw [x1 _ _ (by omega) (by omega)]; exact c4.2.1
    · rw [m1 _ (by decide)]; exact c4.2.2
    · rw [x1 _ _ (by omega) (by omega)]; exact c5.2.1
    · rw [m1 _ (by decide)]; exact c5.2.2
    · rw [x1 _ _ (by omega) (by omega)]; exact c6.2.1
    · rw [m1 _ (by decide)]; exact c6.2.2
  · refine ⟨?_, ?_, ?_⟩
    · rw [x1 _ _ (by omega) (by omega), m1 _ (by decide)]; exact h_g.1
    · rw [x1 _ _ (by omega) (by omega), m1 _ (by decide)]; exact h_g.2.1
    · rw [x1 _ _ (by omega) (by omega), m1 _ (by decide)]; exact h_g.2.2
  · refine ⟨fun i hi => ?_, fun i hi => ?_⟩
    · rw [x2 _ (by omega), m2 _ (by decide) (by decide)]; exact h_h.1 i hi
    · rw [x2 _ (by omega), m2 _ (by decide) (by decide)]; exact h_h.2 i hi
  · intro i hi
    rw [x1 193 _ (by omega) (by omega), x1 194 _ (by omega) (by omega), x1 195 _ (by omega) (by omega), x1 196 _ (by omega) (by omega), x1 197 _ (by omega) (by omega), x1 198 _ (by omega) (by omega), x1 199 _ (by omega) (by omega), x1 200 _ (by omega) (by omega), x1 201 _ (by omega) (by omega), m2 3 (by decide) (by decide), m2 4 (by decide) (by decide), m2 6 (by decide) (by decide), m2 7 (by decide) (by decide), m2 8 (by decide) (by decide), m2 10 (by decide) (by decide), m2 11 (by decide) (by decide), m2 12 (by decide) (by decide), m2 13 (by decide) (by decide)]
    exact h_p i hi
  · intro i hi
    have g := h_b i hi
    refine ⟨?_, fun m k e hm hk => ?_⟩
    · rw [x1 _ _ (by omega) (by omega), m2 5 (by decide) (by decide)]; exact g.1
    · rw [m2 5 (by decide) (by decide)] at e
      rw [x2 _ (by omega), m2 9 (by decide) (by decide)]
      exact g.2 m k e hm hk
  · intro i hi
    by_cases e : i = j
    · subst e
      exact hw
    obtain ⟨g1, g2, g3, g4, g5, g6, g7, g8⟩ := h_w i hi
    have q17 := m3 17 (by decide) i e
    refine ⟨?_, ?_, ?_, ?_, fun m k em hm hk => ?_, fun z => ?_, fun z => ?_, fun z => ?_⟩
    · rw [x1 _ _ (by omega) (by omega), m2 14 (by decide) (by decide)]; exact g1
    · rw [x1 _ _ (by omega) (by omega), m2 15 (by decide) (by decide)]; exact g2
    · rw [x1 _ _ (by omega) (by omega), q17]; exact g3
    · rw [x1 _ _ (by omega) (by omega), m3 22 (by decide) i e]; exact g4
    · rw [m2 15 (by decide) (by decide)] at em
      rw [x2 _ (by omega), m2 16 (by decide) (by decide)]
      exact g5 m k em hm hk
    · rw [q17] at z
      rw [x1 453 _ (by omega) (by omega), x1 454 _ (by omega) (by omega), m3 18 (by decide) i e, m3 23 (by decide) i e]
      exact g6 z
    · rw [q17] at z
      rw [x1 _ _ (by omega) (by omega), m3 21 (by decide) i e]
      exact g7 z
    · rw [q17] at z
      have g8 := g8 z
      refine ⟨?_, fun m k em hm hk => ?_⟩
      · rw [x1 _ _ (by omega) (by omega), m3 19 (by decide) i e]; exact g8.1
      · rw [m3 19 (by decide) i e] at em
        rw [x2 _ (by omega), m4 _ (by omega)]
        exact g8.2 m k em hm hk
  · intro i hi
    obtain ⟨g1, g2⟩ := h_k i hi
    refine ⟨?_, ?_, fun m k e hm hk => ?_⟩
    · rw [x2 _ (by omega), m2 24 (by decide) (by decide)]; exact g1
    · rw [x1 _ _ (by omega) (by omega), m2 25 (by decide) (by decide)]; exact g2.1
    · rw [m2 25 (by decide) (by decide)] at e
      rw [x2 _ (by omega), m2 26 (by decide) (by decide)]
      exact g2.2 m k e hm hk
  · intro i hi
    rw [x2 _ (by omega), x2 _ (by omega), x2 _ (by omega), m2 27 (by decide) (by decide), m2 28 (by decide) (by decide), m2 29 (by decide) (by decide)]
    exact h_t i hi
  · intro i hi
    rw [x2 _ (by omega), m2 30 (by decide) (by decide)]
    exact h_l i hi
  · intro i hi
    rw [x2 _ (by omega), x2 _ (by omega), x2 _ (by omega), x2 _ (by omega), m2 31 (by decide) (by decide), m2 32 (by decide) (by decide), m2 33 (by decide) (by decide), m2 34 (by decide) (by decide)]
    exact h_f i hi
/-- the kept one: the class finds the first, the reference the last; no two have one digest -/
theorem r_kept0 {b c nk : Nat} {σ τ : fr_S} (hs : Sx b σ) (hm : Sm c τ) (hn : nk ≤ 10 ∧ gI σ 322 (b + 5) = nI nk ∧ gI τ 8 c = nI nk) (hK : ∀ i, i < nk → gV σ (b + 6) i = gV τ (c + 24) i) (hd : ∀ k k', k < k' → k' < nk → gV τ (c + 24) k ≠ gV τ (c + 24) k') (x : Int32) : rel (m_Store_find (b + 5) x σ) (m_Md_keptOf c x τ) (fun r r' => r = r' ∧ ((r = -1 ∧ ∀ i, i < nk → gV τ (c + 24) i ≠ x) ∨ ∃ k, k < nk ∧ r = nI k)) := by
  have hT := hs.1.2.2.2.2.2.1
  have key : ∀ (n k : Nat), k ≤ nk → nk - k < n → (∀ i, i < k → gV τ (c + 24) i ≠ x) → ev (m_Store_find_L2 n (b + 5) x (nI k) σ) (fun r => (r = -1 ∧ ∀ i, i < nk → gV τ (c + 24) i ≠ x) ∨ ∃ i, i < nk ∧ r = nI i ∧ gV τ (c + 24) i = x) := by
    intro n
    induction n with
    | zero => intro k _ h; omega
    | succ n ih =>
      intro k hk hq ho
      unfold m_Store_find_L2
      refine ev_bs ((oI_k hT.2.1).trans (congrArg some hn.2.1)) ?_
      refine ev_if (fun z => ?_) (fun z => ?_)
      · rw [nI_leI (by omega) (by omega)] at z
        exact ev_some (Or.inl ⟨rfl, fun i hi => ho i (by omega)⟩)
      rw [nI_leI (by omega) (by omega)] at z
      refine ev_bs (oP_g hT.2.1 hT.2.2.1) ?_
      refine ev_bs ((oV_nI (n := 10) hT.2.2.2.1 (by omega) (by decide)).trans (congrArg some (hK k (by omega)))) ?_
      refine ev_if (fun e => ev_some (Or.inr ⟨k, by omega, rfl, e⟩)) (fun e => ?_)
      rw [nI_1]
      refine ih (k + 1) (by omega) (by omega) (fun i hi => ?_)
      by_cases ei : i = k
      · rw [ei]; exact e
      · exact ho i (by omega)
  have key2 : ∀ (n k : Nat) (y : Int32), k ≤ nk → nk - k < n → ((y = -1 ∧ ∀ i, i < k → gV τ (c + 24) i ≠ x) ∨ ∃ i, i < k ∧ y = nI i ∧ gV τ (c + 24) i = x) → ev (m_Md_keptOf_L4 n c x y (nI k) τ) (fun r => (r = -1 ∧ ∀ i, i < nk → gV τ (c + 24) i ≠ x) ∨ ∃ i, i < nk ∧ r = nI i ∧ gV τ (c + 24) i = x) := by
    intro n
    induction n with
    | zero => intro k y _ h; omega
    | succ n ih =>
      intro k y hk hq ho
      unfold m_Md_keptOf_L4
      refine ev_bs ((mI hm).trans (congrArg some hn.2.2)) ?_
      refine ev_if (fun z => ?_) (fun z => ?_)
      · rw [nI_leI (by omega) (by omega)] at z
        have e : k = nk := by omega
        subst e
        exact ev_some ho
      rw [nI_leI (by omega) (by omega)] at z
      refine ev_bs (mP32 hm) ?_
      refine ev_bs (mV24 hm (by omega)) ?_
      rw [nI_1]
      refine ev_if (fun e => ?_) (fun e => ?_)
      · exact ih (k + 1) (nI k) (by omega) (by omega) (Or.inr ⟨k, by omega, rfl, e⟩)
      · refine ih (k + 1) y (by omega) (by omega) ?_
        rcases ho with ⟨h1, h2⟩ | ⟨i, hi, h1, h2⟩
        · refine Or.inl ⟨h1, fun i hi => ?_⟩
          by_cases ei : i = k
          · rw [ei]; exact e
          · exact h2 i (by omega)
        · exact Or.inr ⟨i, by omega, h1, h2⟩
  have a1 := key 1000 0 (by omega) (by omega) (fun i hi => by omega)
  have a2 := key2 1000 0 (-1) (by omega) (by omega) (Or.inl ⟨rfl, fun i hi => by omega⟩)
  rw [nI_0] at a1 a2
  obtain ⟨r, e1, p1⟩ := a1
  obtain ⟨r', e2, p2⟩ := a2
  refine ⟨r, r', e1, e2, ?_⟩
  rcases p1 with ⟨q1, q2⟩ | ⟨i, hi, q1, q2⟩
  · rcases p2 with ⟨t1, t2⟩ | ⟨i', hi', t1, t2⟩
    · exact ⟨q1.trans t1.symm, Or.inl ⟨q1, q2⟩⟩
    · exact absurd t2 (q2 i' hi')
  · rcases p2 with ⟨t1, t2⟩ | ⟨i', hi', t1, t2⟩
    · exact absurd q2 (t2 i hi)
    · have : i = i' := by
        rcases Nat.lt_trichotomy i i' with l | l | l
        · exact absurd (q2.trans t2.symm) (hd i i' l hi')
        · exact l
        · exact absurd (t2.trans q2.symm) (hd i' i l hi)
      subst this
      exact ⟨q1.trans t1.symm, Or.inr ⟨i, hi, q1⟩⟩
theorem r_kept {b c np nw nk nt nl nf : Nat} {σ τ : fr_S} (hs : Sx b σ) (hm : Sm c τ) (hR : RN b c np nw nk nt nl nf σ τ) (hd : ∀ k k', k < k' → k' < nk → gV τ (c + 24) k ≠ gV τ (c + 24) k') (x : Int32) : rel (m_Store_find (b + 5) x σ) (m_Md_keptOf c x τ) (fun r r' => r = r' ∧ (r = -1 ∨ ∃ k, k < nk ∧ r = nI k)) :=
  rel_mono (r_kept0 hs hm hR.1.2.2.1 (fun i hi => (hR.2.2.2.2.2.2.1 i hi).1) hd x) (fun r r' h => ⟨h.1, h.2.imp (fun z => z.1) id⟩)
