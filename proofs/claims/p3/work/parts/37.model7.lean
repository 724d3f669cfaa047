theorem md_keptOf_L {c nk : Nat} {τ : fr_S} (hs : Sm c τ) (h3 : gI τ 8 c = nI nk) (hk10 : nk ≤ 10) (x : Int32) : ∀ (n i : Nat) (got : Int32), i ≤ nk → nk - i < n → ((got = -1 ∧ ∀ k, k < i → gV τ (c + 24) k ≠ x) ∨ ∃ k, k < i ∧ got = nI k ∧ gV τ (c + 24) k = x) → ev (m_Md_keptOf_L4 n c x got (nI i) τ) (fun r => (r = -1 ∧ ∀ k, k < nk → gV τ (c + 24) k ≠ x) ∨ ∃ k, k < nk ∧ r = nI k ∧ gV τ (c + 24) k = x) := by
  intro n
  induction n with
  | zero => intro i got _ h; omega
  | succ n ih =>
    intro i got hi hn hg
    unfold m_Md_keptOf_L4
    refine ev_bs ((mI hs).trans (congrArg some h3)) ?_
    refine ev_if (fun z => ?_) (fun z => ?_)
    · rw [nI_leI (by omega) (by omega)] at z
      have hin : i = nk := by omega
      subst hin
      exact ev_some hg
    · rw [nI_leI (by omega) (by omega)] at z
      refine ev_bs (mP32 hs) ?_
      refine ev_bs (mV24 hs (by omega)) ?_
      refine ev_if (fun he => ?_) (fun he => ?_)
      · rw [nI_1]
        exact ih (i + 1) (nI i) (by omega) (by omega) (Or.inr ⟨i, by omega, rfl, he⟩)
      · rw [nI_1]
        refine ih (i + 1) got (by omega) (by omega) ?_
        rcases hg with ⟨g1, g2⟩ | ⟨k, g1, g2, g3⟩
        · refine Or.inl ⟨g1, fun k hk => ?_⟩
          by_cases hki : k = i
          · subst hki; exact he
          · exact g2 k (by omega)
        · exact Or.inr ⟨k, by omega, g2, g3⟩
theorem md_keptOf {c nk : Nat} {τ : fr_S} (hs : Sm c τ) (h3 : gI τ 8 c = nI nk) (hk10 : nk ≤ 10) (x : Int32) : ev (m_Md_keptOf c x τ) (fun r => (r = -1 ∧ ∀ k, k < nk → gV τ (c + 24) k ≠ x) ∨ ∃ k, k < nk ∧ r = nI k ∧ gV τ (c + 24) k = x) := by
  unfold m_Md_keptOf
  have key := md_keptOf_L hs h3 hk10 x 1000 0 (-1) (Nat.zero_le _) (by omega) (Or.inl ⟨rfl, fun k hk => absurd hk (Nat.not_lt_zero k)⟩)
  rw [nI_0] at key
  exact key
theorem I_ws_go {nw re w s' k : Nat} {pm st at_ ha fa : Nat → Int32} (h : I_ws nw re pm (upd st w 4) at_ ha fa) (hw : w < nw) (hs : s' = 4 ∨ (s' = 1 ∧ ∃ m, m ≤ 6 ∧ pm w = nI m ∧ k < m)) : I_ws nw re pm (upd st w (nI s')) (upd at_ w (nI k)) (upd ha w 0) (upd fa w 0) := by
  intro j hj
  obtain ⟨⟨s, g1, g2, g3⟩, g4, g5⟩ := h j hj
  by_cases hjw : j = w
  · subst hjw
    refine ⟨⟨s', by omega, upd_s, fun hb => ?_⟩, ⟨0, Nat.zero_le _, upd_s.trans nI_0.symm⟩, ⟨0, Nat.zero_le _, upd_s.trans nI_0.symm⟩⟩
    rcases hs with hs | ⟨-, m, hm6, hm, hk⟩
    · omega
    · exact ⟨hw, m, k, hm6, hm, upd_s, hk⟩
  · rw [upd_n hjw] at g2
    rw [upd_n hjw, upd_n hjw, upd_n hjw, upd_n hjw]
    exact ⟨⟨s, g1, g2, g3⟩, g4, g5⟩
theorem I_to_go {np nw nt w s' k : Nat} {ba pm po st at_ tw tp : Nat → Int32} (h : I_to np nw nt ba pm po (upd st w 4) at_ tw tp) (hnp : np ≤ 16) (hk : k < 2 ^ 31) (hs : s' = 4 ∨ (s' = 1 ∧ ∃ p0, p0 < np ∧ po (6 * w + k) = nI p0 ∧ ba p0 = 0)) : I_to np nw nt ba pm po (upd st w (nI s')) (upd at_ w (nI k)) tw tp := by
  refine ⟨fun i hi => ?_, h.2⟩
  obtain ⟨w', k', m', q, g1, g2, g3, g4, g5, g6, g7, g8, g9, g10⟩ := h.1 i hi
  refine ⟨w', k', m', q, g1, g2, g3, g4, g5, g6, g7, g8, g9, fun hb a ha hal => ?_⟩
  by_cases hww : w' = w
  · subst hww
    rw [upd_s] at hb ha
    rcases hs with rfl | ⟨rfl, p0, hp0, hpo, hba⟩
    · exact absurd hb (by decide)
    · have hka : k = a := nI_inj hk (by omega) ha
      subst hka
      rw [hpo]
      intro he
      have hpq : p0 = q := nI_inj (by omega) (by omega) he
      subst hpq
      rw [hba] at g9
      exact absurd g9 (by decide)
  · rw [upd_n hww] at hb ha
    exact g10 (by rw [upd_n hww]; exact hb) a ha hal
theorem I_ws_4 {nw re w : Nat} {pm st at_ ha fa : Nat → Int32} (h : I_ws nw re pm st at_ ha fa) : I_ws nw re pm (upd st w 4) at_ ha fa := by
  intro j hj
  obtain ⟨⟨s, g1, g2, g3⟩, g4⟩ := h j hj
  by_cases hjw : j = w
  · subst hjw
    exact ⟨⟨4, by omega, upd_s, fun hb => by omega⟩, g4⟩
  · rw [upd_n hjw]
    exact ⟨⟨s, g1, g2, g3⟩, g4⟩
theorem I_to_4 {np nw nt w : Nat} {ba pm po st at_ tw tp : Nat → Int32} (h : I_to np nw nt ba pm po st at_ tw tp) : I_to np nw nt ba pm po (upd st w 4) at_ tw tp := by
  refine ⟨fun i hi => ?_, h.2⟩
  obtain ⟨w', k', m', q, g1, g2, g3, g4, g5, g6, g7, g8, g9, g10⟩ := h.1 i hi
  refine ⟨w', k', m', q, g1, g2, g3, g4, g5, g6, g7, g8, g9, fun hb a ha hal => ?_⟩
  by_cases hww : w' = w
  · subst hww
    rw [upd_s] at hb
    exact absurd hb (by decide)
  · rw [upd_n hww] at hb
    exact g10 hb a ha hal
/-- a want's state set aside -/
theorem MI_4 {c w : Nat} {τ : fr_S} (h : MI c τ) : MI c (pA τ (c + 17) (upd (gV τ (c + 17)) w 4)) := by
  obtain ⟨hs, np, nw, nk, nt, nl, nf, re, a1, a2, a3, a4, a5, a6, a7, a8, a9, a10, a11, a12, a13, a14, a15, a16, a17, a18⟩ := id h
  exact ⟨hs, np, nw, nk, nt, nl, nf, re, (by simpa [gV_pI, gV_pAx, gI_pA, gI_pIx] using a1), (by simpa [gV_pI, gV_pAx, gI_pA, gI_pIx] using a2), (by simpa [gV_pI, gV_pAx, gI_pA, gI_pIx] using a3), (by simpa [gV_pI, gV_pAx, gI_pA, gI_pIx] using a4), (by simpa [gV_pI, gV_pAx, gI_pA, gI_pIx] using a5), (by simpa [gV_pI, gV_pAx, gI_pA, gI_pIx] using a6), (by simpa [gV_pI, gV_pAx, gI_pA, gI_pIx] using a7), (by simpa [gV_pI, gV_pAx, gI_pA, gI_pIx] using a8), (by simpa [gV_pI, gV_pAx, gI_pA, gI_pIx] using a9), (by simpa [gV_pI, gV_pAx, gI_pA, gI_pIx] using a10), (by simpa [gV_pI, gV_pAx, gI_pA, gI_pIx] using a11), (by simpa [gV_pAx] using I_ws_4 (w := w) a12), (by simpa [gV_pI, gV_pAx, gI_pA, gI_pIx] using a13), (by simpa [gV_pI, gV_pAx, gI_pA, gI_pIx] using a14), (by simpa [gV_pI, gV_pAx, gI_pA, gI_pIx] using a15), (by simpa [gV_pAx] using I_to_4 (w := w) a16), (by simpa [gV_pI, gV_pAx, gI_pA, gI_pIx] using a17), (by simpa [gV_pI, gV_pAx, gI_pA, gI_pIx] using a18)⟩
theorem nI_v4 : nI 4 = 4 := by decide +kernel
theorem nI_v1 : nI 1 = 1 := by decide +kernel
theorem nI_v2 : nI 2 = 2 := by decide +kernel
theorem nI_v3 : nI 3 = 3 := by decide +kernel
theorem md_goOn_L {c w : Nat} {τ : fr_S} (h : MI c (pA τ (c + 17) (upd (gV τ (c + 17)) w 4))) (hw : ∃ n, gI τ 7 c = nI n ∧ n ≤ 10 ∧ w < n) (hh : gV τ (c + 19) w = 0) (hf : gV τ (c + 23) w = 0) : ∀ (n k : Nat), k ≤ 8 → 8 - k < n → ev (m_Md_goOn_L16 n c (nI w) (nI k) τ) (MI c) := by
  obtain ⟨hs, np, nw, nk, nt, nl, nf, re, a1, a2, a3, a4, a5, a6, a7, a8, a9, a10, a11, a12, a13, a14, a15, a16, a17, a18⟩ := id h
  have hs : Sm c τ := hs
  obtain ⟨n0, w1, w2, w3⟩ := hw
  have hn0 : n0 = nw := nI_inj (by omega) (by have := a2.1; omega) (w1.symm.trans a2.2)
  subst hn0
  have hnp := a1.1
  have a11' : I_wp np (gV τ (c + 15)) (gV τ (c + 16)) := by simpa [gV_pAx] using a11
  have a12' : I_ws n0 re (gV τ (c + 15)) (upd (gV τ (c + 17)) w 4) (gV τ (c + 18)) (gV τ (c + 19)) (gV τ (c + 23)) := by simpa [gV_pAx] using a12
  have a16' : I_to np n0 nt (gV τ (c + 13)) (gV τ (c + 15)) (gV τ (c + 16)) (upd (gV τ (c + 17)) w 4) (gV τ (c + 18)) (gV τ (c + 27)) (gV τ (c + 28)) := by simpa [gV_pAx] using a16
  obtain ⟨m, m1, m2, m3⟩ := a11' w (by omega)
  have e19 : upd (gV τ (c + 19)) w 0 = gV τ (c + 19) := by
    funext j
    by_cases hj : j = w
    · rw [hj, upd_s, hh]
    · rw [upd_n hj]
  have e23 : upd (gV τ (c + 23)) w 0 = gV τ (c + 23) := by
    funext j
    by_cases hj : j = w
    · rw [hj, upd_s, hf]
    · rw [upd_n hj]
  have fin : ∀ (k s' : Nat), k ≤ 8 → (s' = 4 ∨ (s' = 1 ∧ ∃ p0, p0 < np ∧ gV τ (c + 16) (6 * w + k) = nI p0 ∧ gV τ (c + 13) p0 = 0)) → (s' = 1 → k < m) → MI c (pA (pA τ (c + 18) (upd (gV τ (c + 18)) w (nI k))) (c + 17) (upd (gV τ (c + 17)) w (nI s'))) := by
    intro k s' hk8 hs1 hs2
    have b12 := I_ws_go (s' := s') (k := k) a12' w3 (by
      rcases hs1 with g | ⟨g, -⟩
      · exact Or.inl g
      · exact Or.inr ⟨g, m, m1, m2, hs2 g⟩)
    rw [e19, e23] at b12
    have b16 := I_to_go (s' := s') (k := k) a16' a1.1 (by omega) hs1
    exact ⟨hs, np, n0, nk, nt, nl, nf, re, (by simpa [gV_pI, gV_pAx, gI_pA, gI_pIx] using a1), (by simpa [gV_pI, gV_pAx, gI_pA, gI_pIx] using a2), (by simpa [gV_pI, gV_pAx, gI_pA, gI_pIx] using a3), (by simpa [gV_pI, gV_pAx, gI_pA, gI_pIx] using a4), (by simpa [gV_pI, gV_pAx, gI_pA, gI_pIx] using a5), (by simpa [gV_pI, gV_pAx, gI_pA, gI_pIx] using a6), (by simpa [gV_pI, gV_pAx, gI_pA, gI_pIx] using a7), (by simpa [gV_pI, gV_pAx, gI_pA, gI_pIx] using a8), (by simpa [gV_pI, gV_pAx, gI_pA, gI_pIx] using a9), (by simpa [gV_pI, gV_pAx, gI_pA, gI_pIx] using a10), (by simpa [gV_pI, gV_pAx, gI_pA, gI_pIx] using a11), (by simpa [gV_pAx] using b12), (by simpa [gV_pI, gV_pAx, gI_pA, gI_pIx] using a13), (by simpa [gV_pI, gV_pAx, gI_pA, gI_pIx] using a14), (by simpa [gV_pI, gV_pAx, gI_pA, gI_pIx] using a15), (by simpa [gV_pAx] using b16), (by simpa [gV_pI, gV_pAx, gI_pA, gI_pIx] using a17), (by simpa [gV_pI, gV_pAx, gI_pA, gI_pIx] using a18)⟩
  intro n
  induction n with
  | zero => intro k _ hn; omega
  | succ n ih =>
    intro k hk8 hn
    unfold m_Md_goOn_L16
    refine ev_bs (mP23 hs) ?_
    refine ev_bs ((mV15 hs (by omega)).trans (congrArg some m2)) ?_
    refine ev_if (fun z => ?_) (fun z => ?_)
    · refine ev_bs (mP26 hs) ?_
      refine ev_bs (mS18 hs (by omega)) ?_
      refine ev_bs (mP25 hs) ?_
      refine ev_bs (mP23 hs) ?_
      have m2' : gV (pA τ (c + 18) (upd (gV τ (c + 18)) w (nI k))) (c + 15) w = nI m := by simpa [gV_pAx] using m2
      refine ev_bs (Eq.trans (mV15 hs (by omega)) (congrArg some m2')) ?_
      refine ev_if (fun _ => ?_) (fun z' => absurd z z')
      refine ev_bs (mS17 hs (by omega)) ?_
      have key := fin k 4 hk8 (Or.inl rfl) (fun z => by omega)
      refine ev_some ?_
      simpa [gV_pAx, nI_v4] using key
    · rw [nI_leI (by omega) (by omega)] at z
      refine ev_bs (mP21 hs) ?_
      refine ev_bs (mP24 hs) ?_
      rw [nI_6]
      obtain ⟨p, p1, p2⟩ := m3 k (by omega)
      refine ev_bs ((mV16 hs (by omega)).trans (congrArg some p2)) ?_
      refine ev_bs (mV13 hs (by omega)) ?_
      refine ev_if (fun hb => ?_) (fun _ => ?_)
      · refine ev_bs (mP26 hs) ?_
        refine ev_bs (mS18 hs (by omega)) ?_
        refine ev_bs (mP25 hs) ?_
        refine ev_bs (mP23 hs) ?_
        have m2' : gV (pA τ (c + 18) (upd (gV τ (c + 18)) w (nI k))) (c + 15) w = nI m := by simpa [gV_pAx] using m2
        refine ev_bs (Eq.trans (mV15 hs (by omega)) (congrArg some m2')) ?_
        refine ev_if (fun z' => ?_) (fun _ => ?_)
        · rw [nI_leI (by omega) (by omega)] at z'
          omega
        · refine ev_bs (mS17 hs (by omega)) ?_
          have key := fin k 1 hk8 (Or.inr ⟨rfl, p, p1, p2, hb⟩) (fun _ => by omega)
          refine ev_some ?_
          simpa [gV_pAx, nI_v1] using key
      · rw [nI_1]
        exact ih (k + 1) (by omega) (by omega)
theorem md_goOn {c w f : Nat} {τ : fr_S} (h : MI c (pA τ (c + 17) (upd (gV τ (c + 17)) w 4))) (hw : ∃ n, gI τ 7 c = nI n ∧ n ≤ 10 ∧ w < n) (hf : f ≤ 8) : ev (m_Md_goOn c (nI w) (nI f) τ) (MI c) := by
  unfold m_Md_goOn
  have hs : Sm c τ := h.1
  obtain ⟨n0, w1, w2, w3⟩ := id hw
  refine ev_bs (mP27 hs) ?_
  refine ev_bs (mS19 hs (by omega)) ?_
  refine ev_bs (mP31 hs) ?_
  refine ev_bs (mS23 hs (by omega)) ?_
  refine md_goOn_L (w := w) ?_ (by exact hw) ?_ ?_ 1000 f hf (by omega)
  · obtain ⟨hs, np, nw, nk, nt, nl, nf, re, a1, a2, a3, a4, a5, a6, a7, a8, a9, a10, a11, a12, a13, a14, a15, a16, a17, a18⟩ := id h
    have b12 : I_ws nw re (gV τ (c + 15)) (upd (gV τ (c + 17)) w 4) (gV τ (c + 18)) (gV τ (c + 19)) (gV τ (c + 23)) := by simpa [gV_pAx] using a12
    exact ⟨hs, np, nw, nk, nt, nl, nf, re, (by simpa [gV_pI, gV_pAx, gI_pA, gI_pIx] using a1), (by simpa [gV_pI, gV_pAx, gI_pA, gI_pIx] using a2), (by simpa [gV_pI, gV_pAx, gI_pA, gI_pIx] using a3), (by simpa [gV_pI, gV_pAx, gI_pA, gI_pIx] using a4), (by simpa [gV_pI, gV_pAx, gI_pA, gI_pIx] using a5), (by simpa [gV_pI, gV_pAx, gI_pA, gI_pIx] using a6), (by simpa [gV_pI, gV_pAx, gI_pA, gI_pIx] using a7), (by simpa [gV_pI, gV_pAx, gI_pA, gI_pIx] using a8), (by simpa [gV_pI, gV_pAx, gI_pA, gI_pIx] using a9), (by simpa [gV_pI, gV_pAx, gI_pA, gI_pIx] using a10), (by simpa [gV_pI, gV_pAx, gI_pA, gI_pIx] using a11), (by
      have key : I_ws nw re (gV τ (c + 15)) (upd (gV τ (c + 17)) w 4) (gV τ (c + 18)) (upd (gV τ (c + 19)) w 0) (upd (gV τ (c + 23)) w 0) := by
        intro j hj
        obtain ⟨g1, g2, g3⟩ := b12 j hj
        by_cases hjw : j = w
        · subst hjw
          exact ⟨g1, ⟨0, Nat.zero_le _, upd_s.trans nI_0.symm⟩, ⟨0, Nat.zero_le _, upd_s.trans nI_0.symm⟩⟩
        · exact ⟨g1, by rw [upd_n hjw]; exact g2, by rw [upd_n hjw]; exact g3⟩
      simpa [gV_pAx] using key), (by simpa [gV_pI, gV_pAx, gI_pA, gI_pIx] using a13), (by simpa [gV_pI, gV_pAx, gI_pA, gI_pIx] using a14), (by simpa [gV_pI, gV_pAx, gI_pA, gI_pIx] using a15), (by simpa [gV_pI, gV_pAx, gI_pA, gI_pIx] using a16), (by simpa [gV_pI, gV_pAx, gI_pA, gI_pIx] using a17), (by simpa [gV_pI, gV_pAx, gI_pA, gI_pIx] using a18)⟩
  · simp [gV_pAx, upd_s]
  · simp [gV_pAx, upd_s]
