theorem MI_pI {c f : Nat} {τ : fr_S} {v : Int32} (h : MI c τ) (hf : f = 1 ∨ f = 2 ∨ f = 3) : MI c (pI τ f c v) := by
  obtain ⟨hs, np, nw, nk, nt, nl, nf, re, hI⟩ := h
  refine ⟨hs, np, nw, nk, nt, nl, nf, re, ?_⟩
  rcases hf with rfl | rfl | rfl <;> simpa [M_I, gV_pI, gI_pIx] using hI
theorem I_ws_wake {nw re w : Nat} {pm st at_ ha fa : Nat → Int32} (h : I_ws nw re pm st at_ ha fa) (hb : st w = 2) : I_ws nw re pm (upd st w 1) at_ ha fa := by
  intro j hj
  obtain ⟨⟨s, g1, g2, g3⟩, g4⟩ := h j hj
  by_cases hjw : j = w
  · subst hjw
    have hs1 : s = 2 := nI_inj (by omega) (by omega) (g2.symm.trans (hb.trans nI_v2.symm))
    exact ⟨⟨1, by decide, upd_s.trans nI_v1.symm, fun _ => g3 (Or.inr hs1)⟩, g4⟩
  · exact ⟨⟨s, g1, by rw [upd_n hjw]; exact g2, g3⟩, g4⟩
theorem md_tick_in {c : Nat} (y1 y2 : Int32) : ∀ (n j : Nat) (τ : fr_S), MI c τ → j ≤ 10 → 10 - j < n → ev (m_Md_tick_L36 n c y1 y2 (nI j) τ) (MI c) := by
  intro n
  induction n with
  | zero => intro j τ _ _ h; omega
  | succ n ih =>
    intro j τ h hj hn
    unfold m_Md_tick_L36
    obtain ⟨hs, np, nw, nk, nt, nl, nf, re, a1, a2, a3, a4, a5, a6, a7, a8, a9, a10, a11, a12, a13, a14, a15, a16, a17, a18⟩ := id h
    have hnw := a2.1
    refine ev_bs ((mI hs).trans (congrArg some a2.2)) ?_
    refine ev_if (fun _ => ev_some h) (fun z => ?_)
    rw [nI_leI (by omega) (by omega)] at z
    have hw : ∃ n, gI τ 7 c = nI n ∧ n ≤ 10 ∧ j < n := ⟨nw, a2.2, a2.1, by omega⟩
    have go : ∀ τ' : fr_S, MI c τ' → (∃ n, gI τ' 7 c = nI n ∧ n ≤ 10 ∧ j < n) → ev ((oP τ' 0 25 c).bind fun q30 => (oV τ' 0 q30 (nI j)).bind fun v31 => if v31 = 1 then (oK τ' 0 c).bind fun _ => (m_Md_turn c (nI j) τ').bind fun σ_34 => m_Md_tick_L36 n c y1 y2 (nI j + 1) σ_34 else m_Md_tick_L36 n c y1 y2 (nI j + 1) τ') (MI c) := by
      intro τ' h' hw'
      refine ev_bs (mP25 h'.1) ?_
      refine ev_bs (mV17 h'.1 (by omega)) ?_
      refine ev_if (fun hb => ?_) (fun _ => ?_)
      · refine ev_bs (mK h'.1) ?_
        refine ev_b (md_turn h' hw' hb) (fun τ2 h2 => ?_)
        rw [nI_1]
        exact ih (j + 1) τ2 h2 (by omega) (by omega)
      · rw [nI_1]
        exact ih (j + 1) τ' h' (by omega) (by omega)
    refine ev_bs (mP25 hs) ?_
    refine ev_bs (mV17 hs (by omega)) ?_
    refine ev_if (fun h2 => ?_) (fun _ => go τ h hw)
    refine ev_bs (mP29 hs) ?_
    refine ev_bs (mV21 hs (by omega)) ?_
    refine ev_bs (mI hs) ?_
    refine ev_if (fun _ => go τ h hw) (fun _ => ?_)
    refine ev_bs (mP25 hs) ?_
    refine ev_bs (mS17 hs (by omega)) ?_
    refine go _ ⟨hs, np, nw, nk, nt, nl, nf, re, (by simpa [gV_pI, gV_pAx, gI_pA, gI_pIx] using a1), (by simpa [gV_pI, gV_pAx, gI_pA, gI_pIx] using a2), (by simpa [gV_pI, gV_pAx, gI_pA, gI_pIx] using a3), (by simpa [gV_pI, gV_pAx, gI_pA, gI_pIx] using a4), (by simpa [gV_pI, gV_pAx, gI_pA, gI_pIx] using a5), (by simpa [gV_pI, gV_pAx, gI_pA, gI_pIx] using a6), (by simpa [gV_pI, gV_pAx, gI_pA, gI_pIx] using a7), (by simpa [gV_pI, gV_pAx, gI_pA, gI_pIx] using a8), (by simpa [gV_pI, gV_pAx, gI_pA, gI_pIx] using a9), (by simpa [gV_pI, gV_pAx, gI_pA, gI_pIx] using a10), (by simpa [gV_pI, gV_pAx, gI_pA, gI_pIx] using a11), (by simpa [gV_pAx] using I_ws_wake a12 h2), (by simpa [gV_pI, gV_pAx, gI_pA, gI_pIx] using a13), (by simpa [gV_pI, gV_pAx, gI_pA, gI_pIx] using a14), (by simpa [gV_pI, gV_pAx, gI_pA, gI_pIx] using a15), (by simpa [gV_pAx] using I_to_wait (v := 1) a16 (Or.inr h2)), (by simpa [gV_pI, gV_pAx, gI_pA, gI_pIx] using a17), (by simpa [gV_pI, gV_pAx, gI_pA, gI_pIx] using a18)⟩ hw
theorem md_tick_cnt {c : Nat} {τ : fr_S} (h : MI c τ) : ∀ (n j : Nat) (y2 : Int32), j ≤ 10 → 10 - j < n → ev (m_Md_tick_L105 n c y2 (nI j) τ) (fun q => MI c q.2) := by
  obtain ⟨hs, np, nw, nk, nt, nl, nf, re, a1, a2, a3, a4, a5, a6, a7, a8, a9, a10, a11, a12, a13, a14, a15, a16, a17, a18⟩ := id h
  have hnw := a2.1
  intro n
  induction n with
  | zero => intro j y2 _ h; omega
  | succ n ih =>
    intro j y2 hj hn
    unfold m_Md_tick_L105
    refine ev_bs ((mI hs).trans (congrArg some a2.2)) ?_
    refine ev_if (fun _ => ev_some h) (fun z => ?_)
    rw [nI_leI (by omega) (by omega)] at z
    refine ev_bs (mP25 hs) ?_
    refine ev_bs (mV17 hs (by omega)) ?_
    refine ev_if (fun _ => ?_) (fun _ => ?_)
    · rw [nI_1]
      exact ih (j + 1) _ (by omega) (by omega)
    · refine ev_bs (mP25 hs) ?_
      refine ev_bs (mV17 hs (by omega)) ?_
      refine ev_if (fun _ => ?_) (fun _ => ?_)
      · rw [nI_1]
        exact ih (j + 1) _ (by omega) (by omega)
      · rw [nI_1]
        exact ih (j + 1) _ (by omega) (by omega)
theorem md_tick_out {c q : Nat} (hq : q ≤ 50) : ∀ (n k : Nat) (τ : fr_S), MI c τ → k ≤ q → q - k < n → ev (m_Md_tick_L19 n c (nI q) (nI k) τ) (fun q => MI c q.2) := by
  intro n
  induction n with
  | zero => intro k τ _ _ h; omega
  | succ n ih =>
    intro k τ h hk hn
    unfold m_Md_tick_L19
    refine ev_if (fun _ => ?_) (fun z => ?_)
    · have key := md_tick_cnt h 1000 0 0 (by omega) (by omega)
      rw [nI_0] at key
      exact key
    · rw [nI_leI (by omega) (by omega)] at z
      refine ev_bs (mI h.1) ?_
      refine ev_bs (mSI h.1) ?_
      have key := md_tick_in (nI q) (nI k) 1000 0 _ (MI_pI (f := 2) (v := gI τ 2 c + 1) h (by decide)) (by omega) (by omega)
      rw [nI_0] at key
      refine ev_b key (fun τ' h' => ?_)
      rw [nI_1]
      exact ih (k + 1) τ' h' (by omega) (by omega)
theorem md_tick {c : Nat} {τ : fr_S} (h : MI c τ) (x1 : Int32) : ev (m_Md_tick c x1 τ) (fun q => MI c q.2) := by
  unfold m_Md_tick
  refine ev_bs (mSI h.1) ?_
  have h := M_code (v := 0) h
  generalize pI τ 1 c 0 = τ at h ⊢
  refine ev_if (fun _ => ev_some h) (fun h0 => ?_)
  refine ev_if (fun h50 => ?_) (fun _ => ev_some h)
  obtain ⟨q, -, hq, rfl⟩ := nI_rng (x := x1) (lo := 0) (hi := 50) (by rw [nI_0]; exact h0) (by rw [← nI_lit50]; exact h50) (by decide) (by decide)
  have key := md_tick_out (c := c) hq 1000 0 τ h (by omega) (by omega)
  rw [nI_0] at key
  exact key
theorem md_about {c : Nat} {τ : fr_S} (h : MI c τ) (x1 x2 : Int32) : ev (m_Md_about c x1 x2 τ) (fun q => MI c q.2) := by
  unfold m_Md_about
  refine ev_bs (mSI h.1) ?_
  have h := M_code (v := 0) h
  generalize pI τ 1 c 0 = τ at h ⊢
  obtain ⟨hs, np, nw, nk, nt, nl, nf, re, a1, a2, a3, a4, a5, a6, a7, a8, a9, a10, a11, a12, a13, a14, a15, a16, a17, a18⟩ := id h
  refine ev_bs (mK hs) ?_
  refine ev_b (md_isWant hs a2 x1) (fun r hr => ?_)
  refine ev_if (fun _ => ev_some h) (fun hr0 => ?_)
  rcases hr with hr | ⟨-, w, hw, rfl⟩
  · exact absurd hr.1 hr0
  have hnw := a2.1
  have s0 : ∀ R : Option (Int32 × fr_S), ev R (fun q => MI c q.2) → ev R (fun q => MI c q.2) := fun _ h => h
  have f25 : ev ((oP τ 0 25 c).bind fun q9 => (oV τ 0 q9 (nI w)).bind fun v10 => some (v10, τ)) (fun q => MI c q.2) := ev_bs (mP25 hs) (ev_bs (mV17 hs (by omega)) (ev_some h))
  have f27 : ev ((oP τ 0 27 c).bind fun q9 => (oV τ 0 q9 (nI w)).bind fun v10 => some (v10, τ)) (fun q => MI c q.2) := ev_bs (mP27 hs) (ev_bs (mV19 hs (by omega)) (ev_some h))
  have f29 : ev ((oP τ 0 25 c).bind fun q21 => (oV τ 0 q21 (nI w)).bind fun v22 => if v22 = 2 then (oP τ 0 29 c).bind fun q24 => (oV τ 0 q24 (nI w)).bind fun v25 => some (v25, τ) else some (-1, τ)) (fun q => MI c q.2) := ev_bs (mP25 hs) (ev_bs (mV17 hs (by omega)) (ev_if (fun _ => ev_bs (mP29 hs) (ev_bs (mV21 hs (by omega)) (ev_some h))) (fun _ => ev_some h)))
  have f30 : ev ((oP τ 0 30 c).bind fun q9 => (oV τ 0 q9 (nI w)).bind fun v10 => some (v10, τ)) (fun q => MI c q.2) := ev_bs (mP30 hs) (ev_bs (mV22 hs (by omega)) (ev_some h))
  have f24 : (gV τ (c + 17) w = 1 ∨ gV τ (c + 17) w = 2) → ev ((oP τ 0 24 c).bind fun q13 => (oP τ 0 26 c).bind fun q14 => (oV τ 0 q14 (nI w)).bind fun v15 => (oV τ 0 q13 ((6 * nI w) + v15)).bind fun v16 => some (v16, τ)) (fun q => MI c q.2) := by
    intro hb
    obtain ⟨⟨s, s1, s2, s3⟩, -⟩ := a12 w (by omega)
    have hs12 : s = 1 ∨ s = 2 := by
      rcases hb with hb | hb
      · exact Or.inl (nI_inj (by omega) (by omega) (s2.symm.trans (hb.trans nI_v1.symm)))
      · exact Or.inr (nI_inj (by omega) (by omega) (s2.symm.trans (hb.trans nI_v2.symm)))
    obtain ⟨-, m, a, m6, m1, m2, m3⟩ := s3 hs12
    refine ev_bs (mP24 hs) ?_
    refine ev_bs (mP26 hs) ?_
    refine ev_bs ((mV18 hs (by omega)).trans (congrArg some m2)) ?_
    rw [nI_6]
    refine ev_bs (mV16 hs (by omega)) ?_
    exact ev_some h
  refine ev_bs (mP25 hs) ?_
  refine ev_bs (mV17 hs (by omega)) ?_
  refine ev_if (fun hb => ?_) (fun _ => ?_)
  · exact ev_if (fun _ => f25) (fun _ => ev_if (fun _ => f24 (Or.inl hb)) (fun _ => ev_if (fun _ => f27) (fun _ => ev_if (fun _ => f29) (fun _ => ev_if (fun _ => f30) (fun _ => ev_some h)))))
  · refine ev_bs (mP25 hs) ?_
    refine ev_bs (mV17 hs (by omega)) ?_
    refine ev_if (fun hb => ?_) (fun _ => ?_)
    · exact ev_if (fun _ => f25) (fun _ => ev_if (fun _ => f24 (Or.inr hb)) (fun _ => ev_if (fun _ => f27) (fun _ => ev_if (fun _ => f29) (fun _ => ev_if (fun _ => f30) (fun _ => ev_some h)))))
    · exact ev_if (fun _ => f25) (fun _ => ev_if (fun _ => ev_some h) (fun _ => ev_if (fun _ => f27) (fun _ => ev_if (fun _ => f29) (fun _ => ev_if (fun _ => f30) (fun _ => ev_some h)))))
theorem md_file {c : Nat} {τ : fr_S} (h : MI c τ) (x1 x2 : Int32) : ev (m_Md_file c x1 x2 τ) (fun q => MI c q.2) := by
  unfold m_Md_file
  refine ev_bs (mSI h.1) ?_
  have h := M_code (v := 0) h
  generalize pI τ 1 c 0 = τ at h ⊢
  obtain ⟨hs, np, nw, nk, nt, nl, nf, re, a1, a2, a3, a4, a5, a6, a7, a8, a9, a10, a11, a12, a13, a14, a15, a16, a17, a18⟩ := id h
  have hnf := a6.1
  refine ev_if (fun _ => ev_some h) (fun h1 => ?_)
  refine ev_bs ((mI hs).trans (congrArg some a6.2)) ?_
  refine ev_if (fun h2 => ?_) (fun _ => ev_some h)
  obtain ⟨i, hi, rfl⟩ := nI_get (x := x1) (n := nf) (by omega) h1 (Int32.not_le.mpr h2)
  refine ev_if (fun _ => ?_) (fun _ => ?_)
  · exact ev_bs (mP40 hs) (ev_bs (mV31 hs (by omega)) (ev_some h))
  refine ev_if (fun _ => ?_) (fun _ => ?_)
  · exact ev_bs (mP41 hs) (ev_bs (mV32 hs (by omega)) (ev_some h))
  refine ev_if (fun _ => ?_) (fun _ => ?_)
  · exact ev_bs (mP42 hs) (ev_bs (mV33 hs (by omega)) (ev_some h))
  refine ev_if (fun _ => ?_) (fun _ => ev_some h)
  exact ev_bs (mP43 hs) (ev_bs (mV34 hs (by omega)) (ev_some h))
