/-! from: a want's places -/
theorem I_wp_add {np j m p : Nat} {pm po : Nat → Int32} (h : I_wp np pm po) (hm : pm j = nI m) (hm6 : m < 6) (hp : p < np) : I_wp np (upd pm j (nI (m + 1))) (upd po (6 * j + m) (nI p)) := by
  intro i hi
  obtain ⟨m', g1, g2, g3⟩ := h i hi
  by_cases hij : i = j
  · subst hij
    have hmm : m' = m := nI_inj (by omega) (by omega) (g2.symm.trans hm)
    subst hmm
    refine ⟨m' + 1, by omega, upd_s, fun k hk => ?_⟩
    by_cases hkm : k = m'
    · subst hkm
      exact ⟨p, hp, upd_s⟩
    · rw [upd_n (show 6 * i + k ≠ 6 * i + m' by omega)]
      exact g3 k (by omega)
  · refine ⟨m', g1, by rw [upd_n hij]; exact g2, fun k hk => ?_⟩
    rw [upd_n (show 6 * i + k ≠ 6 * j + m by omega)]
    exact g3 k hk
theorem I_ws_pm {nw re j : Nat} {pm st at_ ha fa : Nat → Int32} {v : Int32} (h : I_ws nw re pm st at_ ha fa) (hst : st j = 0) : I_ws nw re (upd pm j v) st at_ ha fa := by
  intro i hi
  obtain ⟨⟨s, g1, g2, g3⟩, g4⟩ := h i hi
  refine ⟨⟨s, g1, g2, fun hb => ?_⟩, g4⟩
  by_cases hij : i = j
  · subst hij
    have hs0 : s = 0 := nI_inj (by omega) (by omega) (g2.symm.trans (hst.trans nI_0.symm))
    omega
  · rw [upd_n hij]
    exact g3 hb
theorem I_to_from {np nw nt j m p : Nat} {ba pm po st at_ tw tp : Nat → Int32} (h : I_to np nw nt ba pm po st at_ tw tp) (hm : pm j = nI m) (hm6 : m < 6) (hst : st j = 0) : I_to np nw nt ba (upd pm j (nI (m + 1))) (upd po (6 * j + m) (nI p)) st at_ tw tp := by
  refine ⟨fun i hi => ?_, h.2⟩
  obtain ⟨w, k, m', q, g1, g2, g3, g4, g5, g6, g7, g8, g9, g10⟩ := h.1 i hi
  by_cases hwj : w = j
  · subst hwj
    have hmm : m' = m := nI_inj (by omega) (by omega) (g3.symm.trans hm)
    subst hmm
    refine ⟨w, k, m' + 1, q, g1, by omega, upd_s, by omega, g5, ?_, g7, g8, g9, fun hb => ?_⟩
    · rw [upd_n (show 6 * w + k ≠ 6 * w + m' by omega)]
      exact g6
    · rw [hst] at hb
      exact absurd hb (by decide)
  · refine ⟨w, k, m', q, g1, g2, by rw [upd_n hwj]; exact g3, g4, g5, ?_, g7, g8, g9, fun hb a ha hal => ?_⟩
    · rw [upd_n (show 6 * w + k ≠ 6 * j + m by omega)]
      exact g6
    · rw [upd_n (show 6 * w + a ≠ 6 * j + m by omega)]
      exact g10 hb a ha hal
theorem md_from_L {c j p m : Nat} {τ : fr_S} (h : MI c τ) (hj : j < 10) (hst : gV τ (c + 17) j = 0) (hm : gV τ (c + 15) j = nI m) (hm6 : m < 6) (hp : ∃ n, gI τ 6 c = nI n ∧ n ≤ 16 ∧ p < n) : ∀ (n k : Nat), k ≤ m → m - k < n → ev (m_Md_from_L45 n c (nI j) (nI p) (nI k) τ) (fun q => MI c q.2) := by
  obtain ⟨hs, np, nw, nk, nt, nl, nf, re, a1, a2, a3, a4, a5, a6, a7, a8, a9, a10, a11, a12, a13, a14, a15, a16, a17, a18⟩ := id h
  obtain ⟨n0, p1, p2, p3⟩ := hp
  have hn0 : n0 = np := nI_inj (by omega) (by have := a1.1; omega) (p1.symm.trans a1.2)
  subst hn0
  intro n
  induction n with
  | zero => intro k _ hn; omega
  | succ n ih =>
    intro k hk hn
    unfold m_Md_from_L45
    refine ev_bs (mP23 hs) ?_
    refine ev_bs ((mV15 hs hj).trans (congrArg some hm)) ?_
    refine ev_if (fun z => ?_) (fun z => ?_)
    · refine ev_bs (mP24 hs) ?_
      refine ev_bs (mP23 hs) ?_
      refine ev_bs ((mV15 hs hj).trans (congrArg some hm)) ?_
      rw [nI_6]
      refine ev_bs (mS16 hs (by omega)) ?_
      refine ev_bs (mP23 hs) ?_
      have hm2 : gV (pA τ (c + 16) (upd (gV τ (c + 16)) (6 * j + m) (nI p))) (c + 15) j = nI m := by simpa [gV_pAx] using hm
      refine ev_bs (Eq.trans (mV15 hs hj) (congrArg some hm2)) ?_
      refine ev_bs (mS15 hs hj) ?_
      rw [nI_1]
      refine ev_some ⟨hs, n0, nw, nk, nt, nl, nf, re, (by simpa [gV_pI, gV_pAx, gI_pA, gI_pIx] using a1), (by simpa [gV_pI, gV_pAx, gI_pA, gI_pIx] using a2), (by simpa [gV_pI, gV_pAx, gI_pA, gI_pIx] using a3), (by simpa [gV_pI, gV_pAx, gI_pA, gI_pIx] using a4), (by simpa [gV_pI, gV_pAx, gI_pA, gI_pIx] using a5), (by simpa [gV_pI, gV_pAx, gI_pA, gI_pIx] using a6), (by simpa [gV_pI, gV_pAx, gI_pA, gI_pIx] using a7), (by simpa [gV_pI, gV_pAx, gI_pA, gI_pIx] using a8), (by simpa [gV_pI, gV_pAx, gI_pA, gI_pIx] using a9), (by simpa [gV_pI, gV_pAx, gI_pA, gI_pIx] using a10), (by simpa [gV_pAx] using I_wp_add a11 hm hm6 p3), (by simpa [gV_pAx] using I_ws_pm (v := nI (m + 1)) a12 hst), (by simpa [gV_pI, gV_pAx, gI_pA, gI_pIx] using a13), (by simpa [gV_pI, gV_pAx, gI_pA, gI_pIx] using a14), (by simpa [gV_pI, gV_pAx, gI_pA, gI_pIx] using a15), (by simpa [gV_pAx] using I_to_from (p := p) a16 hm hm6 hst), (by simpa [gV_pI, gV_pAx, gI_pA, gI_pIx] using a17), (by simpa [gV_pI, gV_pAx, gI_pA, gI_pIx] using a18)⟩
    · rw [nI_leI (by omega) (by omega)] at z
      refine ev_bs (mP24 hs) ?_
      rw [nI_6]
      refine ev_bs (mV16 hs (by omega)) ?_
      refine ev_if (fun _ => ev_some h) (fun _ => ?_)
      rw [nI_1]
      exact ih (k + 1) (by omega) (by omega)
theorem md_from {c : Nat} {τ : fr_S} (h : MI c τ) (x1 x2 : Int32) : ev (m_Md_from c x1 x2 τ) (fun q => MI c q.2) := by
  unfold m_Md_from
  refine ev_bs (mSI h.1) ?_
  have h := M_code (v := 0) h
  generalize pI τ 1 c 0 = τ at h ⊢
  obtain ⟨hs, np, nw, nk, nt, nl, nf, re, a1, a2, a3, a4, a5, a6, a7, a8, a9, a10, a11, a12, a13, a14, a15, a16, a17, a18⟩ := id h
  refine ev_bs (mK hs) ?_
  refine ev_b (md_isWant hs a2 x1) (fun r hr => ?_)
  refine ev_if (fun _ => ev_some h) (fun hr0 => ?_)
  rcases hr with hr | ⟨-, j, hj, rfl⟩
  · exact absurd hr.1 hr0
  refine ev_bs (mK hs) ?_
  refine ev_b (md_isPlace hs a1 x2) (fun r hr => ?_)
  refine ev_if (fun _ => ev_some h) (fun hr0 => ?_)
  rcases hr with hr | ⟨-, p, hp, rfl⟩
  · exact absurd hr.1 hr0
  have hnp := a1.1
  have hnw := a2.1
  refine ev_bs (mP25 hs) ?_
  refine ev_bs (mV17 hs (by omega)) ?_
  refine ev_if (fun hst => ?_) (fun _ => ev_some h)
  obtain ⟨m, g1, g2, g3⟩ := a11 j (by omega)
  refine ev_bs (mP23 hs) ?_
  refine ev_bs ((mV15 hs (by omega)).trans (congrArg some g2)) ?_
  refine ev_if (fun _ => ev_some h) (fun h6 => ?_)
  have hm6 : m < 6 := by
    have h9 : ¬ m = 6 := fun z => h6 (by rw [z]; exact nI_lit6.symm)
    omega
  have key := md_from_L (p := p) h (by omega) hst g2 hm6 ⟨np, a1.2, a1.1, hp⟩ 1000 0 (by omega) (by omega)
  rw [nI_0] at key
  exact key
theorem md_byteOf {c : Nat} {τ : fr_S} (h : MI c τ) (x1 x2 : Int32) : ev (m_Md_byteOf c x1 x2 τ) (fun q => MI c q.2) := by
  unfold m_Md_byteOf
  refine ev_bs (mSI h.1) ?_
  have h := M_code (v := 0) h
  generalize pI τ 1 c 0 = τ at h ⊢
  obtain ⟨hs, np, nw, nk, nt, nl, nf, re, a1, a2, a3, a4, a5, a6, a7, a8, a9, a10, a11, a12, a13, a14, a15, a16, a17, a18⟩ := id h
  refine ev_bs (mK hs) ?_
  refine ev_b (md_isWant hs a2 x1) (fun r hr => ?_)
  refine ev_if (fun _ => ev_some h) (fun hr0 => ?_)
  rcases hr with hr | ⟨-, j, hj, rfl⟩
  · exact absurd hr.1 hr0
  have hnw := a2.1
  refine ev_if (fun _ => ev_some h) (fun h2 => ?_)
  obtain ⟨-, ⟨n, g1, g2⟩, -⟩ := a12 j (by omega)
  refine ev_bs (mP27 hs) ?_
  refine ev_bs ((mV19 hs (by omega)).trans (congrArg some g2)) ?_
  refine ev_if (fun h3 => ?_) (fun _ => ev_some h)
  obtain ⟨i, hi, rfl⟩ := nI_get (x := x2) (n := n) (by omega) h2 (Int32.not_le.mpr h3)
  refine ev_bs (mP28 hs) ?_
  rw [nI_100]
  refine ev_bs (mV20 hs (by omega)) ?_
  exact ev_some h
