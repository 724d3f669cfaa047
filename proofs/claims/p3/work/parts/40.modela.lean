/-- what a want that fetches has -/
theorem busy_get {c w nw re np : Nat} {τ : fr_S} (a12 : I_ws nw re (gV τ (c + 15)) (gV τ (c + 17)) (gV τ (c + 18)) (gV τ (c + 19)) (gV τ (c + 23))) (a11 : I_wp np (gV τ (c + 15)) (gV τ (c + 16))) (hw : w < 10) (hb : gV τ (c + 17) w = 1) : ∃ m a p, m ≤ 6 ∧ gV τ (c + 15) w = nI m ∧ gV τ (c + 18) w = nI a ∧ a < m ∧ p < np ∧ gV τ (c + 16) (6 * w + a) = nI p := by
  obtain ⟨⟨s, s1, s2, s3⟩, -⟩ := a12 w hw
  have hs1 : s = 1 := nI_inj (by omega) (by omega) (s2.symm.trans (hb.trans nI_v1.symm))
  obtain ⟨-, m, a, m6, m1, m2, m3⟩ := s3 (Or.inl hs1)
  obtain ⟨m', g1, g2, g3⟩ := a11 w hw
  have hmm : m = m' := nI_inj (by omega) (by omega) (m1.symm.trans g2)
  subst hmm
  obtain ⟨p, p1, p2⟩ := g3 a m3
  exact ⟨m, a, p, m6, m1, m2, m3, p1, p2⟩
theorem I_ws_wait {nw re w f : Nat} {pm st at_ ha fa : Nat → Int32} (h : I_ws nw re pm st at_ ha fa) (hb : st w = 1) (hf : f ≤ re) : I_ws nw re pm (upd st w 2) at_ ha (upd fa w (nI f)) := by
  intro j hj
  obtain ⟨⟨s, g1, g2, g3⟩, g4, g5⟩ := h j hj
  by_cases hjw : j = w
  · subst hjw
    have hs1 : s = 1 := nI_inj (by omega) (by omega) (g2.symm.trans (hb.trans nI_v1.symm))
    exact ⟨⟨2, by decide, upd_s.trans nI_v2.symm, fun _ => g3 (Or.inl hs1)⟩, g4, ⟨f, hf, upd_s⟩⟩
  · exact ⟨⟨s, g1, by rw [upd_n hjw]; exact g2, g3⟩, g4, by rw [upd_n hjw]; exact g5⟩
theorem I_to_wait {np nw nt w : Nat} {ba pm po st at_ tw tp : Nat → Int32} {v : Int32} (h : I_to np nw nt ba pm po st at_ tw tp) (hb : st w = 1 ∨ st w = 2) : I_to np nw nt ba pm po (upd st w v) at_ tw tp := by
  refine ⟨fun i hi => ?_, h.2⟩
  obtain ⟨w', k', m', q, g1, g2, g3, g4, g5, g6, g7, g8, g9, g10⟩ := h.1 i hi
  refine ⟨w', k', m', q, g1, g2, g3, g4, g5, g6, g7, g8, g9, fun hb' a ha hal => ?_⟩
  by_cases hww : w' = w
  · subst hww
    exact g10 hb a ha hal
  · rw [upd_n hww] at hb'
    exact g10 hb' a ha hal
theorem md_falter {c w : Nat} {τ : fr_S} (h : MI c τ) (hw : ∃ n, gI τ 7 c = nI n ∧ n ≤ 10 ∧ w < n) (hb : gV τ (c + 17) w = 1) : ev (m_Md_falter c (nI w) τ) (MI c) := by
  unfold m_Md_falter
  obtain ⟨hs, np, nw, nk, nt, nl, nf, re, a1, a2, a3, a4, a5, a6, a7, a8, a9, a10, a11, a12, a13, a14, a15, a16, a17, a18⟩ := id h
  obtain ⟨n0, w1, w2, w3⟩ := id hw
  obtain ⟨m, a, p, m6, m1, m2, m3, p1, p2⟩ := busy_get a12 a11 (w := w) (by omega) hb
  obtain ⟨-, -, f, f1, f2⟩ := a12 w (by omega)
  have hre := a7.1
  refine ev_bs (mP31 hs) ?_
  refine ev_bs ((mV23 hs (by omega)).trans (congrArg some f2)) ?_
  refine ev_bs ((mI hs).trans (congrArg some a7.2)) ?_
  refine ev_if (fun _ => ?_) (fun hne => ?_)
  · refine ev_bs (mP26 hs) ?_
    refine ev_bs ((mV18 hs (by omega)).trans (congrArg some m2)) ?_
    refine ev_bs (mK hs) ?_
    rw [nI_1]
    refine ev_b (md_goOn (f := a + 1) (MI_4 (w := w) h) hw (by omega)) (fun τ' h' => ?_)
    exact ev_some h'
  · have hfr : f < re := by
      have h9 : ¬ f = re := fun z => hne (by rw [z])
      omega
    refine ev_bs (mP25 hs) ?_
    refine ev_bs (mS17 hs (by omega)) ?_
    refine ev_bs (mP29 hs) ?_
    refine ev_bs (mI hs) ?_
    refine ev_bs (mP31 hs) ?_
    have f2' : gV (pA τ (c + 17) (upd (gV τ (c + 17)) w 2)) (c + 23) w = nI f := by simpa [gV_pAx] using f2
    refine ev_bs (Eq.trans (mV23 hs (by omega)) (congrArg some f2')) ?_
    refine ev_bs (mS21 hs (by omega)) ?_
    refine ev_bs (mP31 hs) ?_
    refine ev_bs (Eq.trans (mV23 hs (by omega)) (congrArg some (show _ = nI f by simpa [gV_pAx] using f2))) ?_
    refine ev_bs (mS23 hs (by omega)) ?_
    rw [nI_1]
    exact ev_some ⟨hs, np, nw, nk, nt, nl, nf, re, (by simpa [gV_pI, gV_pAx, gI_pA, gI_pIx] using a1), (by simpa [gV_pI, gV_pAx, gI_pA, gI_pIx] using a2), (by simpa [gV_pI, gV_pAx, gI_pA, gI_pIx] using a3), (by simpa [gV_pI, gV_pAx, gI_pA, gI_pIx] using a4), (by simpa [gV_pI, gV_pAx, gI_pA, gI_pIx] using a5), (by simpa [gV_pI, gV_pAx, gI_pA, gI_pIx] using a6), (by simpa [gV_pI, gV_pAx, gI_pA, gI_pIx] using a7), (by simpa [gV_pI, gV_pAx, gI_pA, gI_pIx] using a8), (by simpa [gV_pI, gV_pAx, gI_pA, gI_pIx] using a9), (by simpa [gV_pI, gV_pAx, gI_pA, gI_pIx] using a10), (by simpa [gV_pI, gV_pAx, gI_pA, gI_pIx] using a11), (by simpa [gV_pAx] using I_ws_wait (f := f + 1) a12 hb (by omega)), (by simpa [gV_pI, gV_pAx, gI_pA, gI_pIx] using a13), (by simpa [gV_pI, gV_pAx, gI_pA, gI_pIx] using a14), (by simpa [gV_pI, gV_pAx, gI_pA, gI_pIx] using a15), (by simpa [gV_pAx] using I_to_wait (v := 2) a16 (Or.inl hb)), (by simpa [gV_pI, gV_pAx, gI_pA, gI_pIx] using a17), (by simpa [gV_pI, gV_pAx, gI_pA, gI_pIx] using a18)⟩
theorem I_to_tell {np nw nt w m a p : Nat} {ba pm po st at_ tw tp : Nat → Int32} (h : I_to np nw nt ba pm po st at_ tw tp) (hw : w < nw) (hnw : nw ≤ 10) (hnp : np ≤ 16) (hb : st w = 1) (hm6 : m ≤ 6) (hm : pm w = nI m) (hat : at_ w = nI a) (ham : a < m) (hp : p < np) (hpo : po (6 * w + a) = nI p) : I_to np nw (nt + 1) (upd ba p 1) pm po (upd st w 4) at_ (upd tw nt (nI w)) (upd tp nt (nI p)) := by
  refine ⟨fun i hi => ?_, fun i i' hii hi' => ?_⟩
  · by_cases hin : i = nt
    · subst hin
      refine ⟨w, a, m, p, hw, hm6, hm, ham, hp, hpo, upd_s, upd_s, upd_s, fun hb' => ?_⟩
      rw [upd_s] at hb'
      exact absurd hb' (by decide)
    · obtain ⟨w', k', m', q, g1, g2, g3, g4, g5, g6, g7, g8, g9, g10⟩ := h.1 i (by omega)
      refine ⟨w', k', m', q, g1, g2, g3, g4, g5, g6, by rw [upd_n hin]; exact g7, by rw [upd_n hin]; exact g8, ?_, fun hb' b hb2 hbl => ?_⟩
      · by_cases hqp : q = p
        · rw [hqp, upd_s]
        · rw [upd_n hqp]; exact g9
      · by_cases hww : w' = w
        · rw [hww, upd_s] at hb'
          exact absurd hb' (by decide)
        · rw [upd_n hww] at hb'
          exact g10 hb' b hb2 hbl
  · rw [upd_n (show i ≠ nt by omega), upd_n (show i ≠ nt by omega)]
    by_cases hin : i' = nt
    · subst hin
      rw [upd_s, upd_s]
      rintro ⟨e1, e2⟩
      obtain ⟨w', k', m', q, g1, g2, g3, g4, g5, g6, g7, g8, g9, g10⟩ := h.1 i hii
      have hww : w' = w := nI_inj (by omega) (by omega) (g7.symm.trans e1)
      subst hww
      have hmm : m' = m := nI_inj (by omega) (by omega) (g3.symm.trans hm)
      subst hmm
      exact g10 (Or.inl hb) a hat ham (by rw [hpo, ← e2, g8])
    · rw [upd_n hin, upd_n hin]
      exact h.2 i i' hii (by omega)
theorem md_judge_L {c w : Nat} {τ : fr_S} (h : MI c τ) (hw : ∃ n, gI τ 7 c = nI n ∧ n ≤ 10 ∧ w < n) (hb : gV τ (c + 17) w = 1) : ∀ (z : Nat), gV τ (c + 19) w = nI z → z ≤ 100 → ∀ (n k : Nat) (s : Int32), k ≤ z → z - k < n → ev (m_Md_judge_L4 n c (nI w) s (nI k) τ) (MI c) := by
  obtain ⟨hs, np, nw, nk, nt, nl, nf, re, a1, a2, a3, a4, a5, a6, a7, a8, a9, a10, a11, a12, a13, a14, a15, a16, a17, a18⟩ := id h
  obtain ⟨n0, w1, w2, w3⟩ := id hw
  have hn0 : n0 = nw := nI_inj (by omega) (by have := a2.1; omega) (w1.symm.trans a2.2)
  subst hn0
  obtain ⟨m, a, p, m6, m1, m2, m3, p1, p2⟩ := busy_get a12 a11 (w := w) (by omega) hb
  have hnt := I_to_le a16 a2.1
  have hnp := a1.1
  intro z hz hz1 n
  induction n with
  | zero => intro k s _ hn; omega
  | succ n ih =>
    intro k s hk hn
    unfold m_Md_judge_L4
    refine ev_bs (mP27 hs) ?_
    refine ev_bs ((mV19 hs (by omega)).trans (congrArg some hz)) ?_
    refine ev_if (fun zz => ?_) (fun zz => ?_)
    · refine ev_bs (mP22 hs) ?_
      refine ev_bs (mV14 hs (by omega)) ?_
      refine ev_if (fun _ => ?_) (fun _ => ?_)
      · refine ev_bs (mK hs) ?_
        refine ev_b (md_keep h hw) (fun τ' h' => ev_some h')
      · refine ev_bs (mP24 hs) ?_
        refine ev_bs (mP26 hs) ?_
        refine ev_bs ((mV18 hs (by omega)).trans (congrArg some m2)) ?_
        rw [nI_6]
        refine ev_bs ((mV16 hs (by omega)).trans (congrArg some p2)) ?_
        refine ev_bs (mP21 hs) ?_
        refine ev_bs (mS13 hs (by omega)) ?_
        rw [nar1]
        refine ev_bs (mP35 hs) ?_
        refine ev_bs (Eq.trans (mI hs) (congrArg some (show _ = nI nt from a4))) ?_
        refine ev_bs (mS27 hs (by omega)) ?_
        refine ev_bs (mP36 hs) ?_
        refine ev_bs (Eq.trans (mI hs) (congrArg some (show _ = nI nt from a4))) ?_
        refine ev_bs (mS28 hs (by omega)) ?_
        refine ev_bs (mP37 hs) ?_
        refine ev_bs (Eq.trans (mI hs) (congrArg some (show _ = nI nt from a4))) ?_
        refine ev_bs (mS29 hs (by omega)) ?_
        refine ev_bs (Eq.trans (mI hs) (congrArg some (show _ = nI nt from a4))) ?_
        refine ev_bs (mSI hs) ?_
        refine ev_bs (mP26 hs) ?_
        refine ev_bs (Eq.trans (mV18 hs (by omega)) (congrArg some (show _ = nI a by simpa [gV_pI, gV_pAx] using m2))) ?_
        refine ev_bs (mK hs) ?_
        rw [nI_1, nI_1]
        refine ev_b (md_goOn (w := w) (f := a + 1) ?_ (by refine ⟨n0, ?_, w2, w3⟩; simpa [gI_pIx, gI_pA] using w1) (by omega)) (fun τ' h' => ev_some h')
        exact ⟨hs, np, n0, nk, nt + 1, nl, nf, re, (by simpa [gV_pI, gV_pAx, gI_pA, gI_pIx] using a1), (by simpa [gV_pI, gV_pAx, gI_pA, gI_pIx] using a2), (by simpa [gV_pI, gV_pAx, gI_pA, gI_pIx] using a3), (by simp [gI_pIx, gI_pA]), (by simpa [gV_pI, gV_pAx, gI_pA, gI_pIx] using a5), (by simpa [gV_pI, gV_pAx, gI_pA, gI_pIx] using a6), (by simpa [gV_pI, gV_pAx, gI_pA, gI_pIx] using a7), (by simpa [gV_pI, gV_pAx, gI_pA, gI_pIx] using a8), (by simpa [gV_pI, gV_pAx, gI_pA, gI_pIx] using a9), (by simpa [gV_pI, gV_pAx, gI_pA, gI_pIx] using a10), (by simpa [gV_pI, gV_pAx, gI_pA, gI_pIx] using a11), (by simpa [gV_pI, gV_pAx] using I_ws_4 (w := w) a12), (by simpa [gV_pI, gV_pAx, gI_pA, gI_pIx] using a13), (by simpa [gV_pI, gV_pAx, gI_pA, gI_pIx] using a14), (by simpa [gV_pI, gV_pAx, gI_pA, gI_pIx] using a15), (by simpa [gV_pI, gV_pAx] using I_to_tell a16 w3 w2 a1.1 hb m6 m1 m2 m3 p1 p2), (by simpa [gV_pI, gV_pAx, gI_pA, gI_pIx] using a17), (by simpa [gV_pI, gV_pAx, gI_pA, gI_pIx] using a18)⟩
    · rw [nI_leI (by omega) (by omega)] at zz
      refine ev_bs (mP28 hs) ?_
      rw [nI_100]
      refine ev_bs (mV20 hs (by omega)) ?_
      refine ev_bs rfl ?_
      rw [nI_1]
      exact ih (k + 1) _ (by omega) (by omega)
theorem md_judge {c w : Nat} {τ : fr_S} (h : MI c τ) (hw : ∃ n, gI τ 7 c = nI n ∧ n ≤ 10 ∧ w < n) (hb : gV τ (c + 17) w = 1) : ev (m_Md_judge c (nI w) τ) (MI c) := by
  unfold m_Md_judge
  obtain ⟨hs, np, nw, nk, nt, nl, nf, re, a1, a2, a3, a4, a5, a6, a7, a8, a9, a10, a11, a12, a13, a14, a15, a16, a17, a18⟩ := id h
  obtain ⟨n0, w1, w2, w3⟩ := id hw
  obtain ⟨-, ⟨z, z1, z2⟩, -⟩ := a12 w (by omega)
  have key := md_judge_L h hw hb z z2 z1 1000 0 0 (by omega) (by omega)
  rw [nI_0] at key
  exact key
