theorem md_tellLack_L {c w : Nat} {τ : fr_S} (h : MI c τ) (hw : ∃ n, gI τ 7 c = nI n ∧ n ≤ 10 ∧ w < n) : ∀ (nl : Nat), gI τ 10 c = nI nl → nl ≤ 10 → ∀ (n k : Nat) (fl : Int32), k ≤ nl → nl - k < n → ((fl = 0 ∧ ∀ j, j < k → gV τ (c + 30) j ≠ nI w) ∨ fl = 1) → ev (m_Md_tellLack_L4 n c (nI w) fl (nI k) τ) (fun q => MI c q) := by
  obtain ⟨hs, np, nw, nk, nt, nl, nf, re, a1, a2, a3, a4, a5, a6, a7, a8, a9, a10, a11, a12, a13, a14, a15, a16, a17, a18⟩ := id h
  obtain ⟨n0, w1, w2, w3⟩ := hw
  have hn0 : n0 = nw := nI_inj (by omega) (by have := a2.1; omega) (w1.symm.trans a2.2)
  subst hn0
  intro nl' hnl' hnl10
  have hnl : nl' = nl := nI_inj (by omega) (by have := I_la_le a17; omega) (hnl'.symm.trans a5)
  subst hnl
  intro n
  induction n with
  | zero => intro k fl _ hn; omega
  | succ n ih =>
    intro k fl hk hn hfl
    unfold m_Md_tellLack_L4
    refine ev_bs ((mI hs).trans (congrArg some a5)) ?_
    refine ev_if (fun z => ?_) (fun z => ?_)
    · rw [nI_leI (by omega) (by omega)] at z
      refine ev_if (fun hf0 => ?_) (fun _ => ev_some h)
      rcases hfl with ⟨-, hne⟩ | hf1
      · have b17 := I_la_add a17 w3 (fun j hj => hne j (by omega))
        have hb := I_la_le b17
        refine ev_bs (mP38 hs) ?_
        refine ev_bs ((mI hs).trans (congrArg some a5)) ?_
        refine ev_bs (mS30 hs (by omega)) ?_
        refine ev_bs (Eq.trans (mI hs) (congrArg some (show gI (pA τ (c + 30) (upd (gV τ (c + 30)) nl' (nI w))) 10 c = nI nl' from a5))) ?_
        refine ev_bs (mSI hs) ?_
        exact ev_some ⟨hs, np, n0, nk, nt, nl' + 1, nf, re, (by simpa [gV_pI, gV_pAx, gI_pA, gI_pIx] using a1), (by simpa [gV_pI, gV_pAx, gI_pA, gI_pIx] using a2), (by simpa [gV_pI, gV_pAx, gI_pA, gI_pIx] using a3), (by simpa [gV_pI, gV_pAx, gI_pA, gI_pIx] using a4), (by simpa [gI_pIx] using nI_1 nl'), (by simpa [gV_pI, gV_pAx, gI_pA, gI_pIx] using a6), (by simpa [gV_pI, gV_pAx, gI_pA, gI_pIx] using a7), (by simpa [gV_pI, gV_pAx, gI_pA, gI_pIx] using a8), (by simpa [gV_pI, gV_pAx, gI_pA, gI_pIx] using a9), (by simpa [gV_pI, gV_pAx, gI_pA, gI_pIx] using a10), (by simpa [gV_pI, gV_pAx, gI_pA, gI_pIx] using a11), (by simpa [gV_pI, gV_pAx, gI_pA, gI_pIx] using a12), (by simpa [gV_pI, gV_pAx, gI_pA, gI_pIx] using a13), (by simpa [gV_pI, gV_pAx, gI_pA, gI_pIx] using a14), (by simpa [gV_pI, gV_pAx, gI_pA, gI_pIx] using a15), (by simpa [gV_pI, gV_pAx, gI_pA, gI_pIx] using a16), (by simpa [gV_pI, gV_pAx] using b17), (by simpa [gV_pI, gV_pAx, gI_pA, gI_pIx] using a18)⟩
      · rw [hf1] at hf0
        exact absurd hf0 (by decide)
    · rw [nI_leI (by omega) (by omega)] at z
      refine ev_if (fun hf0 => ?_) (fun hf0 => ?_)
      · refine ev_bs (mP38 hs) ?_
        refine ev_bs (mV30 hs (by omega)) ?_
        refine ev_if (fun he => ?_) (fun he => ?_)
        · rw [nI_1]
          exact ih (k + 1) 1 (by omega) (by omega) (Or.inr rfl)
        · rw [nI_1]
          refine ih (k + 1) 0 (by omega) (by omega) (Or.inl ⟨rfl, fun j hj => ?_⟩)
          by_cases hjk : j = k
          · subst hjk; exact he
          · rcases hfl with ⟨-, hne⟩ | hf1
            · exact hne j (by omega)
            · rw [hf1] at hf0
              exact absurd hf0 (by decide)
      · rw [nI_1]
        exact ih (k + 1) 1 (by omega) (by omega) (Or.inr rfl)
theorem md_tellLack {c w : Nat} {τ : fr_S} (h : MI c τ) (hw : ∃ n, gI τ 7 c = nI n ∧ n ≤ 10 ∧ w < n) : ev (m_Md_tellLack c (nI w) τ) (fun q => MI c q) := by
  unfold m_Md_tellLack
  obtain ⟨hs, np, nw, nk, nt, nl, nf, re, a1, a2, a3, a4, a5, a6, a7, a8, a9, a10, a11, a12, a13, a14, a15, a16, a17, a18⟩ := id h
  have hb := I_la_le a17
  have hw10 := a2.1
  have key := md_tellLack_L h hw nl a5 (by omega) 1000 0 0 (Nat.zero_le _) (by omega) (Or.inl ⟨rfl, fun j hj => absurd hj (Nat.not_lt_zero j)⟩)
  rw [nI_0] at key
  exact key
theorem I_ws_st {nw re w s' : Nat} {pm st at_ ha fa : Nat → Int32} (h : I_ws nw re pm st at_ ha fa) (hs : s' = 3 ∨ s' = 4 ∨ s' = 0) : I_ws nw re pm (upd st w (nI s')) at_ ha fa := by
  intro j hj
  obtain ⟨⟨s, g1, g2, g3⟩, g4⟩ := h j hj
  by_cases hjw : j = w
  · subst hjw
    have e1 : s' ≤ 4 := by rcases hs with e | e | e <;> rw [e] <;> decide
    have e2 : ¬ (s' = 1 ∨ s' = 2) := by rcases hs with e | e | e <;> rw [e] <;> decide
    exact ⟨⟨s', e1, upd_s, fun hb => absurd hb e2⟩, g4⟩
  · rw [upd_n hjw]
    exact ⟨⟨s, g1, g2, g3⟩, g4⟩
theorem I_to_st {np nw nt w s' : Nat} {ba pm po st at_ tw tp : Nat → Int32} (h : I_to np nw nt ba pm po st at_ tw tp) (hs : s' = 3 ∨ s' = 4 ∨ s' = 0) : I_to np nw nt ba pm po (upd st w (nI s')) at_ tw tp := by
  refine ⟨fun i hi => ?_, h.2⟩
  obtain ⟨w', k', m', q, g1, g2, g3, g4, g5, g6, g7, g8, g9, g10⟩ := h.1 i hi
  refine ⟨w', k', m', q, g1, g2, g3, g4, g5, g6, g7, g8, g9, fun hb a ha hal => ?_⟩
  by_cases hww : w' = w
  · subst hww
    rw [upd_s] at hb
    rcases hs with rfl | rfl | rfl <;> exact absurd hb (by decide)
  · rw [upd_n hww] at hb
    exact g10 hb a ha hal
theorem MI_st {c w s' : Nat} {τ : fr_S} (h : MI c τ) (hs' : s' = 3 ∨ s' = 4 ∨ s' = 0) : MI c (pA τ (c + 17) (upd (gV τ (c + 17)) w (nI s'))) := by
  obtain ⟨hs, np, nw, nk, nt, nl, nf, re, a1, a2, a3, a4, a5, a6, a7, a8, a9, a10, a11, a12, a13, a14, a15, a16, a17, a18⟩ := id h
  exact ⟨hs, np, nw, nk, nt, nl, nf, re, (by simpa [gV_pI, gV_pAx, gI_pA, gI_pIx] using a1), (by simpa [gV_pI, gV_pAx, gI_pA, gI_pIx] using a2), (by simpa [gV_pI, gV_pAx, gI_pA, gI_pIx] using a3), (by simpa [gV_pI, gV_pAx, gI_pA, gI_pIx] using a4), (by simpa [gV_pI, gV_pAx, gI_pA, gI_pIx] using a5), (by simpa [gV_pI, gV_pAx, gI_pA, gI_pIx] using a6), (by simpa [gV_pI, gV_pAx, gI_pA, gI_pIx] using a7), (by simpa [gV_pI, gV_pAx, gI_pA, gI_pIx] using a8), (by simpa [gV_pI, gV_pAx, gI_pA, gI_pIx] using a9), (by simpa [gV_pI, gV_pAx, gI_pA, gI_pIx] using a10), (by simpa [gV_pI, gV_pAx, gI_pA, gI_pIx] using a11), (by simpa [gV_pAx] using I_ws_st (w := w) a12 hs'), (by simpa [gV_pI, gV_pAx, gI_pA, gI_pIx] using a13), (by simpa [gV_pI, gV_pAx, gI_pA, gI_pIx] using a14), (by simpa [gV_pI, gV_pAx, gI_pA, gI_pIx] using a15), (by simpa [gV_pAx] using I_to_st (w := w) a16 hs'), (by simpa [gV_pI, gV_pAx, gI_pA, gI_pIx] using a17), (by simpa [gV_pI, gV_pAx, gI_pA, gI_pIx] using a18)⟩
theorem I_ws_ha {nw re w n : Nat} {pm st at_ ha fa : Nat → Int32} (h : I_ws nw re pm st at_ ha fa) (hn : n ≤ 100) : I_ws nw re pm st at_ (upd ha w (nI n)) fa := by
  intro j hj
  obtain ⟨g1, g2, g3⟩ := h j hj
  by_cases hjw : j = w
  · subst hjw
    exact ⟨g1, ⟨n, hn, upd_s⟩, g3⟩
  · rw [upd_n hjw]
    exact ⟨g1, g2, g3⟩
theorem MI_ha {c w n : Nat} {τ : fr_S} (h : MI c τ) (hn : n ≤ 100) : MI c (pA τ (c + 19) (upd (gV τ (c + 19)) w (nI n))) := by
  obtain ⟨hs, np, nw, nk, nt, nl, nf, re, a1, a2, a3, a4, a5, a6, a7, a8, a9, a10, a11, a12, a13, a14, a15, a16, a17, a18⟩ := id h
  exact ⟨hs, np, nw, nk, nt, nl, nf, re, (by simpa [gV_pI, gV_pAx, gI_pA, gI_pIx] using a1), (by simpa [gV_pI, gV_pAx, gI_pA, gI_pIx] using a2), (by simpa [gV_pI, gV_pAx, gI_pA, gI_pIx] using a3), (by simpa [gV_pI, gV_pAx, gI_pA, gI_pIx] using a4), (by simpa [gV_pI, gV_pAx, gI_pA, gI_pIx] using a5), (by simpa [gV_pI, gV_pAx, gI_pA, gI_pIx] using a6), (by simpa [gV_pI, gV_pAx, gI_pA, gI_pIx] using a7), (by simpa [gV_pI, gV_pAx, gI_pA, gI_pIx] using a8), (by simpa [gV_pI, gV_pAx, gI_pA, gI_pIx] using a9), (by simpa [gV_pI, gV_pAx, gI_pA, gI_pIx] using a10), (by simpa [gV_pI, gV_pAx, gI_pA, gI_pIx] using a11), (by simpa [gV_pAx] using I_ws_ha (w := w) a12 hn), (by simpa [gV_pI, gV_pAx, gI_pA, gI_pIx] using a13), (by simpa [gV_pI, gV_pAx, gI_pA, gI_pIx] using a14), (by simpa [gV_pI, gV_pAx, gI_pA, gI_pIx] using a15), (by simpa [gV_pI, gV_pAx, gI_pA, gI_pIx] using a16), (by simpa [gV_pI, gV_pAx, gI_pA, gI_pIx] using a17), (by simpa [gV_pI, gV_pAx, gI_pA, gI_pIx] using a18)⟩
theorem MI_row {c k x : Nat} {τ : fr_S} (h : MI c τ) (hx : x < 256) : MI c (pA τ (c + 20) (upd (gV τ (c + 20)) k (nI x))) := by
  obtain ⟨hs, np, nw, nk, nt, nl, nf, re, a1, a2, a3, a4, a5, a6, a7, a8, a9, a10, a11, a12, a13, a14, a15, a16, a17, a18⟩ := id h
  exact ⟨hs, np, nw, nk, nt, nl, nf, re, (by simpa [gV_pI, gV_pAx, gI_pA, gI_pIx] using a1), (by simpa [gV_pI, gV_pAx, gI_pA, gI_pIx] using a2), (by simpa [gV_pI, gV_pAx, gI_pA, gI_pIx] using a3), (by simpa [gV_pI, gV_pAx, gI_pA, gI_pIx] using a4), (by simpa [gV_pI, gV_pAx, gI_pA, gI_pIx] using a5), (by simpa [gV_pI, gV_pAx, gI_pA, gI_pIx] using a6), (by simpa [gV_pI, gV_pAx, gI_pA, gI_pIx] using a7), (by simpa [gV_pI, gV_pAx, gI_pA, gI_pIx] using a8), (by simpa [gV_pI, gV_pAx, gI_pA, gI_pIx] using a9), (by simpa [gV_pI, gV_pAx, gI_pA, gI_pIx] using a10), (by simpa [gV_pI, gV_pAx, gI_pA, gI_pIx] using a11), (by simpa [gV_pI, gV_pAx, gI_pA, gI_pIx] using a12), (by simpa [gV_pAx] using I_by_upd (k := k) a13 hx), (by simpa [gV_pI, gV_pAx, gI_pA, gI_pIx] using a14), (by simpa [gV_pI, gV_pAx, gI_pA, gI_pIx] using a15), (by simpa [gV_pI, gV_pAx, gI_pA, gI_pIx] using a16), (by simpa [gV_pI, gV_pAx, gI_pA, gI_pIx] using a17), (by simpa [gV_pI, gV_pAx, gI_pA, gI_pIx] using a18)⟩
theorem MI_krow {c k x : Nat} {τ : fr_S} (h : MI c τ) (hx : x < 256) : MI c (pA τ (c + 26) (upd (gV τ (c + 26)) k (nI x))) := by
  obtain ⟨hs, np, nw, nk, nt, nl, nf, re, a1, a2, a3, a4, a5, a6, a7, a8, a9, a10, a11, a12, a13, a14, a15, a16, a17, a18⟩ := id h
  exact ⟨hs, np, nw, nk, nt, nl, nf, re, (by simpa [gV_pI, gV_pAx, gI_pA, gI_pIx] using a1), (by simpa [gV_pI, gV_pAx, gI_pA, gI_pIx] using a2), (by simpa [gV_pI, gV_pAx, gI_pA, gI_pIx] using a3), (by simpa [gV_pI, gV_pAx, gI_pA, gI_pIx] using a4), (by simpa [gV_pI, gV_pAx, gI_pA, gI_pIx] using a5), (by simpa [gV_pI, gV_pAx, gI_pA, gI_pIx] using a6), (by simpa [gV_pI, gV_pAx, gI_pA, gI_pIx] using a7), (by simpa [gV_pI, gV_pAx, gI_pA, gI_pIx] using a8), (by simpa [gV_pI, gV_pAx, gI_pA, gI_pIx] using a9), (by simpa [gV_pI, gV_pAx, gI_pA, gI_pIx] using a10), (by simpa [gV_pI, gV_pAx, gI_pA, gI_pIx] using a11), (by simpa [gV_pI, gV_pAx, gI_pA, gI_pIx] using a12), (by simpa [gV_pI, gV_pAx, gI_pA, gI_pIx] using a13), (by simpa [gV_pI, gV_pAx, gI_pA, gI_pIx] using a14), (by simpa [gV_pAx] using I_by_upd (k := k) a15 hx), (by simpa [gV_pI, gV_pAx, gI_pA, gI_pIx] using a16), (by simpa [gV_pI, gV_pAx, gI_pA, gI_pIx] using a17), (by simpa [gV_pI, gV_pAx, gI_pA, gI_pIx] using a18)⟩
theorem md_begin_L {c w q : Nat} (hw : w < 10) (hq : q < 10) : ∀ (n k : Nat) (τ : fr_S) (z : Nat), MI c τ → gV τ (c + 19) w = nI z → z ≤ 100 → k ≤ z → z - k < n → ev (m_Md_begin_L65 n c (nI w) (nI q) (nI k) τ) (fun r => MI c r.2) := by
  intro n
  induction n with
  | zero => intro k τ z _ _ _ _ h; omega
  | succ n ih =>
    intro k τ z h hz hz1 hk hn
    unfold m_Md_begin_L65
    have hs := h.1
    refine ev_bs (mP27 hs) ?_
    refine ev_bs ((mV19 hs hw).trans (congrArg some hz)) ?_
    refine ev_if (fun zz => ?_) (fun zz => ?_)
    · refine ev_bs (mP25 hs) ?_
      refine ev_bs (mS17 hs hw) ?_
      refine ev_bs (mP25 hs) ?_
      refine ev_bs (mV17 hs hw) ?_
      have key := MI_st (w := w) (s' := 3) h (by decide)
      rw [nI_v3] at key
      exact ev_some key
    · rw [nI_leI (by omega) (by omega)] at zz
      refine ev_bs (mP28 hs) ?_
      refine ev_bs (mP34 hs) ?_
      rw [nI_100, nI_100]
      obtain ⟨-, np, nw, nk, nt, nl, nf, re, -, -, -, -, -, -, -, -, -, -, -, -, -, -, a15, -⟩ := id h
      obtain ⟨x, hx, hxe⟩ := a15 (100 * q + k) (by omega)
      refine ev_bs ((mV26 hs (by omega)).trans (congrArg some hxe)) ?_
      refine ev_bs (mS20 hs (by omega)) ?_
      rw [nI_1]
      exact ih (k + 1) _ z (MI_row h hx) (by simpa [gV_pAx] using hz) hz1 (by omega) (by omega)
theorem md_begin {c : Nat} {τ : fr_S} (h : MI c τ) (x1 : Int32) : ev (m_Md_begin c x1 τ) (fun q => MI c q.2) := by
  unfold m_Md_begin
  refine ev_bs (mSI h.1) ?_
  have h := M_code (v := 0) h
  generalize pI τ 1 c 0 = τ at h ⊢
  obtain ⟨hs, np, nw, nk, nt, nl, nf, re, a1, a2, a3, a4, a5, a6, a7, a8, a9, a10, a11, a12, a13, a14, a15, a16, a17, a18⟩ := id h
  refine ev_bs (mK hs) ?_
  refine ev_b (md_isWant hs a2 x1) (fun r hr => ?_)
  refine ev_if (fun _ => ev_some h) (fun hr0 => ?_)
  rcases hr with hr | ⟨-, w, hw, rfl⟩
  · exact absurd hr.1 hr0
  have hnw := a2.1
  have hkl := I_ke_le a14
  have hww : ∃ n, gI τ 7 c = nI n ∧ n ≤ 10 ∧ w < n := ⟨nw, a2.2, a2.1, hw⟩
  refine ev_bs (mP25 hs) ?_
  refine ev_bs (mV17 hs (by omega)) ?_
  refine ev_if (fun _ => ev_some h) (fun _ => ?_)
  refine ev_bs (mP25 hs) ?_
  refine ev_bs (mV17 hs (by omega)) ?_
  refine ev_if (fun _ => ev_some h) (fun _ => ?_)
  refine ev_bs (mP22 hs) ?_
  refine ev_bs (mV14 hs (by omega)) ?_
  refine ev_bs (mK hs) ?_
  refine ev_b (md_keptOf hs a3 (by omega) _) (fun r hr => ?_)
  refine ev_if (fun hr1 => ?_) (fun hr1 => ?_)
  · refine ev_bs (mI hs) ?_
    refine ev_if (fun _ => ?_) (fun _ => ?_)
    · refine ev_bs (mK hs) ?_
      have key := md_goOn (f := 0) (MI_4 (w := w) h) hww (by omega)
      rw [nI_0] at key
      refine ev_b key (fun τ' h' => ?_)
      refine ev_bs (mP25 h'.1) ?_
      refine ev_bs (mV17 h'.1 (by omega)) ?_
      exact ev_some h'
    · refine ev_bs (mP27 hs) ?_
      refine ev_bs (mS19 hs (by omega)) ?_
      refine ev_bs (mP25 hs) ?_
      refine ev_bs (mS17 hs (by omega)) ?_
      refine ev_bs (mK hs) ?_
      have h1 := MI_ha (w := w) (n := 0) h (by omega)
      rw [nI_0] at h1
      have h2 := MI_st (w := w) (s' := 4) h1 (by decide)
      rw [nI_v4] at h2
      refine ev_b (md_tellLack h2 (by exact hww)) (fun τ' h' => ?_)
      refine ev_bs (mP25 h'.1) ?_
      refine ev_bs (mV17 h'.1 (by omega)) ?_
      exact ev_some h'
  · rcases hr with hr | ⟨q, hq, rfl, -⟩
    · exact absurd hr.1 hr1
    refine ev_bs (mP27 hs) ?_
    refine ev_bs (mP33 hs) ?_
    obtain ⟨-, z, hz1, hz2⟩ := a14.1 q hq
    refine ev_bs ((mV25 hs (by omega)).trans (congrArg some hz2)) ?_
    refine ev_bs (mS19 hs (by omega)) ?_
    have key := md_begin_L (c := c) (w := w) (q := q) (by omega) (by omega) 1000 0 _ z (MI_ha (w := w) h hz1) (by simp [gV_pAx, upd_s]) hz1 (by omega) (by omega)
    rw [nI_0] at key
    exact key
/-! keep: what a done want leaves -/
theorem md_keep_L {c w : Nat} (hw : w < 10) : ∀ (n k : Nat) (τ : fr_S) (z nk : Nat), MI c τ → gI τ 8 c = nI nk → nk < 10 → (∀ τ' : fr_S, MI c τ' → gI τ' 8 c = nI nk → gV τ' (c + 14) = gV τ (c + 14) → gV τ' (c + 24) = gV τ (c + 24) → gV τ' (c + 25) = gV τ (c + 25) → gI τ' 7 c = gI τ 7 c → MI c (pI τ' 8 c (nI (nk + 1)))) → gV τ (c + 19) w = nI z → z ≤ 100 → k ≤ z → z - k < n → ev (m_Md_keep_L46 n c (nI w) (nI k) τ) (fun r => MI c r) := by
  intro n
  induction n with
  | zero => intro k τ z nk _ _ _ _ _ _ _ h; omega
  | succ n ih =>
    intro k τ z nk h hnk hnk10 hfin hz hz1 hk hn
    unfold m_Md_keep_L46
    have hs := h.1
    refine ev_bs (mP27 hs) ?_
    refine ev_bs ((mV19 hs hw).trans (congrArg some hz)) ?_
    refine ev_if (fun zz => ?_) (fun zz => ?_)
    · refine ev_bs ((mI hs).trans (congrArg some hnk)) ?_
      refine ev_bs (mSI hs) ?_
      refine ev_bs (mP25 hs) ?_
      refine ev_bs (mS17 hs hw) ?_
      rw [nI_1]
      have key := MI_st (w := w) (s' := 3) (hfin τ h hnk rfl rfl rfl rfl) (by decide)
      rw [nI_v3] at key
      exact ev_some key
    · rw [nI_leI (by omega) (by omega)] at zz
      refine ev_bs (mP34 hs) ?_
      refine ev_bs ((mI hs).trans (congrArg some hnk)) ?_
      refine ev_bs (mP28 hs) ?_
      rw [nI_100]
      obtain ⟨-, np, nw, nk', nt, nl, nf, re, -, -, -, -, -, -, -, -, -, -, -, -, a13, -⟩ := id h
      obtain ⟨x, hx, hxe⟩ := a13 (100 * w + k) (by omega)
      refine ev_bs ((mV20 hs (by omega)).trans (congrArg some hxe)) ?_
      rw [nI_100]
      refine ev_bs (mS26 hs (by omega)) ?_
      rw [nI_1]
      refine ih (k + 1) _ z nk (MI_krow h hx) hnk hnk10 (fun τ' g1 g2 g3 g4 g5 g6 => hfin τ' g1 g2 ?_ ?_ ?_ g6) (by simpa [gV_pAx] using hz) hz1 (by omega) (by omega)
      · rw [g3]; simp [gV_pAx]
      · rw [g4]; simp [gV_pAx]
      · rw [g5]; simp [gV_pAx]
theorem I_ke_out {nw nk n' : Nat} {go ke ks : Nat → Int32} {x : Int32} (h : I_ke nw nk go ke ks) : I_ke nw nk go (upd ke nk x) (upd ks nk (nI n')) := by
  refine ⟨fun k hk => ?_, fun k k' hkk hk' => ?_⟩
  · rw [upd_n (show k ≠ nk by omega), upd_n (show k ≠ nk by omega)]
    exact h.1 k hk
  · rw [upd_n (show k ≠ nk by omega), upd_n (show k' ≠ nk by omega)]
    exact h.2 k k' hkk hk'
theorem md_keep {c w : Nat} {τ : fr_S} (h : MI c τ) (hw : ∃ n, gI τ 7 c = nI n ∧ n ≤ 10 ∧ w < n) : ev (m_Md_keep c (nI w) τ) (fun q => MI c q) := by
  unfold m_Md_keep
  obtain ⟨hs, np, nw, nk, nt, nl, nf, re, a1, a2, a3, a4, a5, a6, a7, a8, a9, a10, a11, a12, a13, a14, a15, a16, a17, a18⟩ := id h
  obtain ⟨n0, w1, w2, w3⟩ := hw
  have hn0 : n0 = nw := nI_inj (by omega) (by have := a2.1; omega) (w1.symm.trans a2.2)
  subst hn0
  have hkl := I_ke_le a14
  refine ev_bs (mP22 hs) ?_
  refine ev_bs (mV14 hs (by omega)) ?_
  refine ev_bs (mK hs) ?_
  refine ev_b (md_keptOf hs a3 (by omega) _) (fun r hr => ?_)
  refine ev_if (fun hr1 => ?_) (fun hr1 => ?_)
  · rcases hr with ⟨-, hne⟩ | ⟨q, hq, hqr, -⟩
    · obtain ⟨-, ⟨z, hz1, hz2⟩, -⟩ := a12 w (by omega)
      have b14 := I_ke_add (n := z) a14 w3 hz1 hne
      have hkl2 := I_ke_le b14
      refine ev_bs (mP32 hs) ?_
      refine ev_bs ((mI hs).trans (congrArg some a3)) ?_
      refine ev_bs (mP22 hs) ?_
      refine ev_bs (mV14 hs (by omega)) ?_
      refine ev_bs (mS24 hs (by omega)) ?_
      refine ev_bs (mP33 hs) ?_
      refine ev_bs (Eq.trans (mI hs) (congrArg some (show gI (pA τ (c + 24) (upd (gV τ (c + 24)) nk (gV τ (c + 14) w))) 8 c = nI nk from a3))) ?_
      refine ev_bs (mP27 hs) ?_
      have hz2' : gV (pA τ (c + 24) (upd (gV τ (c + 24)) nk (gV τ (c + 14) w))) (c + 19) w = nI z := by simpa [gV_pAx] using hz2
      refine ev_bs (Eq.trans (mV19 hs (by omega)) (congrArg some hz2')) ?_
      refine ev_bs (mS25 hs (by omega)) ?_
      have key := md_keep_L (c := c) (w := w) (by omega) 1000 0 (pA (pA τ (c + 24) (upd (gV τ (c + 24)) nk (gV τ (c + 14) w))) (c + 25) (upd (gV (pA τ (c + 24) (upd (gV τ (c + 24)) nk (gV τ (c + 14) w))) (c + 25)) nk (nI z))) z nk ⟨hs, np, n0, nk, nt, nl, nf, re, (by simpa [gV_pI, gV_pAx, gI_pA, gI_pIx] using a1), (by simpa [gV_pI, gV_pAx, gI_pA, gI_pIx] using a2), (by simpa [gV_pI, gV_pAx, gI_pA, gI_pIx] using a3), (by simpa [gV_pI, gV_pAx, gI_pA, gI_pIx] using a4), (by simpa [gV_pI, gV_pAx, gI_pA, gI_pIx] using a5), (by simpa [gV_pI, gV_pAx, gI_pA, gI_pIx] using a6), (by simpa [gV_pI, gV_pAx, gI_pA, gI_pIx] using a7), (by simpa [gV_pI, gV_pAx, gI_pA, gI_pIx] using a8), (by simpa [gV_pI, gV_pAx, gI_pA, gI_pIx] using a9), (by simpa [gV_pI, gV_pAx, gI_pA, gI_pIx] using a10), (by simpa [gV_pI, gV_pAx, gI_pA, gI_pIx] using a11), (by simpa [gV_pI, gV_pAx, gI_pA, gI_pIx] using a12), (by simpa [gV_pI, gV_pAx, gI_pA, gI_pIx] using a13), (by simpa [gV_pAx] using I_ke_out (n' := z) (x := gV τ (c + 14) w) a14), (by simpa [gV_pI, gV_pAx, gI_pA, gI_pIx] using a15), (by simpa [gV_pI, gV_pAx, gI_pA, gI_pIx] using a16), (by simpa [gV_pI, gV_pAx, gI_pA, gI_pIx] using a17), (by simpa [gV_pI, gV_pAx, gI_pA, gI_pIx] using a18)⟩ a3 (by omega) ?_ (by simpa [gV_pAx] using hz2) hz1 (by omega) (by omega)
      · rw [nI_0] at key
        exact key
      · intro τ' h' g2 g3 g4 g5 g6
        obtain ⟨hs', np', nw', nk', nt', nl', nf', re', b1, b2, b3, b4, b5, b6, b7, b8, b9, b10, b11, b12, b13, b14', b15, b16, b17, b18⟩ := id h'
        have en : nw' = n0 := nI_inj (by have := b2.1; omega) (by omega) (b2.2.symm.trans (g6.trans a2.2))
        subst en
        refine ⟨hs', np', nw', nk + 1, nt', nl', nf', re', by simpa [gI_pIx] using b1, by simpa [gI_pIx] using b2, by simp [gI_pIx], by simpa [gI_pIx] using b4, by simpa [gI_pIx] using b5, by simpa [gI_pIx] using b6, by simpa [gI_pIx] using b7, b8, b9, b10, b11, b12, b13, ?_, b15, b16, b17, b18⟩
        show I_ke nw' (nk + 1) (gV τ' (c + 14)) (gV τ' (c + 24)) (gV τ' (c + 25))
        rw [g3, g4, g5]
        simpa [gV_pAx] using b14
    · rw [hqr] at hr1
      exact absurd hr1 (fun e => absurd (show nI q < 0 by rw [e]; exact nI_m1) (nI_pos (by omega)))
  · refine ev_bs (mP25 hs) ?_
    refine ev_bs (mS17 hs (by omega)) ?_
    have key := MI_st (w := w) (s' := 3) h (by decide)
    rw [nI_v3] at key
    exact ev_some key
/-- nothing but the credentials sent has changed -/
def SB (c : Nat) (τ τ' : fr_S) : Prop := Sm c τ' ∧ (∀ f, gI τ' f c = gI τ f c) ∧ ∀ a, a ≠ 2 → gV τ' (c + a) = gV τ (c + a)
theorem SB_MI {c : Nat} {τ τ' : fr_S} (h : MI c τ) (hb : SB c τ τ') : MI c τ' := by
  obtain ⟨hs, np, nw, nk, nt, nl, nf, re, hI⟩ := h
  obtain ⟨b1, b2, b3⟩ := hb
  refine ⟨b1, np, nw, nk, nt, nl, nf, re, ?_⟩
  unfold M_I
  rw [b2, b2, b2, b2, b2, b2, b2, b3 3 (by decide), b3 4 (by decide), b3 6 (by decide), b3 5 (by decide), b3 7 (by decide), b3 8 (by decide), b3 9 (by decide), b3 15 (by decide), b3 16 (by decide), b3 17 (by decide), b3 18 (by decide), b3 19 (by decide), b3 23 (by decide), b3 20 (by decide), b3 14 (by decide), b3 24 (by decide), b3 25 (by decide), b3 26 (by decide), b3 13 (by decide), b3 27 (by decide), b3 28 (by decide), b3 30 (by decide), b3 33 (by decide), b3 34 (by decide)]
  exact hI
theorem SB_rf {c : Nat} {τ : fr_S} (hs : Sm c τ) : SB c τ τ := ⟨hs, fun _ => rfl, fun _ _ => rfl⟩
theorem SB_up {c : Nat} {τ τ' : fr_S} {u : Nat → Int32} (h : SB c τ τ') : SB c τ (pA τ' (c + 2) u) := ⟨h.1, h.2.1, fun a ha => by rw [gV_pAn (show c + a ≠ c + 2 by omega)]; exact h.2.2 a ha⟩
theorem md_ask_L {c np : Nat} {τ : fr_S} (h8 : I_pl np (gV τ (c + 3)) (gV τ (c + 4)) (gV τ (c + 6))) (hnp : np ≤ 16) : ∀ (n p t : Nat) (y3 : Int32) (τ' : fr_S), SB c τ τ' → p < np → t ≤ 3 → 3 - t < n → ev (m_Md_ask_L40 n c (nI p) y3 (nI t) τ') (fun q => SB c τ q.2 ∧ (q.1 = -1 ∨ ∃ j, j < np ∧ q.1 = nI j)) := by
  intro n
  induction n with
  | zero => intro p t y3 τ' _ _ _ h; omega
  | succ n ih =>
    intro p t y3 τ' hb hp ht hn
    unfold m_Md_ask_L40
    have hs := hb.1
    have e3 := hb.2.2 3 (by decide)
    have e6 := hb.2.2 6 (by decide)
    have fin : ∀ y : Int32, ev (if y3 = 0 then some ((-1 : Int32), τ') else some (nI p, τ')) (fun q => SB c τ q.2 ∧ (q.1 = -1 ∨ ∃ j, j < np ∧ q.1 = nI j)) := fun y => ev_if (fun _ => ev_some ⟨hb, Or.inl rfl⟩) (fun _ => ev_some ⟨hb, Or.inr ⟨p, hp, rfl⟩⟩)
    refine ev_bs (mP18 hs) ?_
    refine ev_bs (mV10 hs (by omega)) ?_
    refine ev_if (fun _ => ?_) (fun _ => ?_)
    · refine ev_bs (mP14 hs) ?_
      refine ev_bs (mV6 hs (by omega)) ?_
      refine ev_if (fun _ => ?_) (fun hne => ?_)
      · refine ev_bs (mP18 hs) ?_
        refine ev_bs (mV10 hs (by omega)) ?_
        refine ev_if (fun _ => ?_) (fun _ => ev_some ⟨hb, Or.inl rfl⟩)
        refine ev_bs (mP19 hs) ?_
        refine ev_bs (mV11 hs (by omega)) ?_
        exact ev_if (fun _ => ev_some ⟨hb, Or.inr ⟨p, hp, rfl⟩⟩) (fun _ => fin 0)
      · refine ev_if (fun _ => ev_some ⟨hb, Or.inl rfl⟩) (fun h3 => ?_)
        have ht3 : t < 3 := by
          have h9 : ¬ t = 3 := fun z => h3 (by rw [z]; exact nI_v3)
          omega
        obtain ⟨-, -, hl⟩ := h8 p hp
        obtain ⟨q, hq, hqe⟩ : ∃ q, q < np ∧ gV τ' (c + 6) p = nI q := by
          rw [e6]
          rcases hl with hl | hl
          · rw [e6] at hne; exact absurd hl hne
          · exact hl
        obtain ⟨⟨hh, hh8, hhe⟩, -⟩ := h8 q hq
        have hhe' : gV τ' (c + 3) q = nI hh := by rw [e3]; exact hhe
        refine ev_bs (mP14 hs) ?_
        refine ev_bs ((mV6 hs (by omega)).trans (congrArg some hqe)) ?_
        refine ev_if (fun _ => ?_) (fun _ => ?_)
        · refine ev_bs (mP5 hs) ?_
          refine ev_bs (mP11 hs) ?_
          refine ev_bs ((mV3 hs (by omega)).trans (congrArg some hhe')) ?_
          refine ev_bs (mV2 hs hh8) ?_
          refine ev_bs (mS2 hs hh8) ?_
          rw [nI_1]
          exact ih q (t + 1) 0 _ (SB_up hb) hq (by omega) (by omega)
        · refine ev_bs (mP11 hs) ?_
          refine ev_bs ((mV3 hs (by omega)).trans (congrArg some hhe')) ?_
          refine ev_bs (mP11 hs) ?_
          refine ev_bs (mV3 hs (by omega)) ?_
          refine ev_if (fun _ => ?_) (fun _ => ?_)
          · refine ev_bs (mP5 hs) ?_
            refine ev_bs (mP11 hs) ?_
            refine ev_bs ((mV3 hs (by omega)).trans (congrArg some hhe')) ?_
            refine ev_bs (mV2 hs hh8) ?_
            refine ev_bs (mS2 hs hh8) ?_
            rw [nI_1]
            exact ih q (t + 1) 1 _ (SB_up hb) hq (by omega) (by omega)
          · refine ev_bs (mP5 hs) ?_
            refine ev_bs (mP11 hs) ?_
            refine ev_bs ((mV3 hs (by omega)).trans (congrArg some hhe')) ?_
            refine ev_bs (mV2 hs hh8) ?_
            refine ev_bs (mS2 hs hh8) ?_
            rw [nI_1]
            exact ih q (t + 1) 0 _ (SB_up hb) hq (by omega) (by omega)
    · refine ev_bs (mP18 hs) ?_
      refine ev_bs (mV10 hs (by omega)) ?_
      refine ev_if (fun _ => ?_) (fun _ => ev_some ⟨hb, Or.inl rfl⟩)
      refine ev_bs (mP19 hs) ?_
      refine ev_bs (mV11 hs (by omega)) ?_
      exact ev_if (fun _ => ev_some ⟨hb, Or.inr ⟨p, hp, rfl⟩⟩) (fun _ => fin 0)
theorem md_ask {c np p : Nat} {τ : fr_S} (hs : Sm c τ) (h8 : I_pl np (gV τ (c + 3)) (gV τ (c + 4)) (gV τ (c + 6))) (hnp : np ≤ 16) (hp : p < np) : ev (m_Md_ask c (nI p) τ) (fun q => SB c τ q.2 ∧ (q.1 = -1 ∨ ∃ j, j < np ∧ q.1 = nI j)) := by
  unfold m_Md_ask
  obtain ⟨⟨hh, hh8, hhe⟩, -⟩ := h8 p hp
  refine ev_bs (mP4 hs) ?_
  refine ev_bs (mP11 hs) ?_
  refine ev_bs ((mV3 hs (by omega)).trans (congrArg some hhe)) ?_
  refine ev_bs (mV1 hs hh8) ?_
  refine ev_bs (mP5 hs) ?_
  refine ev_bs (mP11 hs) ?_
  refine ev_bs ((mV3 hs (by omega)).trans (congrArg some hhe)) ?_
  refine ev_bs (mV2 hs hh8) ?_
  refine ev_if (fun _ => ?_) (fun _ => ?_)
  · refine ev_bs (mS2 hs hh8) ?_
    have key := md_ask_L h8 hnp 1000 p 0 (gV τ (c + 1) hh) _ (SB_up (u := upd (gV τ (c + 2)) hh (gV τ (c + 2) hh + 0)) (SB_rf hs)) hp (by omega) (by omega)
    rw [nI_0] at key
    exact key
  · refine ev_bs (mS2 hs hh8) ?_
    have key := md_ask_L h8 hnp 1000 p 0 (gV τ (c + 1) hh) _ (SB_up (u := upd (gV τ (c + 2)) hh (gV τ (c + 2) hh + 1)) (SB_rf hs)) hp (by omega) (by omega)
    rw [nI_0] at key
    exact key
/-- what a want that fetches has -/
theorem busy_get {c w nw re np : Nat} {τ : fr_S} (a12 : I_ws nw re (gV τ (c + 15)) (gV τ (c + 17)) (gV τ (c + 18)) (gV τ (c + 19)) (gV τ (c + 23))) (a11 : I_wp np (gV τ (c + 15)) (gV τ (c + 16))) (hw : w < 10) (hb : gV τ (c + 17) w = 1) : ∃ m a p, m ≤ 6 ∧ gV τ (c + 15) w = nI m ∧ gV τ (c + 18) w = nI a ∧ a < m ∧ p < np ∧ gV τ (c + 16) (6 * w + a) = nI p := by
  obtain ⟨⟨s, s1, s2, s3⟩, -⟩ := a12 w hw
  have hs1 : s = 1 := nI_inj (by omega) (by omega) (s2.symm.trans (hb.trans nI_v1.symm))
  obtain ⟨-, m, a, m6, m1, m2, m3⟩ := s3 (Or.inl hs1)
  obtain ⟨m', g1, g2, g3⟩ := a11 w hw
  have hmm : m = m' := nI_inj (by omega) (by omega) (m1.symm.trans g2)
  subst hmm
  obtain ⟨p, p1, p2⟩ := g3 a m3
  exact ⟨m, a, p, m6, m1, m2, m3, p1, p2⟩
theorem I_ws_wait {nw re w f : Nat} {pm st at_ ha fa : Nat → Int32} (h : I_ws nw re pm st at_ ha fa) (hb : st w = 1) (hf : f ≤ re) : I_ws nw re pm (upd st w 2) at_ ha (upd fa w (nI f)) := by
  intro j hj
  obtain ⟨⟨s, g1, g2, g3⟩, g4, g5⟩ := h j hj
  by_cases hjw : j = w
  · subst hjw
    have hs1 : s = 1 := nI_inj (by omega) (by omega) (g2.symm.trans (hb.trans nI_v1.symm))
    exact ⟨⟨2, by decide, upd_s.trans nI_v2.symm, fun _ => g3 (Or.inl hs1)⟩, g4, ⟨f, hf, upd_s⟩⟩
  · exact ⟨⟨s, g1, by rw [upd_n hjw]; exact g2, g3⟩, g4, by rw [upd_n hjw]; exact g5⟩
theorem I_to_wait {np nw nt w : Nat} {ba pm po st at_ tw tp : Nat → Int32} {v : Int32} (h : I_to np nw nt ba pm po st at_ tw tp) (hb : st w = 1 ∨ st w = 2) : I_to np nw nt ba pm po (upd st w v) at_ tw tp := by
  refine ⟨fun i hi => ?_, h.2⟩
  obtain ⟨w', k', m', q, g1, g2, g3, g4, g5, g6, g7, g8, g9, g10⟩ := h.1 i hi
  refine ⟨w', k', m', q, g1, g2, g3, g4, g5, g6, g7, g8, g9, fun hb' a ha hal => ?_⟩
  by_cases hww : w' = w
  · subst hww
    exact g10 hb a ha hal
  · rw [upd_n hww] at hb'
    exact g10 hb' a ha hal
theorem md_falter {c w : Nat} {τ : fr_S} (h : MI c τ) (hw : ∃ n, gI τ 7 c = nI n ∧ n ≤ 10 ∧ w < n) (hb : gV τ (c + 17) w = 1) : ev (m_Md_falter c (nI w) τ) (MI c) := by
  unfold m_Md_falter
  obtain ⟨hs, np, nw, nk, nt, nl, nf, re, a1, a2, a3, a4, a5, a6, a7, a8, a9, a10, a11, a12, a13, a14, a15, a16, a17, a18⟩ := id h
  obtain ⟨n0, w1, w2, w3⟩ := id hw
  obtain ⟨m, a, p, m6, m1, m2, m3, p1, p2⟩ := busy_get a12 a11 (w := w) (by omega) hb
  obtain ⟨-, -, f, f1, f2⟩ := a12 w (by omega)
  have hre := a7.1
  refine ev_bs (mP31 hs) ?_
  refine ev_bs ((mV23 hs (by omega)).trans (congrArg some f2)) ?_
  refine ev_bs ((mI hs).trans (congrArg some a7.2)) ?_
  refine ev_if (fun _ => ?_) (fun hne => ?_)
  · refine ev_bs (mP26 hs) ?_
    refine ev_bs ((mV18 hs (by omega)).trans (congrArg some m2)) ?_
    refine ev_bs (mK hs) ?_
    rw [nI_1]
    refine ev_b (md_goOn (f := a + 1) (MI_4 (w := w) h) hw (by omega)) (fun τ' h' => ?_)
    exact ev_some h'
  · have hfr : f < re := by
      have h9 : ¬ f = re := fun z => hne (by rw [z])
      omega
    refine ev_bs (mP25 hs) ?_
    refine ev_bs (mS17 hs (by omega)) ?_
    refine ev_bs (mP29 hs) ?_
    refine ev_bs (mI hs) ?_
    refine ev_bs (mP31 hs) ?_
    have f2' : gV (pA τ (c + 17) (upd (gV τ (c + 17)) w 2)) (c + 23) w = nI f := by simpa [gV_pAx] using f2
    refine ev_bs (Eq.trans (mV23 hs (by omega)) (congrArg some f2')) ?_
    refine ev_bs (mS21 hs (by omega)) ?_
    refine ev_bs (mP31 hs) ?_
    refine ev_bs (Eq.trans (mV23 hs (by omega)) (congrArg some (show _ = nI f by simpa [gV_pAx] using f2))) ?_
    refine ev_bs (mS23 hs (by omega)) ?_
    rw [nI_1]
    exact ev_some ⟨hs, np, nw, nk, nt, nl, nf, re, (by simpa [gV_pI, gV_pAx, gI_pA, gI_pIx] using a1), (by simpa [gV_pI, gV_pAx, gI_pA, gI_pIx] using a2), (by simpa [gV_pI, gV_pAx, gI_pA, gI_pIx] using a3), (by simpa [gV_pI, gV_pAx, gI_pA, gI_pIx] using a4), (by simpa [gV_pI, gV_pAx, gI_pA, gI_pIx] using a5), (by simpa [gV_pI, gV_pAx, gI_pA, gI_pIx] using a6), (by simpa [gV_pI, gV_pAx, gI_pA, gI_pIx] using a7), (by simpa [gV_pI, gV_pAx, gI_pA, gI_pIx] using a8), (by simpa [gV_pI, gV_pAx, gI_pA, gI_pIx] using a9), (by simpa [gV_pI, gV_pAx, gI_pA, gI_pIx] using a10), (by simpa [gV_pI, gV_pAx, gI_pA, gI_pIx] using a11), (by simpa [gV_pAx] using I_ws_wait (f := f + 1) a12 hb (by omega)), (by simpa [gV_pI, gV_pAx, gI_pA, gI_pIx] using a13), (by simpa [gV_pI, gV_pAx, gI_pA, gI_pIx] using a14), (by simpa [gV_pI, gV_pAx, gI_pA, gI_pIx] using a15), (by simpa [gV_pAx] using I_to_wait (v := 2) a16 (Or.inl hb)), (by simpa [gV_pI, gV_pAx, gI_pA, gI_pIx] using a17), (by simpa [gV_pI, gV_pAx, gI_pA, gI_pIx] using a18)⟩
theorem I_to_tell {np nw nt w m a p : Nat} {ba pm po st at_ tw tp : Nat → Int32} (h : I_to np nw nt ba pm po st at_ tw tp) (hw : w < nw) (hnw : nw ≤ 10) (hnp : np ≤ 16) (hb : st w = 1) (hm6 : m ≤ 6) (hm : pm w = nI m) (hat : at_ w = nI a) (ham : a < m) (hp : p < np) (hpo : po (6 * w + a) = nI p) : I_to np nw (nt + 1) (upd ba p 1) pm po (upd st w 4) at_ (upd tw nt (nI w)) (upd tp nt (nI p)) := by
  refine ⟨fun i hi => ?_, fun i i' hii hi' => ?_⟩
  · by_cases hin : i = nt
    · subst hin
      refine ⟨w, a, m, p, hw, hm6, hm, ham, hp, hpo, upd_s, upd_s, upd_s, fun hb' => ?_⟩
      rw [upd_s] at hb'
      exact absurd hb' (by decide)
    · obtain ⟨w', k', m', q, g1, g2, g3, g4, g5, g6, g7, g8, g9, g10⟩ := h.1 i (by omega)
      refine ⟨w', k', m', q, g1, g2, g3, g4, g5, g6, by rw [upd_n hin]; exact g7, by rw [upd_n hin]; exact g8, ?_, fun hb' b hb2 hbl => ?_⟩
      · by_cases hqp : q = p
        · rw [hqp, upd_s]
        · rw [upd_n hqp]; exact g9
      · by_cases hww : w' = w
        · rw [hww, upd_s] at hb'
          exact absurd hb' (by decide)
        · rw [upd_n hww] at hb'
          exact g10 hb' b hb2 hbl
  · rw [upd_n (show i ≠ nt by omega), upd_n (show i ≠ nt by omega)]
    by_cases hin : i' = nt
    · subst hin
      rw [upd_s, upd_s]
      rintro ⟨e1, e2⟩
      obtain ⟨w', k', m', q, g1, g2, g3, g4, g5, g6, g7, g8, g9, g10⟩ := h.1 i hii
      have hww : w' = w := nI_inj (by omega) (by omega) (g7.symm.trans e1)
      subst hww
      have hmm : m' = m := nI_inj (by omega) (by omega) (g3.symm.trans hm)
      subst hmm
      exact g10 (Or.inl hb) a hat ham (by rw [hpo, ← e2, g8])
    · rw [upd_n hin, upd_n hin]
      exact h.2 i i' hii (by omega)
theorem md_judge_L {c w : Nat} {τ : fr_S} (h : MI c τ) (hw : ∃ n, gI τ 7 c = nI n ∧ n ≤ 10 ∧ w < n) (hb : gV τ (c + 17) w = 1) : ∀ (z : Nat), gV τ (c + 19) w = nI z → z ≤ 100 → ∀ (n k : Nat) (s : Int32), k ≤ z → z - k < n → ev (m_Md_judge_L4 n c (nI w) s (nI k) τ) (MI c) := by
  obtain ⟨hs, np, nw, nk, nt, nl, nf, re, a1, a2, a3, a4, a5, a6, a7, a8, a9, a10, a11, a12, a13, a14, a15, a16, a17, a18⟩ := id h
  obtain ⟨n0, w1, w2, w3⟩ := id hw
  have hn0 : n0 = nw := nI_inj (by omega) (by have := a2.1; omega) (w1.symm.trans a2.2)
  subst hn0
  obtain ⟨m, a, p, m6, m1, m2, m3, p1, p2⟩ := busy_get a12 a11 (w := w) (by omega) hb
  have hnt := I_to_le a16 a2.1
  have hnp := a1.1
  intro z hz hz1 n
  induction n with
  | zero => intro k s _ hn; omega
  | succ n ih =>
    intro k s hk hn
    unfold m_Md_judge_L4
    refine ev_bs (mP27 hs) ?_
    refine ev_bs ((mV19 hs (by omega)).trans (congrArg some hz)) ?_
    refine ev_if (fun zz => ?_) (fun zz => ?_)
    · refine ev_bs (mP22 hs) ?_
      refine ev_bs (mV14 hs (by omega)) ?_
      refine ev_if (fun _ => ?_) (fun _ => ?_)
      · refine ev_bs (mK hs) ?_
        refine ev_b (md_keep h hw) (fun τ' h' => ev_some h')
      · refine ev_bs (mP24 hs) ?_
        refine ev_bs (mP26 hs) ?_
        refine ev_bs ((mV18 hs (by omega)).trans (congrArg some m2)) ?_
        rw [nI_6]
        refine ev_bs ((mV16 hs (by omega)).trans (congrArg some p2)) ?_
        refine ev_bs (mP21 hs) ?_
        refine ev_bs (mS13 hs (by omega)) ?_
        rw [nar1]
        refine ev_bs (mP35 hs) ?_
        refine ev_bs (Eq.trans (mI hs) (congrArg some (show _ = nI nt from a4))) ?_
        refine ev_bs (mS27 hs (by omega)) ?_
        refine ev_bs (mP36 hs) ?_
        refine ev_bs (Eq.trans (mI hs) (congrArg some (show _ = nI nt from a4))) ?_
        refine ev_bs (mS28 hs (by omega)) ?_
        refine ev_bs (mP37 hs) ?_
        refine ev_bs (Eq.trans (mI hs) (congrArg some (show _ = nI nt from a4))) ?_
        refine ev_bs (mS29 hs (by omega)) ?_
        refine ev_bs (Eq.trans (mI hs) (congrArg some (show _ = nI nt from a4))) ?_
        refine ev_bs (mSI hs) ?_
        refine ev_bs (mP26 hs) ?_
        refine ev_bs (Eq.trans (mV18 hs (by omega)) (congrArg some (show _ = nI a by simpa [gV_pI, gV_pAx] using m2))) ?_
        refine ev_bs (mK hs) ?_
        rw [nI_1, nI_1]
        refine ev_b (md_goOn (w := w) (f := a + 1) ?_ (by refine ⟨n0, ?_, w2, w3⟩; simpa [gI_pIx, gI_pA] using w1) (by omega)) (fun τ' h' => ev_some h')
        exact ⟨hs, np, n0, nk, nt + 1, nl, nf, re, (by simpa [gV_pI, gV_pAx, gI_pA, gI_pIx] using a1), (by simpa [gV_pI, gV_pAx, gI_pA, gI_pIx] using a2), (by simpa [gV_pI, gV_pAx, gI_pA, gI_pIx] using a3), (by simp [gI_pIx, gI_pA]), (by simpa [gV_pI, gV_pAx, gI_pA, gI_pIx] using a5), (by simpa [gV_pI, gV_pAx, gI_pA, gI_pIx] using a6), (by simpa [gV_pI, gV_pAx, gI_pA, gI_pIx] using a7), (by simpa [gV_pI, gV_pAx, gI_pA, gI_pIx] using a8), (by simpa [gV_pI, gV_pAx, gI_pA, gI_pIx] using a9), (by simpa [gV_pI, gV_pAx, gI_pA, gI_pIx] using a10), (by simpa [gV_pI, gV_pAx, gI_pA, gI_pIx] using a11), (by simpa [gV_pI, gV_pAx] using I_ws_4 (w := w) a12), (by simpa [gV_pI, gV_pAx, gI_pA, gI_pIx] using a13), (by simpa [gV_pI, gV_pAx, gI_pA, gI_pIx] using a14), (by simpa [gV_pI, gV_pAx, gI_pA, gI_pIx] using a15), (by simpa [gV_pI, gV_pAx] using I_to_tell a16 w3 w2 a1.1 hb m6 m1 m2 m3 p1 p2), (by simpa [gV_pI, gV_pAx, gI_pA, gI_pIx] using a17), (by simpa [gV_pI, gV_pAx, gI_pA, gI_pIx] using a18)⟩
    · rw [nI_leI (by omega) (by omega)] at zz
      refine ev_bs (mP28 hs) ?_
      rw [nI_100]
      refine ev_bs (mV20 hs (by omega)) ?_
      refine ev_bs rfl ?_
      rw [nI_1]
      exact ih (k + 1) _ (by omega) (by omega)
theorem md_judge {c w : Nat} {τ : fr_S} (h : MI c τ) (hw : ∃ n, gI τ 7 c = nI n ∧ n ≤ 10 ∧ w < n) (hb : gV τ (c + 17) w = 1) : ev (m_Md_judge c (nI w) τ) (MI c) := by
  unfold m_Md_judge
  obtain ⟨hs, np, nw, nk, nt, nl, nf, re, a1, a2, a3, a4, a5, a6, a7, a8, a9, a10, a11, a12, a13, a14, a15, a16, a17, a18⟩ := id h
  obtain ⟨n0, w1, w2, w3⟩ := id hw
  obtain ⟨-, ⟨z, z1, z2⟩, -⟩ := a12 w (by omega)
  have key := md_judge_L h hw hb z z2 z1 1000 0 0 (by omega) (by omega)
  rw [nI_0] at key
  exact key
theorem xor1 {x : Nat} (hx : x < 256) : ∃ y, y < 256 ∧ (nI x ^^^ 1) = nI y := by
  have key : ∀ x : Nat, x < 256 → ∃ y, y < 256 ∧ (nI x ^^^ 1) = nI y := by
    intro x hx
    refine ⟨x ^^^ 1, ?_, ?_⟩
    · have h1 : x ^^^ 1 < 2 ^ 8 := Nat.xor_lt_two_pow (by omega) (by decide)
      exact h1
    · apply Int32.toBitVec_inj.mp
      rw [Int32.toBitVec_xor]
      have e1 : (nI x).toBitVec = BitVec.ofNat 32 x := rfl
      have e2 : (nI (x ^^^ 1)).toBitVec = BitVec.ofNat 32 (x ^^^ 1) := rfl
      have e3 : (1 : Int32).toBitVec = BitVec.ofNat 32 1 := rfl
      rw [e1, e2, e3]
      apply BitVec.eq_of_toNat_eq
      have h1 : x ^^^ 1 < 2 ^ 8 := Nat.xor_lt_two_pow (by omega) (by decide)
      rw [BitVec.toNat_xor, BitVec.toNat_ofNat, BitVec.toNat_ofNat, BitVec.toNat_ofNat, Nat.mod_eq_of_lt (by omega), Nat.mod_eq_of_lt (by decide), Nat.mod_eq_of_lt (by omega)]
  exact key x hx
theorem MI_np {c : Nat} {τ : fr_S} (h : MI c τ) : ∃ n, gI τ 6 c = nI n ∧ n ≤ 16 := by
  obtain ⟨-, np, nw, nk, nt, nl, nf, re, a1, -⟩ := h
  exact ⟨np, a1.2, a1.1⟩
theorem md_turn_L {c w p : Nat} (hp : p < 16) : ∀ (n k q : Nat) (y3 : Int32) (τ : fr_S) (z sz : Nat), MI c τ → (∃ n, gI τ 7 c = nI n ∧ n ≤ 10 ∧ w < n) → gV τ (c + 17) w = 1 → gV τ (c + 19) w = nI z → z ≤ 100 → gV τ (c + 5) p = nI sz → sz ≤ 100 → q ≤ 100 → k ≤ q → q - k < n → ev (m_Md_turn_L122 n c (nI w) (nI p) y3 (nI q) (nI k) τ) (MI c) := by
  intro n
  induction n with
  | zero => intro k q y3 τ z sz _ _ _ _ _ _ _ _ _ h; omega
  | succ n ih =>
    intro k q y3 τ z sz h hw hb hz hz1 hsz hsz1 hq hk hn
    have hs := h.1
    obtain ⟨n0, w1, w2, w3⟩ := id hw
    have fin : ev (if nI z < nI sz then if y3 = 0 then some τ else (oK τ 0 c).bind fun _ => (m_Md_falter c (nI w) τ).bind fun σ_51 => some σ_51 else (oK τ 0 c).bind fun _ => (m_Md_judge c (nI w) τ).bind fun σ_53 => some σ_53) (MI c) := by
      refine ev_if (fun _ => ?_) (fun _ => ?_)
      · refine ev_if (fun _ => ev_some h) (fun _ => ?_)
        refine ev_bs (mK hs) ?_
        exact ev_b (md_falter h hw hb) (fun τ' h' => ev_some h')
      · refine ev_bs (mK hs) ?_
        exact ev_b (md_judge h hw hb) (fun τ' h' => ev_some h')
    unfold m_Md_turn_L122
    refine ev_if (fun zz => ?_) (fun zz => ?_)
    · refine ev_bs (mP27 hs) ?_
      refine ev_bs ((mV19 hs (by omega)).trans (congrArg some hz)) ?_
      refine ev_bs (mP13 hs) ?_
      refine ev_bs ((mV5 hs hp).trans (congrArg some hsz)) ?_
      exact fin
    · rw [nI_leI (by omega) (by omega)] at zz
      refine ev_bs (mP27 hs) ?_
      refine ev_bs ((mV19 hs (by omega)).trans (congrArg some hz)) ?_
      refine ev_bs (mP13 hs) ?_
      refine ev_bs ((mV5 hs hp).trans (congrArg some hsz)) ?_
      refine ev_if (fun _ => ?_) (fun zs => ?_)
      · refine ev_bs (mP27 hs) ?_
        refine ev_bs ((mV19 hs (by omega)).trans (congrArg some hz)) ?_
        refine ev_bs (mP13 hs) ?_
        refine ev_bs ((mV5 hs hp).trans (congrArg some hsz)) ?_
        exact fin
      · rw [nI_leI (by omega) (by omega)] at zs
        have go : ∀ x, x < 256 → ev ((sV τ 0 (c + 20) (nI (100 * w + z)) (nI x)).bind fun σ_86 => (oP σ_86 0 27 c).bind fun q87 => (oV σ_86 0 q87 (nI w)).bind fun v88 => (sV σ_86 0 q87 (nI w) (v88 + 1)).bind fun σ_89 => m_Md_turn_L122 n c (nI w) (nI p) y3 (nI q) (nI k + 1) σ_89) (MI c) := by
          intro x hx
          refine ev_bs (mS20 hs (by omega)) ?_
          refine ev_bs (mP27 hs) ?_
          refine ev_bs (Eq.trans (mV19 hs (by omega)) (congrArg some (show _ = nI z by simpa [gV_pAx] using hz))) ?_
          refine ev_bs (mS19 hs (by omega)) ?_
          rw [nI_1, nI_1]
          refine ih (k + 1) q y3 _ (z + 1) sz (MI_ha (w := w) (n := z + 1) (MI_row (k := 100 * w + z) h hx) (by omega)) hw (by simpa [gV_pAx] using hb) (by simp [gV_pAx, upd_s]) (by omega) (by simpa [gV_pAx] using hsz) hsz1 hq (by omega) (by omega)
        obtain ⟨-, np, nw, nk, nt, nl, nf, re, -, -, -, -, -, -, -, -, -, a10, -⟩ := id h
        obtain ⟨x, hx, hxe⟩ := a10 (100 * p + z) (by omega)
        refine ev_bs (mP17 hs) ?_
        refine ev_bs (mP27 hs) ?_
        refine ev_bs ((mV19 hs (by omega)).trans (congrArg some hz)) ?_
        rw [nI_100]
        refine ev_bs ((mV9 hs (by omega)).trans (congrArg some hxe)) ?_
        refine ev_bs (mP28 hs) ?_
        refine ev_bs (mP27 hs) ?_
        refine ev_bs ((mV19 hs (by omega)).trans (congrArg some hz)) ?_
        refine ev_bs (mP27 hs) ?_
        refine ev_bs ((mV19 hs (by omega)).trans (congrArg some hz)) ?_
        rw [nI_100]
        refine ev_if (fun _ => ?_) (fun _ => go x hx)
        refine ev_bs (mP20 hs) ?_
        refine ev_bs (mV12 hs hp) ?_
        refine ev_if (fun _ => go x hx) (fun _ => ?_)
        obtain ⟨y, hy, hye⟩ := xor1 hx
        rw [hye]
        exact go y hy
theorem I_sz_cu {i t : Nat} {si cu cb : Nat → Int32} (hI : I_sz si cu cb) (ht : t ≤ 9) : I_sz si (upd cu i (nI t)) cb := by
  intro k hk
  obtain ⟨g1, g2, g3⟩ := hI k hk
  by_cases hki : k = i
  · subst hki
    exact ⟨g1, ⟨t, ht, upd_s⟩, g3⟩
  · rw [upd_n hki]
    exact ⟨g1, g2, g3⟩
theorem MI_cu {c p t : Nat} {τ : fr_S} (h : MI c τ) (ht : t ≤ 9) : MI c (pA τ (c + 7) (upd (gV τ (c + 7)) p (nI t))) := by
  obtain ⟨hs, np, nw, nk, nt, nl, nf, re, a1, a2, a3, a4, a5, a6, a7, a8, a9, a10, a11, a12, a13, a14, a15, a16, a17, a18⟩ := id h
  exact ⟨hs, np, nw, nk, nt, nl, nf, re, (by simpa [gV_pI, gV_pAx, gI_pA, gI_pIx] using a1), (by simpa [gV_pI, gV_pAx, gI_pA, gI_pIx] using a2), (by simpa [gV_pI, gV_pAx, gI_pA, gI_pIx] using a3), (by simpa [gV_pI, gV_pAx, gI_pA, gI_pIx] using a4), (by simpa [gV_pI, gV_pAx, gI_pA, gI_pIx] using a5), (by simpa [gV_pI, gV_pAx, gI_pA, gI_pIx] using a6), (by simpa [gV_pI, gV_pAx, gI_pA, gI_pIx] using a7), (by simpa [gV_pI, gV_pAx, gI_pA, gI_pIx] using a8), (by simpa [gV_pAx] using I_sz_cu (i := p) a9 ht), (by simpa [gV_pI, gV_pAx, gI_pA, gI_pIx] using a10), (by simpa [gV_pI, gV_pAx, gI_pA, gI_pIx] using a11), (by simpa [gV_pI, gV_pAx, gI_pA, gI_pIx] using a12), (by simpa [gV_pI, gV_pAx, gI_pA, gI_pIx] using a13), (by simpa [gV_pI, gV_pAx, gI_pA, gI_pIx] using a14), (by simpa [gV_pI, gV_pAx, gI_pA, gI_pIx] using a15), (by simpa [gV_pI, gV_pAx, gI_pA, gI_pIx] using a16), (by simpa [gV_pI, gV_pAx, gI_pA, gI_pIx] using a17), (by simpa [gV_pI, gV_pAx, gI_pA, gI_pIx] using a18)⟩
theorem nI_s0 (n : Nat) : nI n - 0 = nI n := by
  have h := pk_sub (a := n) (b := 0) (Nat.zero_le _)
  rw [nI_0] at h
  exact h
theorem nI_sm {n : Nat} (h : 0 < n) : nI n - 1 = nI (n - 1) := by
  obtain ⟨q, rfl⟩ : ∃ q, n = q + 1 := ⟨n - 1, by omega⟩
  exact nI_pred q
theorem md_turn {c w : Nat} {τ : fr_S} (h : MI c τ) (hw : ∃ n, gI τ 7 c = nI n ∧ n ≤ 10 ∧ w < n) (hb : gV τ (c + 17) w = 1) : ev (m_Md_turn c (nI w) τ) (MI c) := by
  unfold m_Md_turn
  obtain ⟨n0, w1, w2, w3⟩ := id hw
  refine ev_bs (mP30 h.1) ?_
  refine ev_bs (mV22 h.1 (by omega)) ?_
  refine ev_bs (mS22 h.1 (by omega)) ?_
  have h := MI_pA (a := 22) (u := upd (gV τ (c + 22)) w (gV τ (c + 22) w + 1)) h (by decide)
  have hw : ∃ n, gI (pA τ (c + 22) (upd (gV τ (c + 22)) w (gV τ (c + 22) w + 1))) 7 c = nI n ∧ n ≤ 10 ∧ w < n := hw
  have hb : gV (pA τ (c + 22) (upd (gV τ (c + 22)) w (gV τ (c + 22) w + 1))) (c + 17) w = 1 := by simpa [gV_pAx] using hb
  generalize pA τ (c + 22) (upd (gV τ (c + 22)) w (gV τ (c + 22) w + 1)) = τ at h hw hb ⊢
  obtain ⟨hs, np, nw, nk, nt, nl, nf, re, a1, a2, a3, a4, a5, a6, a7, a8, a9, a10, a11, a12, a13, a14, a15, a16, a17, a18⟩ := id h
  obtain ⟨m, a, p, m6, m1, m2, m3, p1, p2⟩ := busy_get a12 a11 (w := w) (by omega) hb
  have hnp := a1.1
  refine ev_bs (mP24 hs) ?_
  refine ev_bs (mP26 hs) ?_
  refine ev_bs ((mV18 hs (by omega)).trans (congrArg some m2)) ?_
  rw [nI_6]
  refine ev_bs ((mV16 hs (by omega)).trans (congrArg some p2)) ?_
  refine ev_bs (mK hs) ?_
  refine ev_b (md_ask hs a8 a1.1 p1) (fun r hr => ?_)
  obtain ⟨r1, τ2⟩ := r
  obtain ⟨hsb, hrr⟩ := hr
  have hsb : SB c τ τ2 := hsb
  have hrr : r1 = -1 ∨ ∃ j, j < np ∧ r1 = nI j := hrr
  have h2 := SB_MI h hsb
  have hw2 : ∃ n, gI τ2 7 c = nI n ∧ n ≤ 10 ∧ w < n := by
    obtain ⟨n1, v1, v2, v3⟩ := hw
    exact ⟨n1, by rw [hsb.2.1]; exact v1, v2, v3⟩
  have hs2 := h2.1
  have e18 : gV τ2 (c + 18) w = nI a := by rw [hsb.2.2 18 (by decide)]; exact m2
  refine ev_if (fun _ => ?_) (fun hne => ?_)
  · refine ev_bs (mP26 hs2) ?_
    refine ev_bs ((mV18 hs2 (by omega)).trans (congrArg some e18)) ?_
    refine ev_bs (mK hs2) ?_
    rw [nI_1]
    exact ev_b (md_goOn (f := a + 1) (MI_4 (w := w) h2) hw2 (by omega)) (fun τ' h' => ev_some h')
  · rcases hrr with hrr | ⟨j, hj, rfl⟩
    · exact absurd hrr hne
    have hb2 : gV τ2 (c + 17) w = 1 := by rw [hsb.2.2 17 (by decide)]; exact hb
    obtain ⟨⟨sz, sz1, sz2⟩, ⟨cu, cu1, cu2⟩, ⟨cb, cb1, cb2⟩⟩ := a9 j (by omega)
    have sz2' : gV τ2 (c + 5) j = nI sz := by rw [hsb.2.2 5 (by decide)]; exact sz2
    have cu2' : gV τ2 (c + 7) j = nI cu := by rw [hsb.2.2 7 (by decide)]; exact cu2
    have cb2' : gV τ2 (c + 8) j = nI cb := by rw [hsb.2.2 8 (by decide)]; exact cb2
    obtain ⟨-, ⟨ra, ra1, ra2, ra3⟩, -⟩ := a8 j hj
    have ra3' : gV τ2 (c + 4) j = nI ra := by rw [hsb.2.2 4 (by decide)]; exact ra3
    obtain ⟨-, ⟨z, z1, z2⟩, -⟩ := a12 w (by omega)
    have z2' : gV τ2 (c + 19) w = nI z := by rw [hsb.2.2 19 (by decide)]; exact z2
    have go : ∀ (y3 : Int32) (q t : Nat), q ≤ 100 → t ≤ 9 → ev (m_Md_turn_L122 1000 c (nI w) (nI j) y3 (nI q) 0 (pA τ2 (c + 7) (upd (gV τ2 (c + 7)) j (nI t)))) (MI c) := by
      intro y3 q t hq ht
      have key := md_turn_L (c := c) (w := w) (p := j) (by omega) 1000 0 q y3 _ z sz (MI_cu (p := j) h2 ht) hw2 (by simpa [gV_pAx] using hb2) (by simpa [gV_pAx] using z2') z1 (by simpa [gV_pAx] using sz2') sz1 hq (by omega) (by omega)
      rw [nI_0] at key
      exact key
    refine ev_bs (mP15 hs2) ?_
    refine ev_bs ((mV7 hs2 (by omega)).trans (congrArg some cu2')) ?_
    refine ev_if (fun _ => ?_) (fun hpos => ?_)
    · refine ev_bs (mP12 hs2) ?_
      refine ev_bs ((mV4 hs2 (by omega)).trans (congrArg some ra3')) ?_
      refine ev_bs (mP15 hs2) ?_
      refine ev_bs ((mV7 hs2 (by omega)).trans (congrArg some cu2')) ?_
      rw [nI_s0]
      refine ev_bs (mS7 hs2 (by omega)) ?_
      exact go 0 ra cu (by omega) cu1
    · have hcu : 0 < cu := by
        rcases Nat.eq_zero_or_pos cu with e | e
        · exact absurd (by rw [e, nI_0]; exact Int32.le_refl 0) hpos
        · exact e
      refine ev_bs (mP16 hs2) ?_
      refine ev_bs ((mV8 hs2 (by omega)).trans (congrArg some cb2')) ?_
      refine ev_bs (mP12 hs2) ?_
      refine ev_bs ((mV4 hs2 (by omega)).trans (congrArg some ra3')) ?_
      refine ev_if (fun _ => ?_) (fun _ => ?_)
      · refine ev_bs (mP12 hs2) ?_
        refine ev_bs ((mV4 hs2 (by omega)).trans (congrArg some ra3')) ?_
        refine ev_bs (mP15 hs2) ?_
        refine ev_bs ((mV7 hs2 (by omega)).trans (congrArg some cu2')) ?_
        rw [nI_sm hcu]
        refine ev_bs (mS7 hs2 (by omega)) ?_
        exact go 1 ra (cu - 1) (by omega) (by omega)
      · refine ev_bs (mP16 hs2) ?_
        refine ev_bs ((mV8 hs2 (by omega)).trans (congrArg some cb2')) ?_
        refine ev_bs (mP15 hs2) ?_
        refine ev_bs ((mV7 hs2 (by omega)).trans (congrArg some cu2')) ?_
        rw [nI_sm hcu]
        refine ev_bs (mS7 hs2 (by omega)) ?_
        exact go 1 cb (cu - 1) cb1 (by omega)
theorem MI_pI {c f : Nat} {τ : fr_S} {v : Int32} (h : MI c τ) (hf : f = 1 ∨ f = 2 ∨ f = 3) : MI c (pI τ f c v) := by
  obtain ⟨hs, np, nw, nk, nt, nl, nf, re, hI⟩ := h
  refine ⟨hs, np, nw, nk, nt, nl, nf, re, ?_⟩
  rcases hf with rfl | rfl | rfl <;> simpa [M_I, gV_pI, gI_pIx] using hI
theorem I_ws_wake {nw re w : Nat} {pm st at_ ha fa : Nat → Int32} (h : I_ws nw re pm st at_ ha fa) (hb : st w = 2) : I_ws nw re pm (upd st w 1) at_ ha fa := by
  intro j hj
  obtain ⟨⟨s, g1, g2, g3⟩, g4⟩ := h j hj
  by_cases hjw : j = w
  · subst hjw
    have hs1 : s = 2 := nI_inj (by omega) (by omega) (g2.symm.trans (hb.trans nI_v2.symm))
    exact ⟨⟨1, by decide, upd_s.trans nI_v1.symm, fun _ => g3 (Or.inr hs1)⟩, g4⟩
  · exact ⟨⟨s, g1, by rw [upd_n hjw]; exact g2, g3⟩, g4⟩
theorem md_tick_in {c : Nat} (y1 y2 : Int32) : ∀ (n j : Nat) (τ : fr_S), MI c τ → j ≤ 10 → 10 - j < n → ev (m_Md_tick_L36 n c y1 y2 (nI j) τ) (MI c) := by
  intro n
  induction n with
  | zero => intro j τ _ _ h; omega
  | succ n ih =>
    intro j τ h hj hn
    unfold m_Md_tick_L36
    obtain ⟨hs, np, nw, nk, nt, nl, nf, re, a1, a2, a3, a4, a5, a6, a7, a8, a9, a10, a11, a12, a13, a14, a15, a16, a17, a18⟩ := id h
    have hnw := a2.1
    refine ev_bs ((mI hs).trans (congrArg some a2.2)) ?_
    refine ev_if (fun _ => ev_some h) (fun z => ?_)
    rw [nI_leI (by omega) (by omega)] at z
    have hw : ∃ n, gI τ 7 c = nI n ∧ n ≤ 10 ∧ j < n := ⟨nw, a2.2, a2.1, by omega⟩
    have go : ∀ τ' : fr_S, MI c τ' → (∃ n, gI τ' 7 c = nI n ∧ n ≤ 10 ∧ j < n) → ev ((oP τ' 0 25 c).bind fun q30 => (oV τ' 0 q30 (nI j)).bind fun v31 => if v31 = 1 then (oK τ' 0 c).bind fun _ => (m_Md_turn c (nI j) τ').bind fun σ_34 => m_Md_tick_L36 n c y1 y2 (nI j + 1) σ_34 else m_Md_tick_L36 n c y1 y2 (nI j + 1) τ') (MI c) := by
      intro τ' h' hw'
      refine ev_bs (mP25 h'.1) ?_
      refine ev_bs (mV17 h'.1 (by omega)) ?_
      refine ev_if (fun hb => ?_) (fun _ => ?_)
      · refine ev_bs (mK h'.1) ?_
        refine ev_b (md_turn h' hw' hb) (fun τ2 h2 => ?_)
        rw [nI_1]
        exact ih (j + 1) τ2 h2 (by omega) (by omega)
      · rw [nI_1]
        exact ih (j + 1) τ' h' (by omega) (by omega)
    refine ev_bs (mP25 hs) ?_
    refine ev_bs (mV17 hs (by omega)) ?_
    refine ev_if (fun h2 => ?_) (fun _ => go τ h hw)
    refine ev_bs (mP29 hs) ?_
    refine ev_bs (mV21 hs (by omega)) ?_
    refine ev_bs (mI hs) ?_
    refine ev_if (fun _ => go τ h hw) (fun _ => ?_)
    refine ev_bs (mP25 hs) ?_
    refine ev_bs (mS17 hs (by omega)) ?_
    refine go _ ⟨hs, np, nw, nk, nt, nl, nf, re, (by simpa [gV_pI, gV_pAx, gI_pA, gI_pIx] using a1), (by simpa [gV_pI, gV_pAx, gI_pA, gI_pIx] using a2), (by simpa [gV_pI, gV_pAx, gI_pA, gI_pIx] using a3), (by simpa [gV_pI, gV_pAx, gI_pA, gI_pIx] using a4), (by simpa [gV_pI, gV_pAx, gI_pA, gI_pIx] using a5), (by simpa [gV_pI, gV_pAx, gI_pA, gI_pIx] using a6), (by simpa [gV_pI, gV_pAx, gI_pA, gI_pIx] using a7), (by simpa [gV_pI, gV_pAx, gI_pA, gI_pIx] using a8), (by simpa [gV_pI, gV_pAx, gI_pA, gI_pIx] using a9), (by simpa [gV_pI, gV_pAx, gI_pA, gI_pIx] using a10), (by simpa [gV_pI, gV_pAx, gI_pA, gI_pIx] using a11), (by simpa [gV_pAx] using I_ws_wake a12 h2), (by simpa [gV_pI, gV_pAx, gI_pA, gI_pIx] using a13), (by simpa [gV_pI, gV_pAx, gI_pA, gI_pIx] using a14), (by simpa [gV_pI, gV_pAx, gI_pA, gI_pIx] using a15), (by simpa [gV_pAx] using I_to_wait (v := 1) a16 (Or.inr h2)), (by simpa [gV_pI, gV_pAx, gI_pA, gI_pIx] using a17), (by simpa [gV_pI, gV_pAx, gI_pA, gI_pIx] using a18)⟩ hw
theorem md_tick_cnt {c : Nat} {τ : fr_S} (h : MI c τ) : ∀ (n j : Nat) (y2 : Int32), j ≤ 10 → 10 - j < n → ev (m_Md_tick_L105 n c y2 (nI j) τ) (fun q => MI c q.2) := by
  obtain ⟨hs, np, nw, nk, nt, nl, nf, re, a1, a2, a3, a4, a5, a6, a7, a8, a9, a10, a11, a12, a13, a14, a15, a16, a17, a18⟩ := id h
  have hnw := a2.1
  intro n
  induction n with
  | zero => intro j y2 _ h; omega
  | succ n ih =>
    intro j y2 hj hn
    unfold m_Md_tick_L105
    refine ev_bs ((mI hs).trans (congrArg some a2.2)) ?_
    refine ev_if (fun _ => ev_some h) (fun z => ?_)
    rw [nI_leI (by omega) (by omega)] at z
    refine ev_bs (mP25 hs) ?_
    refine ev_bs (mV17 hs (by omega)) ?_
    refine ev_if (fun _ => ?_) (fun _ => ?_)
    · rw [nI_1]
      exact ih (j + 1) _ (by omega) (by omega)
    · refine ev_bs (mP25 hs) ?_
      refine ev_bs (mV17 hs (by omega)) ?_
      refine ev_if (fun _ => ?_) (fun _ => ?_)
      · rw [nI_1]
        exact ih (j + 1) _ (by omega) (by omega)
      · rw [nI_1]
        exact ih (j + 1) _ (by omega) (by omega)
theorem md_tick_out {c q : Nat} (hq : q ≤ 50) : ∀ (n k : Nat) (τ : fr_S), MI c τ → k ≤ q → q - k < n → ev (m_Md_tick_L19 n c (nI q) (nI k) τ) (fun q => MI c q.2) := by
  intro n
  induction n with
  | zero => intro k τ _ _ h; omega
  | succ n ih =>
    intro k τ h hk hn
    unfold m_Md_tick_L19
    refine ev_if (fun _ => ?_) (fun z => ?_)
    · have key := md_tick_cnt h 1000 0 0 (by omega) (by omega)
      rw [nI_0] at key
      exact key
    · rw [nI_leI (by omega) (by omega)] at z
      refine ev_bs (mI h.1) ?_
      refine ev_bs (mSI h.1) ?_
      have key := md_tick_in (nI q) (nI k) 1000 0 _ (MI_pI (f := 2) (v := gI τ 2 c + 1) h (by decide)) (by omega) (by omega)
      rw [nI_0] at key
      refine ev_b key (fun τ' h' => ?_)
      rw [nI_1]
      exact ih (k + 1) τ' h' (by omega) (by omega)
theorem md_tick {c : Nat} {τ : fr_S} (h : MI c τ) (x1 : Int32) : ev (m_Md_tick c x1 τ) (fun q => MI c q.2) := by
  unfold m_Md_tick
  refine ev_bs (mSI h.1) ?_
  have h := M_code (v := 0) h
  generalize pI τ 1 c 0 = τ at h ⊢
  refine ev_if (fun _ => ev_some h) (fun h0 => ?_)
  refine ev_if (fun h50 => ?_) (fun _ => ev_some h)
  obtain ⟨q, -, hq, rfl⟩ := nI_rng (x := x1) (lo := 0) (hi := 50) (by rw [nI_0]; exact h0) (by rw [← nI_lit50]; exact h50) (by decide) (by decide)
  have key := md_tick_out (c := c) hq 1000 0 τ h (by omega) (by omega)
  rw [nI_0] at key
  exact key
theorem md_about {c : Nat} {τ : fr_S} (h : MI c τ) (x1 x2 : Int32) : ev (m_Md_about c x1 x2 τ) (fun q => MI c q.2) := by
  unfold m_Md_about
  refine ev_bs (mSI h.1) ?_
  have h := M_code (v := 0) h
  generalize pI τ 1 c 0 = τ at h ⊢
  obtain ⟨hs, np, nw, nk, nt, nl, nf, re, a1, a2, a3, a4, a5, a6, a7, a8, a9, a10, a11, a12, a13, a14, a15, a16, a17, a18⟩ := id h
  refine ev_bs (mK hs) ?_
  refine ev_b (md_isWant hs a2 x1) (fun r hr => ?_)
  refine ev_if (fun _ => ev_some h) (fun hr0 => ?_)
  rcases hr with hr | ⟨-, w, hw, rfl⟩
  · exact absurd hr.1 hr0
  have hnw := a2.1
  have s0 : ∀ R : Option (Int32 × fr_S), ev R (fun q => MI c q.2) → ev R (fun q => MI c q.2) := fun _ h => h
  have f25 : ev ((oP τ 0 25 c).bind fun q9 => (oV τ 0 q9 (nI w)).bind fun v10 => some (v10, τ)) (fun q => MI c q.2) := ev_bs (mP25 hs) (ev_bs (mV17 hs (by omega)) (ev_some h))
  have f27 : ev ((oP τ 0 27 c).bind fun q9 => (oV τ 0 q9 (nI w)).bind fun v10 => some (v10, τ)) (fun q => MI c q.2) := ev_bs (mP27 hs) (ev_bs (mV19 hs (by omega)) (ev_some h))
  have f29 : ev ((oP τ 0 25 c).bind fun q21 => (oV τ 0 q21 (nI w)).bind fun v22 => if v22 = 2 then (oP τ 0 29 c).bind fun q24 => (oV τ 0 q24 (nI w)).bind fun v25 => some (v25, τ) else some (-1, τ)) (fun q => MI c q.2) := ev_bs (mP25 hs) (ev_bs (mV17 hs (by omega)) (ev_if (fun _ => ev_bs (mP29 hs) (ev_bs (mV21 hs (by omega)) (ev_some h))) (fun _ => ev_some h)))
  have f30 : ev ((oP τ 0 30 c).bind fun q9 => (oV τ 0 q9 (nI w)).bind fun v10 => some (v10, τ)) (fun q => MI c q.2) := ev_bs (mP30 hs) (ev_bs (mV22 hs (by omega)) (ev_some h))
  have f24 : (gV τ (c + 17) w = 1 ∨ gV τ (c + 17) w = 2) → ev ((oP τ 0 24 c).bind fun q13 => (oP τ 0 26 c).bind fun q14 => (oV τ 0 q14 (nI w)).bind fun v15 => (oV τ 0 q13 ((6 * nI w) + v15)).bind fun v16 => some (v16, τ)) (fun q => MI c q.2) := by
    intro hb
    obtain ⟨⟨s, s1, s2, s3⟩, -⟩ := a12 w (by omega)
    have hs12 : s = 1 ∨ s = 2 := by
      rcases hb with hb | hb
      · exact Or.inl (nI_inj (by omega) (by omega) (s2.symm.trans (hb.trans nI_v1.symm)))
      · exact Or.inr (nI_inj (by omega) (by omega) (s2.symm.trans (hb.trans nI_v2.symm)))
    obtain ⟨-, m, a, m6, m1, m2, m3⟩ := s3 hs12
    refine ev_bs (mP24 hs) ?_
    refine ev_bs (mP26 hs) ?_
    refine ev_bs ((mV18 hs (by omega)).trans (congrArg some m2)) ?_
    rw [nI_6]
    refine ev_bs (mV16 hs (by omega)) ?_
    exact ev_some h
  refine ev_bs (mP25 hs) ?_
  refine ev_bs (mV17 hs (by omega)) ?_
  refine ev_if (fun hb => ?_) (fun _ => ?_)
  · exact ev_if (fun _ => f25) (fun _ => ev_if (fun _ => f24 (Or.inl hb)) (fun _ => ev_if (fun _ => f27) (fun _ => ev_if (fun _ => f29) (fun _ => ev_if (fun _ => f30) (fun _ => ev_some h)))))
  · refine ev_bs (mP25 hs) ?_
    refine ev_bs (mV17 hs (by omega)) ?_
    refine ev_if (fun hb => ?_) (fun _ => ?_)
    · exact ev_if (fun _ => f25) (fun _ => ev_if (fun _ => f24 (Or.inr hb)) (fun _ => ev_if (fun _ => f27) (fun _ => ev_if (fun _ => f29) (fun _ => ev_if (fun _ => f30) (fun _ => ev_some h)))))
    · exact ev_if (fun _ => f25) (fun _ => ev_if (fun _ => ev_some h) (fun _ => ev_if (fun _ => f27) (fun _ => ev_if (fun _ => f29) (fun _ => ev_if (fun _ => f30) (fun _ => ev_some h)))))
theorem md_file {c : Nat} {τ : fr_S} (h : MI c τ) (x1 x2 : Int32) : ev (m_Md_file c x1 x2 τ) (fun q => MI c q.2) := by
  unfold m_Md_file
  refine ev_bs (mSI h.1) ?_
  have h := M_code (v := 0) h
  generalize pI τ 1 c 0 = τ at h ⊢
  obtain ⟨hs, np, nw, nk, nt, nl, nf, re, a1, a2, a3, a4, a5, a6, a7, a8, a9, a10, a11, a12, a13, a14, a15, a16, a17, a18⟩ := id h
  have hnf := a6.1
  refine ev_if (fun _ => ev_some h) (fun h1 => ?_)
  refine ev_bs ((mI hs).trans (congrArg some a6.2)) ?_
  refine ev_if (fun h2 => ?_) (fun _ => ev_some h)
  obtain ⟨i, hi, rfl⟩ := nI_get (x := x1) (n := nf) (by omega) h1 (Int32.not_le.mpr h2)
  refine ev_if (fun _ => ?_) (fun _ => ?_)
  · exact ev_bs (mP40 hs) (ev_bs (mV31 hs (by omega)) (ev_some h))
  refine ev_if (fun _ => ?_) (fun _ => ?_)
  · exact ev_bs (mP41 hs) (ev_bs (mV32 hs (by omega)) (ev_some h))
  refine ev_if (fun _ => ?_) (fun _ => ?_)
  · exact ev_bs (mP42 hs) (ev_bs (mV33 hs (by omega)) (ev_some h))
  refine ev_if (fun _ => ?_) (fun _ => ev_some h)
  exact ev_bs (mP43 hs) (ev_bs (mV34 hs (by omega)) (ev_some h))
/-! the archive: where the reference reads -/
theorem md_isSign (x : Int32) (τ : fr_S) : ev (m_Md_isSign x τ) (fun _ => True) := by
  unfold m_Md_isSign
  repeat' first
    | exact ev_some trivial
    | refine ev_if (fun _ => ?_) (fun _ => ?_)
theorem md_isRight_L {c to_ : Nat} {τ : fr_S} (hs : Sm c τ) (ht : to_ ≤ 1000) : ∀ (n k : Nat) (y3 y4 : Int32), k ≤ to_ + 1 → to_ + 1 - k < n → ev (m_Md_isRight_L8 n c (nI to_) y3 y4 (nI k) τ) (fun _ => True) := by
  intro n
  induction n with
  | zero => intro k y3 y4 _ h; omega
  | succ n ih =>
    intro k y3 y4 hk hn
    unfold m_Md_isRight_L8
    refine ev_if (fun _ => ev_some trivial) (fun z => ?_)
    rw [nI_ltI (by omega) (by omega)] at z
    have go : ∀ a b : Int32, ev (m_Md_isRight_L8 n c (nI to_) a b (nI k + 1) τ) (fun _ => True) := by
      intro a b
      rw [nI_1]
      exact ih (k + 1) a b (by omega) (by omega)
    have sl : ev (if y3 = 0 then some 0 else if y3 = y4 then if 3 ≤ y3 then m_Md_isRight_L8 n c (nI to_) 0 0 (nI k + 1) τ else some 0 else m_Md_isRight_L8 n c (nI to_) 0 0 (nI k + 1) τ) (fun _ => True) := ev_if (fun _ => ev_some trivial) (fun _ => ev_if (fun _ => ev_if (fun _ => go 0 0) (fun _ => ev_some trivial)) (fun _ => go 0 0))
    refine ev_if (fun _ => ?_) (fun z2 => ?_)
    · refine ev_b (md_isSign _ τ) (fun r _ => ?_)
      exact ev_if (fun _ => ev_some trivial) (fun _ => sl)
    · rw [nI_leI (by omega) (by omega)] at z2
      refine ev_bs (mP28 hs) ?_
      refine ev_bs (mV20 hs (by omega)) ?_
      refine ev_b (md_isSign _ τ) (fun r _ => ?_)
      refine ev_if (fun _ => ev_some trivial) (fun _ => ?_)
      refine ev_if (fun _ => sl) (fun _ => ?_)
      exact ev_if (fun _ => go _ _) (fun _ => go _ _)
theorem md_strip_L {c to_ : Nat} {τ : fr_S} (hs : Sm c τ) (ht : to_ ≤ 1000) : ∀ (n k l : Nat), k ≤ to_ → l ≤ 5 → to_ - k < n → ev (m_Md_strip_L6 n c (nI to_) (nI l) (nI k) τ) (fun r => ∃ j, k ≤ j ∧ j ≤ to_ ∧ r = nI j) := by
  intro n
  induction n with
  | zero => intro k l _ _ h; omega
  | succ n ih =>
    intro k l hk hl hn
    unfold m_Md_strip_L6
    have ret : ev (if nI l ≤ 0 then some (nI k) else some (nI to_)) (fun r => ∃ j, k ≤ j ∧ j ≤ to_ ∧ r = nI j) := ev_if (fun _ => ev_some ⟨k, Nat.le_refl k, hk, rfl⟩) (fun _ => ev_some ⟨to_, hk, Nat.le_refl _, rfl⟩)
    refine ev_if (fun _ => ret) (fun hl0 => ?_)
    refine ev_if (fun _ => ret) (fun z => ?_)
    rw [nI_leI (by omega) (by omega)] at z
    have hlp : 0 < l := by
      rcases Nat.eq_zero_or_pos l with e | e
      · exact absurd (by rw [e, nI_0]; exact Int32.le_refl 0) hl0
      · exact e
    refine ev_bs (mP28 hs) ?_
    refine ev_bs (mV20 hs (by omega)) ?_
    refine ev_if (fun _ => ?_) (fun _ => ?_)
    · rw [nI_sm hlp, nI_1]
      refine ev_mono (ih (k + 1) (l - 1) (by omega) (by omega) (by omega)) (fun r hr => ?_)
      obtain ⟨j, j1, j2, j3⟩ := hr
      exact ⟨j, by omega, j2, j3⟩
    · rw [nI_s0, nI_1]
      refine ev_mono (ih (k + 1) l (by omega) (by omega) (by omega)) (fun r hr => ?_)
      obtain ⟨j, j1, j2, j3⟩ := hr
      exact ⟨j, by omega, j2, j3⟩
theorem md_same_L {c a n b : Nat} {τ : fr_S} (hs : Sm c τ) (ha : a + n ≤ 1000) (hb : b + n ≤ 1000) : ∀ (q k : Nat) (y : Int32), (y = 0 ∨ y = 1) → k ≤ n → n - k < q → ev (m_Md_isSamePath_L16 q c (nI a) (nI n) (nI b) y (nI k) τ) (fun _ => True) := by
  intro q
  induction q with
  | zero => intro k y _ _ h; omega
  | succ q ih =>
    intro k y hy hk hq
    unfold m_Md_isSamePath_L16
    have oz : oZ y = some () := if_pos hy
    refine ev_if (fun _ => ev_bs oz (ev_some trivial)) (fun z => ?_)
    rw [nI_leI (by omega) (by omega)] at z
    refine ev_if (fun _ => ev_bs oz (ev_some trivial)) (fun _ => ?_)
    refine ev_bs (mP28 hs) ?_
    rw [nI_add, nI_add]
    refine ev_bs (mV20 hs (by omega)) ?_
    refine ev_bs (mP28 hs) ?_
    refine ev_bs (mV20 hs (by omega)) ?_
    rw [nI_1]
    exact ev_if (fun _ => ih (k + 1) 1 (Or.inr rfl) (by omega) (by omega)) (fun _ => ih (k + 1) 0 (Or.inl rfl) (by omega) (by omega))
theorem md_same {c a n b m : Nat} {τ : fr_S} (hs : Sm c τ) (ha : a + n ≤ 1000) (hb : b + m ≤ 1000) (hn : n ≤ 100) (hm : m ≤ 1000) : ev (m_Md_isSamePath c (nI a) (nI n) (nI b) (nI m) τ) (fun _ => True) := by
  unfold m_Md_isSamePath
  refine ev_if (fun he => ?_) (fun _ => ?_)
  · have hnm : n = m := nI_inj (by omega) (by omega) he
    subst hnm
    have key := md_same_L (c := c) (a := a) (n := n) (b := b) hs ha hb 1000 0 1 (Or.inr rfl) (by omega) (by omega)
    rw [nI_0] at key
    exact key
  · unfold m_Md_isSamePath_L16
    have oz : oZ 0 = some () := if_pos (Or.inl rfl)
    exact ev_if (fun _ => ev_bs oz (ev_some trivial)) (fun _ => ev_if (fun _ => ev_bs oz (ev_some trivial)) (fun z => absurd rfl z))
theorem I_fi_add {nf a n : Nat} {pa pn : Nat → Int32} (h : I_fi nf pa pn) (han : a + n ≤ 100) : I_fi (nf + 1) (upd pa nf (nI a)) (upd pn nf (nI n)) := by
  intro f hf
  by_cases hfn : f = nf
  · subst hfn
    exact ⟨a, n, han, upd_s, upd_s⟩
  · rw [upd_n hfn, upd_n hfn]
    exact h f (by omega)
theorem md_put_L {c B pa pe fr m : Nat} {τ : fr_S} (h : MI c τ) (hB : B + 100 ≤ 1000) (h1 : B ≤ pa) (h2 : pa ≤ pe) (h3 : pe ≤ B + 100) : ∀ (nf : Nat), gI τ 39 c = nI nf → nf ≤ 32 → ∀ (n f : Nat), f ≤ nf → nf - f < n → ev (m_Md_putFile_L3 n c (nI B) (nI pa) (nI pe) (nI fr) (nI m) (nI f) τ) (fun τ' => MI c τ' ∧ ∃ g, g ≤ nf + 1 ∧ gI τ' 39 c = nI g) := by
  obtain ⟨hs, np, nw, nk, nt, nl, nf, re, a1, a2, a3, a4, a5, a6, a7, a8, a9, a10, a11, a12, a13, a14, a15, a16, a17, a18⟩ := id h
  intro nf' hnf' hnf32
  have hnf : nf' = nf := nI_inj (by omega) (by have := a6.1; omega) (hnf'.symm.trans a6.2)
  subst hnf
  intro n
  induction n with
  | zero => intro f _ hn; omega
  | succ n ih =>
    intro f hf hn
    unfold m_Md_putFile_L3
    have old : ∀ (f : Nat) (v v2 : Int32), MI c (pA (pA τ (c + 31) (upd (gV τ (c + 31)) f v)) (c + 32) (upd (gV (pA τ (c + 31) (upd (gV τ (c + 31)) f v)) (c + 32)) f v2)) := fun f v v2 => MI_pA (a := 32) (MI_pA (a := 31) h (by decide)) (by decide)
    refine ev_bs ((mI hs).trans (congrArg some a6.2)) ?_
    refine ev_if (fun z => ?_) (fun z => ?_)
    · rw [nI_leI (by omega) (by omega)] at z
      have hfe : f = nf' := by omega
      subst hfe
      refine ev_bs ((mI hs).trans (congrArg some a6.2)) ?_
      refine ev_if (fun _ => ?_) (fun z => absurd rfl z)
      rw [pk_sub h1, pk_sub h2]
      refine ev_bs (mP42 hs) ?_
      refine ev_bs (mS33 hs (by omega)) ?_
      refine ev_bs (mP43 hs) ?_
      refine ev_bs (mS34 hs (by omega)) ?_
      refine ev_bs (Eq.trans (mI hs) (congrArg some (show _ = nI f from a6.2))) ?_
      refine ev_bs (mSI hs) ?_
      refine ev_bs (mP40 hs) ?_
      refine ev_bs (mS31 hs (by omega)) ?_
      refine ev_bs (mP41 hs) ?_
      refine ev_bs (mS32 hs (by omega)) ?_
      rw [nI_1]
      refine ev_some ⟨?_, f + 1, Nat.le_refl _, by simp [gI_pIx, gI_pA]⟩
      exact ⟨hs, np, nw, nk, nt, nl, f + 1, re, (by simpa [gV_pI, gV_pAx, gI_pA, gI_pIx] using a1), (by simpa [gV_pI, gV_pAx, gI_pA, gI_pIx] using a2), (by simpa [gV_pI, gV_pAx, gI_pA, gI_pIx] using a3), (by simpa [gV_pI, gV_pAx, gI_pA, gI_pIx] using a4), (by simpa [gV_pI, gV_pAx, gI_pA, gI_pIx] using a5), ⟨by omega, by simp [gI_pIx, gI_pA]⟩, (by simpa [gV_pI, gV_pAx, gI_pA, gI_pIx] using a7), (by simpa [gV_pI, gV_pAx, gI_pA, gI_pIx] using a8), (by simpa [gV_pI, gV_pAx, gI_pA, gI_pIx] using a9), (by simpa [gV_pI, gV_pAx, gI_pA, gI_pIx] using a10), (by simpa [gV_pI, gV_pAx, gI_pA, gI_pIx] using a11), (by simpa [gV_pI, gV_pAx, gI_pA, gI_pIx] using a12), (by simpa [gV_pI, gV_pAx, gI_pA, gI_pIx] using a13), (by simpa [gV_pI, gV_pAx, gI_pA, gI_pIx] using a14), (by simpa [gV_pI, gV_pAx, gI_pA, gI_pIx] using a15), (by simpa [gV_pI, gV_pAx, gI_pA, gI_pIx] using a16), (by simpa [gV_pI, gV_pAx, gI_pA, gI_pIx] using a17), (by simpa [gV_pI, gV_pAx] using I_fi_add (a := pa - B) (n := pe - pa) a18 (by omega))⟩
    · rw [nI_leI (by omega) (by omega)] at z
      obtain ⟨a, q, aq, e1, e2⟩ := a18 f (by omega)
      refine ev_bs (mP42 hs) ?_
      refine ev_bs ((mV33 hs (by omega)).trans (congrArg some e1)) ?_
      refine ev_bs (mP43 hs) ?_
      refine ev_bs ((mV34 hs (by omega)).trans (congrArg some e2)) ?_
      refine ev_bs (mK hs) ?_
      rw [nI_add, pk_sub h2]
      refine ev_b (md_same (a := B + a) (n := q) (b := pa) (m := pe - pa) hs (by omega) (by omega) (by omega) (by omega)) (fun r _ => ?_)
      refine ev_if (fun _ => ?_) (fun _ => ?_)
      · rw [nI_1]
        exact ih (f + 1) (by omega) (by omega)
      · refine ev_bs ((mI hs).trans (congrArg some a6.2)) ?_
        refine ev_if (fun z2 => ?_) (fun _ => ?_)
        · have : f = nf' := nI_inj (by omega) (by omega) z2
          omega
        · refine ev_bs (mP40 hs) ?_
          refine ev_bs (mS31 hs (by omega)) ?_
          refine ev_bs (mP41 hs) ?_
          refine ev_bs (mS32 hs (by omega)) ?_
          exact ev_some ⟨old f _ _, nf', Nat.le_succ _, a6.2⟩
theorem md_read_L {c w k B E : Nat} (hw : w < 10) (hk : k ≤ 5) (hB : B = 100 * w) (hE : E ≤ B + 100) : ∀ (n q : Nat) (y3 : Int32) (τ : fr_S) (g : Nat), MI c τ → B ≤ q → q ≤ E → (y3 = 0 ∨ (gI τ 39 c = nI g ∧ 3 * g ≤ q - B)) → E - q < n → ev (m_Md_read_L21 n c (nI w) (nI k) y3 (nI B) (nI E) (nI q) τ) (fun r => MI c r.2) := by
  intro n
  induction n with
  | zero => intro q y3 τ g _ _ _ _ h; omega
  | succ n ih =>
    intro q y3 τ g h hq hqE hg hn
    unfold m_Md_read_L21
    have hs := h.1
    refine ev_if (fun _ => ev_some h) (fun z => ?_)
    rw [nI_leI (by omega) (by omega)] at z
    obtain ⟨-, np, nw, nk, nt, nl, nf, re, -, -, -, -, -, -, -, -, -, -, -, -, a13, -⟩ := id h
    obtain ⟨x, hx, hxe⟩ := a13 q (by omega)
    refine ev_bs (mP28 hs) ?_
    refine ev_bs ((mV20 hs (by omega)).trans (congrArg some hxe)) ?_
    refine ev_if (fun _ => ev_some h) (fun hx1 => ?_)
    refine ev_if (fun hx20 => ?_) (fun _ => ev_some h)
    have hx1 : 1 ≤ x := by
      rcases Nat.eq_zero_or_pos x with e | e
      · exact absurd (by rw [e, nI_0]; decide) hx1
      · exact e
    rw [nI_1, nI_add]
    have rh : ev ((oP τ 0 27 c).bind fun q21 => (oV τ 0 q21 (nI w)).bind fun v22 => some (v22, τ)) (fun r => MI c r.2) := ev_bs (mP27 hs) (ev_bs (mV19 hs hw) (ev_some h))
    refine ev_if (fun hlt => ?_) (fun _ => rh)
    rw [nI_ltI (by omega) (by omega)] at hlt
    refine ev_bs (mK hs) ?_
    refine ev_b (md_isRight_L (c := c) (to_ := q + 1 + x) hs (by omega) 1000 (q + 1) 0 0 (by omega) (by omega)) (fun r _ => ?_)
    refine ev_if (fun _ => ev_some h) (fun _ => ?_)
    obtain ⟨m, hm, hme⟩ := a13 (q + 1 + x) (by omega)
    refine ev_bs (mP28 hs) ?_
    refine ev_bs ((mV20 hs (by omega)).trans (congrArg some hme)) ?_
    rw [nI_1, nI_add]
    refine ev_if (fun hle => ?_) (fun _ => rh)
    rw [nI_leI (by omega) (by omega)] at hle
    refine ev_bs (mK hs) ?_
    refine ev_b (md_strip_L (c := c) (to_ := q + 1 + x) hs (by omega) 1000 (q + 1) k (by omega) hk (by omega)) (fun r hr => ?_)
    obtain ⟨j, j1, j2, rfl⟩ := hr
    refine ev_if (fun h0 => ?_) (fun h0 => ?_)
    · exact ih _ y3 τ g h (by omega) (by omega) (Or.inl h0) (by omega)
    · rcases hg with hg | ⟨hg1, hg2⟩
      · exact absurd hg h0
      refine ev_if (fun _ => ?_) (fun hj => ?_)
      · exact ih _ y3 τ g h (by omega) (by omega) (Or.inr ⟨hg1, by omega⟩) (by omega)
      · refine ev_bs (mK hs) ?_
        have key := md_put_L (c := c) (B := B) (pa := j) (pe := q + 1 + x) (fr := q + 1 + x + 1) (m := m) h (by omega) (by omega) (by omega) (by omega) g hg1 (by omega) 1000 0 (by omega) (by omega)
        rw [nI_0] at key
        refine ev_b key (fun τ' h' => ?_)
        obtain ⟨hm', g', g1, g2⟩ := h'
        exact ih _ y3 τ' g' hm' (by omega) (by omega) (Or.inr ⟨g2, by omega⟩) (by omega)
theorem nI_100w (w : Nat) : (100 * nI w : Int32) = nI (100 * w) := by rw [nI_lit100, pk_mul]
theorem md_read {c w k g : Nat} {τ : fr_S} (h : MI c τ) (hw : w < 10) (hk : k ≤ 5) (y3 : Int32) (hg : y3 = 0 ∨ (gI τ 39 c = nI g ∧ g = 0)) : ev (m_Md_read c (nI w) (nI k) y3 τ) (fun r => MI c r.2) := by
  unfold m_Md_read
  obtain ⟨hs, np, nw, nk, nt, nl, nf, re, a1, a2, a3, a4, a5, a6, a7, a8, a9, a10, a11, a12, a13, a14, a15, a16, a17, a18⟩ := id h
  obtain ⟨-, ⟨z, z1, z2⟩, -⟩ := a12 w hw
  refine ev_bs (mP27 hs) ?_
  refine ev_bs ((mV19 hs hw).trans (congrArg some z2)) ?_
  rw [nI_100w, nI_add]
  refine md_read_L (c := c) (w := w) (k := k) (B := 100 * w) (E := 100 * w + z) hw hk rfl (by omega) 1000 (100 * w) y3 τ 0 h (Nat.le_refl _) (by omega) ?_ (by omega)
  rcases hg with hg | ⟨hg1, rfl⟩
  · exact Or.inl hg
  · exact Or.inr ⟨hg1, by omega⟩
theorem nI_lit5 : (5 : Int32) = nI 5 := by decide +kernel
theorem md_unpack {c : Nat} {τ : fr_S} (h : MI c τ) (x1 x2 : Int32) : ev (m_Md_unpack c x1 x2 τ) (fun q => MI c q.2) := by
  unfold m_Md_unpack
  refine ev_bs (mSI h.1) ?_
  have h := M_code (v := 0) h
  generalize pI τ 1 c 0 = τ at h ⊢
  obtain ⟨hs, np, nw, nk, nt, nl, nf, re, a1, a2, a3, a4, a5, a6, a7, a8, a9, a10, a11, a12, a13, a14, a15, a16, a17, a18⟩ := id h
  refine ev_bs (mK hs) ?_
  refine ev_b (md_isWant hs a2 x1) (fun r hr => ?_)
  refine ev_if (fun _ => ev_some h) (fun hr0 => ?_)
  rcases hr with hr | ⟨-, w, hw, rfl⟩
  · exact absurd hr.1 hr0
  have hnw := a2.1
  refine ev_bs (mP25 hs) ?_
  refine ev_bs (mV17 hs (by omega)) ?_
  refine ev_if (fun _ => ?_) (fun _ => ev_some h)
  refine ev_if (fun _ => ev_some h) (fun h0 => ?_)
  refine ev_if (fun h5 => ?_) (fun _ => ev_some h)
  obtain ⟨k, -, hk, rfl⟩ := nI_rng (x := x2) (lo := 0) (hi := 5) (by rw [nI_0]; exact h0) (by rw [← nI_lit5]; exact h5) (by decide) (by decide)
  refine ev_bs (mK hs) ?_
  refine ev_b (md_read (g := 0) h (w := w) (by omega) hk 0 (Or.inl rfl)) (fun r hr => ?_)
  obtain ⟨r1, τ2⟩ := r
  have h2 : MI c τ2 := hr
  refine ev_if (fun _ => ?_) (fun _ => ev_some h2)
  refine ev_bs (mSI h2.1) ?_
  refine ev_bs (mK h2.1) ?_
  have h3 : MI c (pI τ2 39 c 0) := by
    have h := h2
    obtain ⟨hs, np, nw, nk, nt, nl, nf, re, a1, a2, a3, a4, a5, a6, a7, a8, a9, a10, a11, a12, a13, a14, a15, a16, a17, a18⟩ := id h
    exact ⟨hs, np, nw, nk, nt, nl, 0, re, (by simpa [gV_pI, gV_pAx, gI_pA, gI_pIx] using a1), (by simpa [gV_pI, gV_pAx, gI_pA, gI_pIx] using a2), (by simpa [gV_pI, gV_pAx, gI_pA, gI_pIx] using a3), (by simpa [gV_pI, gV_pAx, gI_pA, gI_pIx] using a4), (by simpa [gV_pI, gV_pAx, gI_pA, gI_pIx] using a5), ⟨by omega, by simpa [gI_pIx] using nI_0.symm⟩, (by simpa [gV_pI, gV_pAx, gI_pA, gI_pIx] using a7), (by simpa [gV_pI, gV_pAx, gI_pA, gI_pIx] using a8), (by simpa [gV_pI, gV_pAx, gI_pA, gI_pIx] using a9), (by simpa [gV_pI, gV_pAx, gI_pA, gI_pIx] using a10), (by simpa [gV_pI, gV_pAx, gI_pA, gI_pIx] using a11), (by simpa [gV_pI, gV_pAx, gI_pA, gI_pIx] using a12), (by simpa [gV_pI, gV_pAx, gI_pA, gI_pIx] using a13), (by simpa [gV_pI, gV_pAx, gI_pA, gI_pIx] using a14), (by simpa [gV_pI, gV_pAx, gI_pA, gI_pIx] using a15), (by simpa [gV_pI, gV_pAx, gI_pA, gI_pIx] using a16), (by simpa [gV_pI, gV_pAx, gI_pA, gI_pIx] using a17), (fun f hf => absurd hf (Nat.not_lt_zero f))⟩
  refine ev_b (md_read (g := 0) h3 (w := w) (by omega) hk 1 (Or.inr ⟨by simpa [gI_pIx] using nI_0.symm, rfl⟩)) (fun r hr => ?_)
  obtain ⟨r3, τ4⟩ := r
  have h4 : MI c τ4 := hr
  refine ev_bs (mI h4.1) ?_
  exact ev_some h4
