theorem md_tellLack_L {c w : Nat} {τ : fr_S} (h : MI c τ) (hw : ∃ n, gI τ 7 c = nI n ∧ n ≤ 10 ∧ w < n) : ∀ (nl : Nat), gI τ 10 c = nI nl → nl ≤ 10 → ∀ (n k : Nat) (fl : Int32), k ≤ nl → nl - k < n → ((fl = 0 ∧ ∀ j, j < k → gV τ (c + 30) j ≠ nI w) ∨ fl = 1) → ev (m_Md_tellLack_L4 n c (nI w) fl (nI k) τ) (fun q => MI c q) := by
  obtain ⟨hs, np, nw, nk, nt, nl, nf, re, a1, a2, a3, a4, a5, a6, a7, a8, a9, a10, a11, a12, a13, a14, a15, a16, a17, a18⟩ := id h
  obtain ⟨n0, w1, w2, w3⟩ := hw
  have hn0 : n0 = nw := nI_inj (by omega) (by have := a2.1; omega) (w1.symm.trans a2.2)
  subst hn0
  intro nl' hnl' hnl10
  have hnl : nl' = nl := nI_inj (by omega) (by have := I_la_le a17; omega) (hnl'.symm.trans a5)
  subst hnl
  intro n
  induction n with
  | zero => intro k fl _ hn; omega
  | succ n ih =>
    intro k fl hk hn hfl
    unfold m_Md_tellLack_L4
    refine ev_bs ((mI hs).trans (congrArg some a5)) ?_
    refine ev_if (fun z => ?_) (fun z => ?_)
    · rw [nI_leI (by omega) (by omega)] at z
      refine ev_if (fun hf0 => ?_) (fun _ => ev_some h)
      rcases hfl with ⟨-, hne⟩ | hf1
      · have b17 := I_la_add a17 w3 (fun j hj => hne j (by omega))
        have hb := I_la_le b17
        refine ev_bs (mP38 hs) ?_
        refine ev_bs ((mI hs).trans (congrArg some a5)) ?_
        refine ev_bs (mS30 hs (by omega)) ?_
        refine ev_bs (Eq.trans (mI hs) (congrArg some (show gI (pA τ (c + 30) (upd (gV τ (c + 30)) nl' (nI w))) 10 c = nI nl' from a5))) ?_
        refine ev_bs (mSI hs) ?_
        exact ev_some ⟨hs, np, n0, nk, nt, nl' + 1, nf, re, (by simpa [gV_pI, gV_pAx, gI_pA, gI_pIx] using a1), (by simpa [gV_pI, gV_pAx, gI_pA, gI_pIx] using a2), (by simpa [gV_pI, gV_pAx, gI_pA, gI_pIx] using a3), (by simpa [gV_pI, gV_pAx, gI_pA, gI_pIx] using a4), (by simpa [gI_pIx] using nI_1 nl'), (by simpa [gV_pI, gV_pAx, gI_pA, gI_pIx] using a6), (by simpa [gV_pI, gV_pAx, gI_pA, gI_pIx] using a7), (by simpa [gV_pI, gV_pAx, gI_pA, gI_pIx] using a8), (by simpa [gV_pI, gV_pAx, gI_pA, gI_pIx] using a9), (by simpa [gV_pI, gV_pAx, gI_pA, gI_pIx] using a10), (by simpa [gV_pI, gV_pAx, gI_pA, gI_pIx] using a11), (by simpa [gV_pI, gV_pAx, gI_pA, gI_pIx] using a12), (by simpa [gV_pI, gV_pAx, gI_pA, gI_pIx] using a13), (by simpa [gV_pI, gV_pAx, gI_pA, gI_pIx] using a14), (by simpa [gV_pI, gV_pAx, gI_pA, gI_pIx] using a15), (by simpa [gV_pI, gV_pAx, gI_pA, gI_pIx] using a16), (by simpa [gV_pI, gV_pAx] using b17), (by simpa [gV_pI, gV_pAx, gI_pA, gI_pIx] using a18)⟩
      · rw [hf1] at hf0
        exact absurd hf0 (by decide)
    · rw [nI_leI (by omega) (by omega)] at z
      refine ev_if (fun hf0 => ?_) (fun hf0 => ?_)
      · refine ev_bs (mP38 hs) ?_
        refine ev_bs (mV30 hs (by omega)) ?_
        refine ev_if (fun he => ?_) (fun he => ?_)
        · rw [nI_1]
          exact ih (k + 1) 1 (by omega) (by omega) (Or.inr rfl)
        · rw [nI_1]
          refine ih (k + 1) 0 (by omega) (by omega) (Or.inl ⟨rfl, fun j hj => ?_⟩)
          by_cases hjk : j = k
          · subst hjk; exact he
          · rcases hfl with ⟨-, hne⟩ | hf1
            · exact hne j (by omega)
            · rw [hf1] at hf0
              exact absurd hf0 (by decide)
      · rw [nI_1]
        exact ih (k + 1) 1 (by omega) (by omega) (Or.inr rfl)
theorem md_tellLack {c w : Nat} {τ : fr_S} (h : MI c τ) (hw : ∃ n, gI τ 7 c = nI n ∧ n ≤ 10 ∧ w < n) : ev (m_Md_tellLack c (nI w) τ) (fun q => MI c q) := by
  unfold m_Md_tellLack
  obtain ⟨hs, np, nw, nk, nt, nl, nf, re, a1, a2, a3, a4, a5, a6, a7, a8, a9, a10, a11, a12, a13, a14, a15, a16, a17, a18⟩ := id h
  have hb := I_la_le a17
  have hw10 := a2.1
  have key := md_tellLack_L h hw nl a5 (by omega) 1000 0 0 (Nat.zero_le _) (by omega) (Or.inl ⟨rfl, fun j hj => absurd hj (Nat.not_lt_zero j)⟩)
  rw [nI_0] at key
  exact key
theorem I_ws_st {nw re w s' : Nat} {pm st at_ ha fa : Nat → Int32} (h : I_ws nw re pm st at_ ha fa) (hs : s' = 3 ∨ s' = 4 ∨ s' = 0) : I_ws nw re pm (upd st w (nI s')) at_ ha fa := by
  intro j hj
  obtain ⟨⟨s, g1, g2, g3⟩, g4⟩ := h j hj
  by_cases hjw : j = w
  · subst hjw
    have e1 : s' ≤ 4 := by rcases hs with e | e | e <;> rw [e] <;> decide
    have e2 : ¬ (s' = 1 ∨ s' = 2) := by rcases hs with e | e | e <;> rw [e] <;> decide
    exact ⟨⟨s', e1, upd_s, fun hb => absurd hb e2⟩, g4⟩
  · rw [upd_n hjw]
    exact ⟨⟨s, g1, g2, g3⟩, g4⟩
theorem I_to_st {np nw nt w s' : Nat} {ba pm po st at_ tw tp : Nat → Int32} (h : I_to np nw nt ba pm po st at_ tw tp) (hs : s' = 3 ∨ s' = 4 ∨ s' = 0) : I_to np nw nt ba pm po (upd st w (nI s')) at_ tw tp := by
  refine ⟨fun i hi => ?_, h.2⟩
  obtain ⟨w', k', m', q, g1, g2, g3, g4, g5, g6, g7, g8, g9, g10⟩ := h.1 i hi
  refine ⟨w', k', m', q, g1, g2, g3, g4, g5, g6, g7, g8, g9, fun hb a ha hal => ?_⟩
  by_cases hww : w' = w
  · subst hww
    rw [upd_s] at hb
    rcases hs with rfl | rfl | rfl <;> exact absurd hb (by decide)
  · rw [upd_n hww] at hb
    exact g10 hb a ha hal
theorem MI_st {c w s' : Nat} {τ : fr_S} (h : MI c τ) (hs' : s' = 3 ∨ s' = 4 ∨ s' = 0) : MI c (pA τ (c + 17) (upd (gV τ (c + 17)) w (nI s'))) := by
  obtain ⟨hs, np, nw, nk, nt, nl, nf, re, a1, a2, a3, a4, a5, a6, a7, a8, a9, a10, a11, a12, a13, a14, a15, a16, a17, a18⟩ := id h
  exact ⟨hs, np, nw, nk, nt, nl, nf, re, (by simpa [gV_pI, gV_pAx, gI_pA, gI_pIx] using a1), (by simpa [gV_pI, gV_pAx, gI_pA, gI_pIx] using a2), (by simpa [gV_pI, gV_pAx, gI_pA, gI_pIx] using a3), (by simpa [gV_pI, gV_pAx, gI_pA, gI_pIx] using a4), (by simpa [gV_pI, gV_pAx, gI_pA, gI_pIx] using a5), (by simpa [gV_pI, gV_pAx, gI_pA, gI_pIx] using a6), (by simpa [gV_pI, gV_pAx, gI_pA, gI_pIx] using a7), (by simpa [gV_pI, gV_pAx, gI_pA, gI_pIx] using a8), (by simpa [gV_pI, gV_pAx, gI_pA, gI_pIx] using a9), (by simpa [gV_pI, gV_pAx, gI_pA, gI_pIx] using a10), (by simpa [gV_pI, gV_pAx, gI_pA, gI_pIx] using a11), (by simpa [gV_pAx] using I_ws_st (w := w) a12 hs'), (by simpa [gV_pI, gV_pAx, gI_pA, gI_pIx] using a13), (by simpa [gV_pI, gV_pAx, gI_pA, gI_pIx] using a14), (by simpa [gV_pI, gV_pAx, gI_pA, gI_pIx] using a15), (by simpa [gV_pAx] using I_to_st (w := w) a16 hs'), (by simpa [gV_pI, gV_pAx, gI_pA, gI_pIx] using a17), (by simpa [gV_pI, gV_pAx, gI_pA, gI_pIx] using a18)⟩
theorem I_ws_ha {nw re w n : Nat} {pm st at_ ha fa : Nat → Int32} (h : I_ws nw re pm st at_ ha fa) (hn : n ≤ 100) : I_ws nw re pm st at_ (upd ha w (nI n)) fa := by
  intro j hj
  obtain ⟨g1, g2, g3⟩ := h j hj
  by_cases hjw : j = w
  · subst hjw
    exact ⟨g1, ⟨n, hn, upd_s⟩, g3⟩
  · rw [upd_n hjw]
    exact ⟨g1, g2, g3⟩
theorem MI_ha {c w n : Nat} {τ : fr_S} (h : MI c τ) (hn : n ≤ 100) : MI c (pA τ (c + 19) (upd (gV τ (c + 19)) w (nI n))) := by
  obtain ⟨hs, np, nw, nk, nt, nl, nf, re, a1, a2, a3, a4, a5, a6, a7, a8, a9, a10, a11, a12, a13, a14, a15, a16, a17, a18⟩ := id h
  exact ⟨hs, np, nw, nk, nt, nl, nf, re, (by simpa [gV_pI, gV_pAx, gI_pA, gI_pIx] using a1), (by simpa [gV_pI, gV_pAx, gI_pA, gI_pIx] using a2), (by simpa [gV_pI, gV_pAx, gI_pA, gI_pIx] using a3), (by simpa [gV_pI, gV_pAx, gI_pA, gI_pIx] using a4), (by simpa [gV_pI, gV_pAx, gI_pA, gI_pIx] using a5), (by simpa [gV_pI, gV_pAx, gI_pA, gI_pIx] using a6), (by simpa [gV_pI, gV_pAx, gI_pA, gI_pIx] using a7), (by simpa [gV_pI, gV_pAx, gI_pA, gI_pIx] using a8), (by simpa [gV_pI, gV_pAx, gI_pA, gI_pIx] using a9), (by simpa [gV_pI, gV_pAx, gI_pA, gI_pIx] using a10), (by simpa [gV_pI, gV_pAx, gI_pA, gI_pIx] using a11), (by simpa [gV_pAx] using I_ws_ha (w := w) a12 hn), (by simpa [gV_pI, gV_pAx, gI_pA, gI_pIx] using a13), (by simpa [gV_pI, gV_pAx, gI_pA, gI_pIx] using a14), (by simpa [gV_pI, gV_pAx, gI_pA, gI_pIx] using a15), (by simpa [gV_pI, gV_pAx, gI_pA, gI_pIx] using a16), (by simpa [gV_pI, gV_pAx, gI_pA, gI_pIx] using a17), (by simpa [gV_pI, gV_pAx, gI_pA, gI_pIx] using a18)⟩
theorem MI_row {c k x : Nat} {τ : fr_S} (h : MI c τ) (hx : x < 256) : MI c (pA τ (c + 20) (upd (gV τ (c + 20)) k (nI x))) := by
  obtain ⟨hs, np, nw, nk, nt, nl, nf, re, a1, a2, a3, a4, a5, a6, a7, a8, a9, a10, a11, a12, a13, a14, a15, a16, a17, a18⟩ := id h
  exact ⟨hs, np, nw, nk, nt, nl, nf, re, (by simpa [gV_pI, gV_pAx, gI_pA, gI_pIx] using a1), (by simpa [gV_pI, gV_pAx, gI_pA, gI_pIx] using a2), (by simpa [gV_pI, gV_pAx, gI_pA, gI_pIx] using a3), (by simpa [gV_pI, gV_pAx, gI_pA, gI_pIx] using a4), (by simpa [gV_pI, gV_pAx, gI_pA, gI_pIx] using a5), (by simpa [gV_pI, gV_pAx, gI_pA, gI_pIx] using a6), (by simpa [gV_pI, gV_pAx, gI_pA, gI_pIx] using a7), (by simpa [gV_pI, gV_pAx, gI_pA, gI_pIx] using a8), (by simpa [gV_pI, gV_pAx, gI_pA, gI_pIx] using a9), (by simpa [gV_pI, gV_pAx, gI_pA, gI_pIx] using a10), (by simpa [gV_pI, gV_pAx, gI_pA, gI_pIx] using a11), (by simpa [gV_pI, gV_pAx, gI_pA, gI_pIx] using a12), (by simpa [gV_pAx] using I_by_upd (k := k) a13 hx), (by simpa [gV_pI, gV_pAx, gI_pA, gI_pIx] using a14), (by simpa [gV_pI, gV_pAx, gI_pA, gI_pIx] using a15), (by simpa [gV_pI, gV_pAx, gI_pA, gI_pIx] using a16), (by simpa [gV_pI, gV_pAx, gI_pA, gI_pIx] using a17), (by simpa [gV_pI, gV_pAx, gI_pA, gI_pIx] using a18)⟩
theorem MI_krow {c k x : Nat} {τ : fr_S} (h : MI c τ) (hx : x < 256) : MI c (pA τ (c + 26) (upd (gV τ (c + 26)) k (nI x))) := by
  obtain ⟨hs, np, nw, nk, nt, nl, nf, re, a1, a2, a3, a4, a5, a6, a7, a8, a9, a10, a11, a12, a13, a14, a15, a16, a17, a18⟩ := id h
  exact ⟨hs, np, nw, nk, nt, nl, nf, re, (by simpa [gV_pI, gV_pAx, gI_pA, gI_pIx] using a1), (by simpa [gV_pI, gV_pAx, gI_pA, gI_pIx] using a2), (by simpa [gV_pI, gV_pAx, gI_pA, gI_pIx] using a3), (by simpa [gV_pI, gV_pAx, gI_pA, gI_pIx] using a4), (by simpa [gV_pI, gV_pAx, gI_pA, gI_pIx] using a5), (by simpa [gV_pI, gV_pAx, gI_pA, gI_pIx] using a6), (by simpa [gV_pI, gV_pAx, gI_pA, gI_pIx] using a7), (by simpa [gV_pI, gV_pAx, gI_pA, gI_pIx] using a8), (by simpa [gV_pI, gV_pAx, gI_pA, gI_pIx] using a9), (by simpa [gV_pI, gV_pAx, gI_pA, gI_pIx] using a10), (by simpa [gV_pI, gV_pAx, gI_pA, gI_pIx] using a11), (by simpa [gV_pI, gV_pAx, gI_pA, gI_pIx] using a12), (by simpa [gV_pI, gV_pAx, gI_pA, gI_pIx] using a13), (by simpa [gV_pI, gV_pAx, gI_pA, gI_pIx] using a14), (by simpa [gV_pAx] using I_by_upd (k := k) a15 hx), (by simpa [gV_pI, gV_pAx, gI_pA, gI_pIx] using a16), (by simpa [gV_pI, gV_pAx, gI_pA, gI_pIx] using a17), (by simpa [gV_pI, gV_pAx, gI_pA, gI_pIx] using a18)⟩
theorem md_begin_L {c w q : Nat} (hw : w < 10) (hq : q < 10) : ∀ (n k : Nat) (τ : fr_S) (z : Nat), MI c τ → gV τ (c + 19) w = nI z → z ≤ 100 → k ≤ z → z - k < n → ev (m_Md_begin_L65 n c (nI w) (nI q) (nI k) τ) (fun r => MI c r.2) := by
  intro n
  induction n with
  | zero => intro k τ z _ _ _ _ h; omega
  | succ n ih =>
    intro k τ z h hz hz1 hk hn
    unfold m_Md_begin_L65
    have hs := h.1
    refine ev_bs (mP27 hs) ?_
    refine ev_bs ((mV19 hs hw).trans (congrArg some hz)) ?_
    refine ev_if (fun zz => ?_) (fun zz => ?_)
    · refine ev_bs (mP25 hs) ?_
      refine ev_bs (mS17 hs hw) ?_
      refine ev_bs (mP25 hs) ?_
      refine ev_bs (mV17 hs hw) ?_
      have key := MI_st (w := w) (s' := 3) h (by decide)
      rw [nI_v3] at key
      exact ev_some key
    · rw [nI_leI (by omega) (by omega)] at zz
      refine ev_bs (mP28 hs) ?_
      refine ev_bs (mP34 hs) ?_
      rw [nI_100, nI_100]
      obtain ⟨-, np, nw, nk, nt, nl, nf, re, -, -, -, -, -, -, -, -, -, -, -, -, -, -, a15, -⟩ := id h
      obtain ⟨x, hx, hxe⟩ := a15 (100 * q + k) (by omega)
      refine ev_bs ((mV26 hs (by omega)).trans (congrArg some hxe)) ?_
      refine ev_bs (mS20 hs (by omega)) ?_
      rw [nI_1]
      exact ih (k + 1) _ z (MI_row h hx) (by simpa [gV_pAx] using hz) hz1 (by omega) (by omega)
theorem md_begin {c : Nat} {τ : fr_S} (h : MI c τ) (x1 : Int32) : ev (m_Md_begin c x1 τ) (fun q => MI c q.2) := by
  unfold m_Md_begin
  refine ev_bs (mSI h.1) ?_
  have h := M_code (v := 0) h
  generalize pI τ 1 c 0 = τ at h ⊢
  obtain ⟨hs, np, nw, nk, nt, nl, nf, re, a1, a2, a3, a4, a5, a6, a7, a8, a9, a10, a11, a12, a13, a14, a15, a16, a17, a18⟩ := id h
  refine ev_bs (mK hs) ?_
  refine ev_b (md_isWant hs a2 x1) (fun r hr => ?_)
  refine ev_if (fun _ => ev_some h) (fun hr0 => ?_)
  rcases hr with hr | ⟨-, w, hw, rfl⟩
  · exact absurd hr.1 hr0
  have hnw := a2.1
  have hkl := I_ke_le a14
  have hww : ∃ n, gI τ 7 c = nI n ∧ n ≤ 10 ∧ w < n := ⟨nw, a2.2, a2.1, hw⟩
  refine ev_bs (mP25 hs) ?_
  refine ev_bs (mV17 hs (by omega)) ?_
  refine ev_if (fun _ => ev_some h) (fun _ => ?_)
  refine ev_bs (mP25 hs) ?_
  refine ev_bs (mV17 hs (by omega)) ?_
  refine ev_if (fun _ => ev_some h) (fun _ => ?_)
  refine ev_bs (mP22 hs) ?_
  refine ev_bs (mV14 hs (by omega)) ?_
  refine ev_bs (mK hs) ?_
  refine ev_b (md_keptOf hs a3 (by omega) _) (fun r hr => ?_)
  refine ev_if (fun hr1 => ?_) (fun hr1 => ?_)
  · refine ev_bs (mI hs) ?_
    refine ev_if (fun _ => ?_) (fun _ => ?_)
    · refine ev_bs (mK hs) ?_
      have key := md_goOn (f := 0) (MI_4 (w := w) h) hww (by omega)
      rw [nI_0] at key
      refine ev_b key (fun τ' h' => ?_)
      refine ev_bs (mP25 h'.1) ?_
      refine ev_bs (mV17 h'.1 (by omega)) ?_
      exact ev_some h'
    · refine ev_bs (mP27 hs) ?_
      refine ev_bs (mS19 hs (by omega)) ?_
      refine ev_bs (mP25 hs) ?_
      refine ev_bs (mS17 hs (by omega)) ?_
      refine ev_bs (mK hs) ?_
      have h1 := MI_ha (w := w) (n := 0) h (by omega)
      rw [nI_0] at h1
      have h2 := MI_st (w := w) (s' := 4) h1 (by decide)
      rw [nI_v4] at h2
      refine ev_b (md_tellLack h2 (by exact hww)) (fun τ' h' => ?_)
      refine ev_bs (mP25 h'.1) ?_
      refine ev_bs (mV17 h'.1 (by omega)) ?_
      exact ev_some h'
  · rcases hr with hr | ⟨q, hq, rfl, -⟩
    · exact absurd hr.1 hr1
    refine ev_bs (mP27 hs) ?_
    refine ev_bs (mP33 hs) ?_
    obtain ⟨-, z, hz1, hz2⟩ := a14.1 q hq
    refine ev_bs ((mV25 hs (by omega)).trans (congrArg some hz2)) ?_
    refine ev_bs (mS19 hs (by omega)) ?_
    have key := md_begin_L (c := c) (w := w) (q := q) (by omega) (by omega) 1000 0 _ z (MI_ha (w := w) h hz1) (by simp [gV_pAx, upd_s]) hz1 (by omega) (by omega)
    rw [nI_0] at key
    exact key
