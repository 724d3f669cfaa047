theorem nI_rng {x : Int32} {lo hi : Nat} (h1 : ¬ x < nI lo) (h2 : x ≤ nI hi) (hh : hi < 2 ^ 31) (hl : lo ≤ hi) : ∃ j : Nat, lo ≤ j ∧ j ≤ hi ∧ x = nI j := by
  rw [Int32.lt_iff_toInt_lt, nI_toInt (by omega)] at h1
  rw [Int32.le_iff_toInt_le, nI_toInt hh] at h2
  refine ⟨x.toInt.toNat, by omega, by omega, ?_⟩
  apply Int32.toInt_inj.mp
  rw [nI_toInt (by omega)]
  omega
theorem I_wp_mono {np : Nat} {pm po : Nat → Int32} (h : I_wp np pm po) : I_wp (np + 1) pm po := by
  intro j hj
  obtain ⟨m, h1, h2, h3⟩ := h j hj
  refine ⟨m, h1, h2, fun k hk => ?_⟩
  obtain ⟨p, g1, g2⟩ := h3 k hk
  exact ⟨p, by omega, g2⟩
theorem I_to_mono {np nw nt : Nat} {ba pm po st at_ tw tp : Nat → Int32} (h : I_to np nw nt ba pm po st at_ tw tp) : I_to (np + 1) nw nt ba pm po st at_ tw tp := by
  refine ⟨fun i hi => ?_, h.2⟩
  obtain ⟨w, k, m, p, h1, h2, h3, h4, h5, h6⟩ := h.1 i hi
  exact ⟨w, k, m, p, h1, h2, h3, h4, by omega, h6⟩
theorem I_pl_add {np h r : Nat} {ho ra le : Nat → Int32} (hI : I_pl np ho ra le) (hh : h < 8) (hr1 : 1 ≤ r) (hr : r ≤ 50) : I_pl (np + 1) (upd ho np (nI h)) (upd ra np (nI r)) (upd le np (-1)) := by
  intro i hi
  by_cases hin : i = np
  · subst hin
    exact ⟨⟨h, hh, upd_s⟩, ⟨r, hr1, hr, upd_s⟩, Or.inl upd_s⟩
  · obtain ⟨g1, g2, g3⟩ := hI i (by omega)
    rw [upd_n hin, upd_n hin, upd_n hin]
    refine ⟨g1, g2, ?_⟩
    rcases g3 with g3 | ⟨j, hj, g3⟩
    · exact Or.inl g3
    · exact Or.inr ⟨j, by omega, g3⟩
theorem I_ws_mono {nw re : Nat} {pm st at_ ha fa : Nat → Int32} (h : I_ws nw re pm st at_ ha fa) : I_ws (nw + 1) re pm st at_ ha fa := by
  intro j hj
  obtain ⟨⟨s, h1, h2, h3⟩, h4⟩ := h j hj
  refine ⟨⟨s, h1, h2, fun hb => ?_⟩, h4⟩
  obtain ⟨g1, g2⟩ := h3 hb
  exact ⟨by omega, g2⟩
theorem I_ke_new {nw nk : Nat} {go ke ks : Nat → Int32} {x : Int32} (h : I_ke nw nk go ke ks) : I_ke (nw + 1) nk (upd go nw x) ke ks := by
  refine ⟨fun k hk => ?_, h.2⟩
  obtain ⟨⟨j, hj, h1⟩, h2⟩ := h.1 k hk
  exact ⟨⟨j, by omega, by rw [upd_n (by omega)]; exact h1⟩, h2⟩
theorem I_to_monow {np nw nt : Nat} {ba pm po st at_ tw tp : Nat → Int32} (h : I_to np nw nt ba pm po st at_ tw tp) : I_to np (nw + 1) nt ba pm po st at_ tw tp := by
  refine ⟨fun i hi => ?_, h.2⟩
  obtain ⟨w, k, m, p, h1, h2⟩ := h.1 i hi
  exact ⟨w, k, m, p, by omega, h2⟩
theorem I_la_mono {nw nl : Nat} {la : Nat → Int32} (h : I_la nw nl la) : I_la (nw + 1) nl la := by
  refine ⟨fun k hk => ?_, h.2⟩
  obtain ⟨w, h1, h2⟩ := h.1 k hk
  exact ⟨w, by omega, h2⟩
theorem md_place {c : Nat} {τ : fr_S} (h : MI c τ) (x1 x2 : Int32) : ev (m_Md_place c x1 x2 τ) (fun q => MI c q.2) := by
  unfold m_Md_place
  refine ev_bs (mSI h.1) ?_
  have h := M_code (v := 0) h
  generalize pI τ 1 c 0 = τ at h ⊢
  obtain ⟨hs, np, nw, nk, nt, nl, nf, re, a1, a2, a3, a4, a5, a6, a7, a8, a9, a10, a11, a12, a13, a14, a15, a16, a17, a18⟩ := id h
  refine ev_bs ((mI hs).trans (congrArg some a1.2)) ?_
  refine ev_if (fun _ => ev_some h) (fun h16 => ?_)
  refine ev_if (fun _ => ev_some h) (fun h0 => ?_)
  refine ev_if (fun _ => ev_some h) (fun h8 => ?_)
  refine ev_if (fun _ => ev_some h) (fun h1 => ?_)
  refine ev_if (fun h50 => ?_) (fun _ => ev_some h)
  have hnp : np < 16 := by
    have h9 : ¬ np = 16 := fun z => h16 (by rw [z]; exact nI_lit16.symm)
    have := a1.1
    omega
  obtain ⟨hh, hh8, rfl⟩ := nI_get (x := x1) (n := 8) (by decide) h0 (by rw [← nI_lit8]; exact h8)
  obtain ⟨r, hr1, hr50, rfl⟩ := nI_rng (x := x2) (lo := 1) (hi := 50) (by rw [← nI_lit1]; exact h1) (by rw [← nI_lit50]; exact h50) (by decide) (by decide)
  refine ev_bs (mP11 hs) ?_
  refine ev_bs ((mI hs).trans (congrArg some a1.2)) ?_
  refine ev_bs (mS3 hs hnp) ?_
  refine ev_bs (mP12 hs) ?_
  refine ev_bs ((mI hs).trans (congrArg some a1.2)) ?_
  refine ev_bs (mS4 hs hnp) ?_
  refine ev_bs (mP14 hs) ?_
  refine ev_bs ((mI hs).trans (congrArg some a1.2)) ?_
  refine ev_bs (mS6 hs hnp) ?_
  refine ev_bs ((mI hs).trans (congrArg some a1.2)) ?_
  refine ev_bs (mSI hs) ?_
  refine ev_bs (mI hs) ?_
  refine ev_some ⟨hs, np + 1, nw, nk, nt, nl, nf, re, ⟨by omega, by simpa [gI_pIx] using nI_1 np⟩, (by simpa [gV_pI, gV_pAx, gI_pA, gI_pIx] using a2), (by simpa [gV_pI, gV_pAx, gI_pA, gI_pIx] using a3), (by simpa [gV_pI, gV_pAx, gI_pA, gI_pIx] using a4), (by simpa [gV_pI, gV_pAx, gI_pA, gI_pIx] using a5), (by simpa [gV_pI, gV_pAx, gI_pA, gI_pIx] using a6), (by simpa [gV_pI, gV_pAx, gI_pA, gI_pIx] using a7), (by simpa [gV_pI, gV_pAx] using I_pl_add a8 hh8 hr1 hr50), (by simpa [gV_pI, gV_pAx, gI_pA, gI_pIx] using a9), (by simpa [gV_pI, gV_pAx, gI_pA, gI_pIx] using a10), (by simpa [gV_pI, gV_pAx] using I_wp_mono a11), (by simpa [gV_pI, gV_pAx, gI_pA, gI_pIx] using a12), (by simpa [gV_pI, gV_pAx, gI_pA, gI_pIx] using a13), (by simpa [gV_pI, gV_pAx, gI_pA, gI_pIx] using a14), (by simpa [gV_pI, gV_pAx, gI_pA, gI_pIx] using a15), (by simpa [gV_pI, gV_pAx] using I_to_mono a16), (by simpa [gV_pI, gV_pAx, gI_pA, gI_pIx] using a17), (by simpa [gV_pI, gV_pAx, gI_pA, gI_pIx] using a18)⟩
theorem md_want {c : Nat} {τ : fr_S} (h : MI c τ) (x1 : Int32) : ev (m_Md_want c x1 τ) (fun q => MI c q.2) := by
  unfold m_Md_want
  refine ev_bs (mSI h.1) ?_
  have h := M_code (v := 0) h
  generalize pI τ 1 c 0 = τ at h ⊢
  obtain ⟨hs, np, nw, nk, nt, nl, nf, re, a1, a2, a3, a4, a5, a6, a7, a8, a9, a10, a11, a12, a13, a14, a15, a16, a17, a18⟩ := id h
  refine ev_bs ((mI hs).trans (congrArg some a2.2)) ?_
  refine ev_if (fun _ => ev_some h) (fun h10 => ?_)
  have hnw : nw < 10 := by
    have h9 : ¬ nw = 10 := fun z => h10 (by rw [z]; exact nI_lit10.symm)
    have := a2.1
    omega
  refine ev_bs (mP22 hs) ?_
  refine ev_bs ((mI hs).trans (congrArg some a2.2)) ?_
  refine ev_bs (mS14 hs hnw) ?_
  refine ev_bs ((mI hs).trans (congrArg some a2.2)) ?_
  refine ev_bs (mSI hs) ?_
  refine ev_bs (mI hs) ?_
  refine ev_some ⟨hs, np, nw + 1, nk, nt, nl, nf, re, (by simpa [gV_pI, gV_pAx, gI_pA, gI_pIx] using a1), ⟨by omega, by simpa [gI_pIx] using nI_1 nw⟩, (by simpa [gV_pI, gV_pAx, gI_pA, gI_pIx] using a3), (by simpa [gV_pI, gV_pAx, gI_pA, gI_pIx] using a4), (by simpa [gV_pI, gV_pAx, gI_pA, gI_pIx] using a5), (by simpa [gV_pI, gV_pAx, gI_pA, gI_pIx] using a6), (by simpa [gV_pI, gV_pAx, gI_pA, gI_pIx] using a7), (by simpa [gV_pI, gV_pAx, gI_pA, gI_pIx] using a8), (by simpa [gV_pI, gV_pAx, gI_pA, gI_pIx] using a9), (by simpa [gV_pI, gV_pAx, gI_pA, gI_pIx] using a10), (by simpa [gV_pI, gV_pAx, gI_pA, gI_pIx] using a11), (by simpa [gV_pI, gV_pAx] using I_ws_mono a12), (by simpa [gV_pI, gV_pAx, gI_pA, gI_pIx] using a13), (by simpa [gV_pI, gV_pAx] using I_ke_new a14), (by simpa [gV_pI, gV_pAx, gI_pA, gI_pIx] using a15), (by simpa [gV_pI, gV_pAx] using I_to_monow a16), (by simpa [gV_pI, gV_pAx] using I_la_mono a17), (by simpa [gV_pI, gV_pAx, gI_pA, gI_pIx] using a18)⟩
theorem md_offLine {c : Nat} {τ : fr_S} (h : MI c τ) (x1 : Int32) (hz : x1 = 0 ∨ x1 = 1) : ev (m_Md_offLine c x1 τ) (fun q => MI c q) := by
  unfold m_Md_offLine
  refine ev_bs (mSI h.1) ?_
  have h := M_code (v := 0) h
  generalize pI τ 1 c 0 = τ at h ⊢
  obtain ⟨hs, np, nw, nk, nt, nl, nf, re, a1, a2, a3, a4, a5, a6, a7, a8, a9, a10, a11, a12, a13, a14, a15, a16, a17, a18⟩ := id h
  refine ev_bs (mSZ hs hz) ?_
  refine ev_bs (mSI hs) ?_
  refine ev_some ⟨hs, np, nw, nk, nt, 0, nf, re, (by simpa [gV_pI, gV_pAx, gI_pA, gI_pIx] using a1), (by simpa [gV_pI, gV_pAx, gI_pA, gI_pIx] using a2), (by simpa [gV_pI, gV_pAx, gI_pA, gI_pIx] using a3), (by simpa [gV_pI, gV_pAx, gI_pA, gI_pIx] using a4), (by simpa [gI_pIx] using nI_0.symm), (by simpa [gV_pI, gV_pAx, gI_pA, gI_pIx] using a6), (by simpa [gV_pI, gV_pAx, gI_pA, gI_pIx] using a7), (by simpa [gV_pI, gV_pAx, gI_pA, gI_pIx] using a8), (by simpa [gV_pI, gV_pAx, gI_pA, gI_pIx] using a9), (by simpa [gV_pI, gV_pAx, gI_pA, gI_pIx] using a10), (by simpa [gV_pI, gV_pAx, gI_pA, gI_pIx] using a11), (by simpa [gV_pI, gV_pAx, gI_pA, gI_pIx] using a12), (by simpa [gV_pI, gV_pAx, gI_pA, gI_pIx] using a13), (by simpa [gV_pI, gV_pAx, gI_pA, gI_pIx] using a14), (by simpa [gV_pI, gV_pAx, gI_pA, gI_pIx] using a15), (by simpa [gV_pI, gV_pAx, gI_pA, gI_pIx] using a16), ⟨fun k hk => absurd hk (Nat.not_lt_zero k), fun k k' _ hk => absurd hk (Nat.not_lt_zero k')⟩, (by simpa [gV_pI, gV_pAx, gI_pA, gI_pIx] using a18)⟩
theorem I_sz_cut {i t n : Nat} {si cu cb : Nat → Int32} (hI : I_sz si cu cb) (ht : t ≤ 9) (hn : n ≤ 100) : I_sz si (upd cu i (nI t)) (upd cb i (nI n)) := by
  intro k hk
  obtain ⟨g1, g2, g3⟩ := hI k hk
  by_cases hki : k = i
  · subst hki
    exact ⟨g1, ⟨t, ht, upd_s⟩, ⟨n, hn, upd_s⟩⟩
  · rw [upd_n hki, upd_n hki]
    exact ⟨g1, g2, g3⟩
theorem md_cut {c : Nat} {τ : fr_S} (h : MI c τ) (x1 x2 x3 : Int32) : ev (m_Md_cut c x1 x2 x3 τ) (fun q => MI c q.2) := by
  unfold m_Md_cut
  refine ev_bs (mSI h.1) ?_
  have h := M_code (v := 0) h
  generalize pI τ 1 c 0 = τ at h ⊢
  obtain ⟨hs, np, nw, nk, nt, nl, nf, re, a1, a2, a3, a4, a5, a6, a7, a8, a9, a10, a11, a12, a13, a14, a15, a16, a17, a18⟩ := id h
  refine ev_bs (mK hs) ?_
  refine ev_b (md_isPlace hs a1 x1) (fun r hr => ?_)
  refine ev_if (fun _ => ev_some h) (fun hr0 => ?_)
  refine ev_if (fun _ => ev_some h) (fun h2 => ?_)
  refine ev_if (fun _ => ev_some h) (fun h2' => ?_)
  refine ev_if (fun _ => ev_some h) (fun h3 => ?_)
  refine ev_if (fun h3' => ?_) (fun _ => ev_some h)
  rcases hr with hr | ⟨-, i, hi, rfl⟩
  · exact absurd hr.1 hr0
  have hnp := a1.1
  obtain ⟨t, -, ht, rfl⟩ := nI_rng (x := x2) (lo := 0) (hi := 9) (by rw [nI_0]; exact h2) (by rw [← nI_lit9]; exact Int32.not_lt.mp h2') (by decide) (by decide)
  obtain ⟨n, -, hn, rfl⟩ := nI_rng (x := x3) (lo := 0) (hi := 100) (by rw [nI_0]; exact h3) (by rw [← nI_lit100]; exact h3') (by decide) (by decide)
  refine ev_bs (mP15 hs) ?_
  refine ev_bs (mS7 hs (by omega)) ?_
  refine ev_bs (mP16 hs) ?_
  refine ev_bs (mS8 hs (by omega)) ?_
  refine ev_some ⟨hs, np, nw, nk, nt, nl, nf, re, (by simpa [gV_pI, gV_pAx, gI_pA, gI_pIx] using a1), (by simpa [gV_pI, gV_pAx, gI_pA, gI_pIx] using a2), (by simpa [gV_pI, gV_pAx, gI_pA, gI_pIx] using a3), (by simpa [gV_pI, gV_pAx, gI_pA, gI_pIx] using a4), (by simpa [gV_pI, gV_pAx, gI_pA, gI_pIx] using a5), (by simpa [gV_pI, gV_pAx, gI_pA, gI_pIx] using a6), (by simpa [gV_pI, gV_pAx, gI_pA, gI_pIx] using a7), (by simpa [gV_pI, gV_pAx, gI_pA, gI_pIx] using a8), (by simpa [gV_pI, gV_pAx] using I_sz_cut a9 ht hn), (by simpa [gV_pI, gV_pAx, gI_pA, gI_pIx] using a10), (by simpa [gV_pI, gV_pAx, gI_pA, gI_pIx] using a11), (by simpa [gV_pI, gV_pAx, gI_pA, gI_pIx] using a12), (by simpa [gV_pI, gV_pAx, gI_pA, gI_pIx] using a13), (by simpa [gV_pI, gV_pAx, gI_pA, gI_pIx] using a14), (by simpa [gV_pI, gV_pAx, gI_pA, gI_pIx] using a15), (by simpa [gV_pI, gV_pAx, gI_pA, gI_pIx] using a16), (by simpa [gV_pI, gV_pAx, gI_pA, gI_pIx] using a17), (by simpa [gV_pI, gV_pAx, gI_pA, gI_pIx] using a18)⟩
