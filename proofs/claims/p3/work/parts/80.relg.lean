theorem r_giveUp {b c np nw nk nt nl nf j a : Nat} {σ τ : fr_S} (h1 : XI b σ) (hm : Sm c τ) (hR : RN b c np nw nk nt nl nf σ τ) (hj : j < 10) (ha : a ≤ 5) (he : gI σ 453 (b + 86 + 4 * j) = nI a) : rel (m_FR_giveUp b (b + 86 + 4 * j) σ) (m_Md_goOn c (nI j) (nI (a + 1)) τ) (fun σ' τ' => RN b c np nw nk nt nl nf σ' τ') := by
  have hs := h1.1
  unfold m_FR_giveUp
  refine rel_l ((oI_k (wt_k hs hj)).trans (congrArg some he)) ?_
  refine rel_l (xK hs) ?_
  rw [nI_1]
  obtain ⟨σ', τ', e, e', q⟩ := r_goOn (f := a + 1) h1 hm hR hj (by omega)
  rw [e, e']
  exact rel_some q.1
theorem r_falter {b c np nw nk nt nl nf j : Nat} {σ τ : fr_S} (h1 : XI b σ) (h2 : MI c τ) (hR : RN b c np nw nk nt nl nf σ τ) (hj : j < 10) (hb : gV τ (c + 17) j = 1) : rel (m_FR_falter b (b + 86 + 4 * j) σ) (m_Md_falter c (nI j) τ) (fun σ' τ' => RN b c np nw nk nt nl nf σ' τ') := by
  have hs := h1.1
  have hm := h2.1
  have hk := wt_k hs hj
  obtain ⟨-, np', nw', nk', nt', nl', nf', re, a1, a2, a3, a4, a5, a6, a7, a8, a9, a10, a11, a12, a13, a14, a15, a16, a17, a18⟩ := h2
  obtain ⟨w1, w2, w3, w4, w5, w6, w7, w8⟩ := hR.2.2.2.2.2.1 j hj
  obtain ⟨-, -, f, f1, f2⟩ := a12 j hj
  obtain ⟨m, a, p, m6, m1, m2, m3, -⟩ := busy_get a12 a11 hj hb
  have w6 := w6 (Or.inl hb)
  have w8 := w8 (by rw [hb]; decide)
  have e453 : gI σ 453 (b + 86 + 4 * j) = nI a := w6.1.trans m2
  have e454 : gI σ 454 (b + 86 + 4 * j) = nI f := w6.2.trans f2
  have e64 : gI σ 64 b = nI re := hR.2.1.1.trans a7.2
  have e77 := hR.2.1.2.1
  unfold m_FR_falter m_Md_falter
  refine rel_l ((oI_k hk).trans (congrArg some e454)) ?_
  refine rel_l ((xI hs).trans (congrArg some e64)) ?_
  refine rel_r (mP31 hm) ?_
  refine rel_r ((mV23 hm hj).trans (congrArg some f2)) ?_
  refine rel_r ((mI hm).trans (congrArg some a7.2)) ?_
  have hre := a7.1
  by_cases e : f = re
  · subst e
    refine rel_ln (by rw [nI_ltI (by omega) (by omega)]; omega) (rel_rp rfl ?_)
    refine rel_l (xK hs) ?_
    refine rel_r (mP26 hm) ?_
    refine rel_r ((mV18 hm hj).trans (congrArg some m2)) ?_
    refine rel_r (mK hm) ?_
    rw [nI_1]
    exact rel_b (r_giveUp h1 hm hR hj (by omega) e453) (fun σ' τ' q => rel_some q)
  · refine rel_lp (by rw [nI_ltI (by omega) (by omega)]; omega) (rel_rn (fun z => e (nI_inj (by omega) (by omega) z)) ?_)
    refine rel_l ((xI hs).trans (congrArg some e77)) ?_
    refine rel_l ((oI_k hk).trans (congrArg some e454)) ?_
    refine rel_l (sI_k hk) ?_
    refine rel_l (Eq.trans (oI_k (show gK (pI σ 455 (b + 86 + 4 * j) (gI τ 2 c + (1 <<< (nI f &&& 31)))) (b + 86 + 4 * j) = some (.inl 7) from hk)) (congrArg some (show _ = nI f by rw [gI_pIf (by decide)]; exact e454))) ?_
    refine rel_l (sI_k (show gK (pI σ 455 (b + 86 + 4 * j) (gI τ 2 c + (1 <<< (nI f &&& 31)))) (b + 86 + 4 * j) = some (.inl 7) from hk)) ?_
    refine rel_l (sI_k (show gK (pI (pI σ 455 (b + 86 + 4 * j) (gI τ 2 c + (1 <<< (nI f &&& 31)))) 454 (b + 86 + 4 * j) (nI f + 1)) (b + 86 + 4 * j) = some (.inl 7) from hk)) ?_
    refine rel_r (mP25 hm) ?_
    refine rel_r (mS17 hm hj) ?_
    have hm2 : Sm c (pA τ (c + 17) (upd (gV τ (c + 17)) j 2)) := hm
    refine rel_r (mP29 hm2) ?_
    refine rel_r (mI hm2) ?_
    refine rel_r (mP31 hm2) ?_
    refine rel_r (Eq.trans (mV23 hm2 hj) (congrArg some (show _ = nI f by rw [gV_pAn (by omega)]; exact f2))) ?_
    refine rel_r (mS21 hm2 hj) ?_
    have e2 : gI (pA τ (c + 17) (upd (gV τ (c + 17)) j 2)) 2 c = gI τ 2 c := rfl
    rw [e2]
    generalize gI τ 2 c + (1 <<< (nI f &&& 31)) = v
    have hm3 : Sm c (pA (pA τ (c + 17) (upd (gV τ (c + 17)) j 2)) (c + 21) (upd (gV (pA τ (c + 17) (upd (gV τ (c + 17)) j 2)) (c + 21)) j v)) := hm
    refine rel_r (mP31 hm3) ?_
    refine rel_r (Eq.trans (mV23 hm3 hj) (congrArg some (show _ = nI f by rw [gV_pAn (by omega), gV_pAn (by omega)]; exact f2))) ?_
    refine rel_r (mS23 hm3 hj) ?_
    refine rel_some (RN_want hj hR (DX_w (DX_w (DX_w DX_rf))) (DM_a (by decide) (DM_a (by decide) (DM_a (by decide) DM_rf))) ?_)
    refine ⟨?_, ?_, ?_, ?_, fun m' k em h6 hk' => ?_, fun y => ⟨?_, ?_⟩, fun y => ?_, fun y => ⟨?_, fun m' k em h6 hk' => ?_⟩⟩
    · rw [gI_pIf (by decide), gI_pIf (by decide), gI_pIf (by decide), gV_pAn (by omega), gV_pAn (by omega), gV_pAn (by omega)]; exact w1
    · rw [gI_pIf (by decide), gI_pIf (by decide), gI_pIf (by decide), gV_pAn (by omega), gV_pAn (by omega), gV_pAn (by omega)]; exact w2
    · rw [gI_pIs, gV_pAn (by omega), gV_pAn (by omega), gV_pAs, upd_s]
    · rw [gI_pIf (by decide), gI_pIf (by decide), gI_pIf (by decide), gV_pAn (by omega), gV_pAn (by omega), gV_pAn (by omega)]; exact w4
    · rw [gV_pAn (by omega), gV_pAn (by omega), gV_pAn (by omega)] at em
      rw [gV_pI, gV_pI, gV_pI, gV_pAn (by omega), gV_pAn (by omega), gV_pAn (by omega)]
      exact w5 m' k em h6 hk'
    · rw [gI_pIf (by decide), gI_pIf (by decide), gI_pIf (by decide), gV_pAn (by omega), gV_pAn (by omega), gV_pAn (by omega)]; exact w6.1
    · rw [gI_pIf (by decide), gI_pIs, gV_pAs, upd_s]
    · rw [gI_pIf (by decide), gI_pIf (by decide), gI_pIs, gV_pAn (by omega), gV_pAs, upd_s]
    · rw [gI_pIf (by decide), gI_pIf (by decide), gI_pIf (by decide), gV_pAn (by omega), gV_pAn (by omega), gV_pAn (by omega)]; exact w8.1
    · rw [gV_pAn (by omega), gV_pAn (by omega), gV_pAn (by omega)] at em
      rw [gV_pI, gV_pI, gV_pI, gV_pAn (by omega), gV_pAn (by omega), gV_pAn (by omega)]
      exact w8.2 m' k em h6 hk'
