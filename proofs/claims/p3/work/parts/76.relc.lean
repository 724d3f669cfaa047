theorem r_begin {b c : Nat} {σ τ : fr_S} (h : RR b c σ τ) (x : Int32) : rel (m_FR_begin b x σ) (m_Md_begin c x τ) (fun q q' => q.1 = q'.1 ∧ RR b c q.2 q'.2) := by
  obtain ⟨h1, h2, np, nw, nk, nt, nl, nf, hR⟩ := id h
  refine RS_end ?_ (x_begin h1 x) (md_begin h2 x)
  have hs := h1.1
  have hm : Sm c (pI τ 1 c 0) := h2.1
  have hR : RN b c np nw nk nt nl nf σ (pI τ 1 c 0) := hR
  have hM : MI c (pI τ 1 c 0) := M_code h2
  have hnw := hR.1.2.1
  have fin : RE b c σ (pI τ 1 c 0) := ⟨np, nw, nk, nt, nl, nf, hR⟩
  unfold m_FR_begin m_Md_begin
  refine rel_r (mSI h2.1) ?_
  generalize pI τ 1 c 0 = τ1 at hm hR hM hnw fin ⊢
  obtain ⟨-, np', nw', nk', nt', nl', nf', re, a1, a2, a3, a4, a5, a6, a7, a8, a9, a10, a11, a12, a13, a14, a15, a16, a17, a18⟩ := hM
  have enw : nw' = nw := nI_inj (by omega) (by omega) (a2.2.symm.trans hnw.2.2)
  subst enw
  have lek := I_ke_le a14
  have lel := I_la_le a17
  have enk : nk' = nk := nI_inj (by omega) (by have := hR.1.2.2.1.1; omega) (a3.symm.trans hR.1.2.2.1.2.2)
  have enl : nl' = nl := nI_inj (by omega) (by have := hR.1.2.2.2.2.1.1; omega) (a5.symm.trans hR.1.2.2.2.2.1.2.2)
  subst enk enl
  refine rel_l (xK hs) ?_
  refine rel_r (mK hm) ?_
  refine rel_b (r_isWant hs hm hR x) (fun r r' hr => ?_)
  rcases hr with ⟨rfl, rfl⟩ | ⟨rfl, rfl, j, hj, rfl⟩
  · exact rel_lp rfl (rel_rp rfl (rel_some ⟨rfl, fin⟩))
  refine rel_ln (by decide) (rel_rn (by decide) ?_)
  have hj10 : j < 10 := by omega
  have hk := wt_k hs hj10
  obtain ⟨w1, w2, w3, w4, w5, w6, w7, w8⟩ := hR.2.2.2.2.2.1 j hj10
  refine rel_l (xp69 hs) ?_
  refine rel_l (xW hs hj10) ?_
  refine rel_l (oK_k hk) ?_
  refine rel_el (r_isBusy hs hj10) (fun r hr => ?_)
  rw [w3] at hr
  rcases hr with ⟨rfl, hr⟩ | ⟨rfl, n1, n2⟩
  · refine rel_ln (by decide) ?_
    refine rel_r (mP25 hm) ?_
    refine rel_r (mV17 hm hj10) ?_
    refine rel_ir (fun _ => rel_some ⟨rfl, fin⟩) (fun z1 => ?_)
    refine rel_r (mP25 hm) ?_
    refine rel_r (mV17 hm hj10) ?_
    refine rel_ir (fun _ => rel_some ⟨rfl, fin⟩) (fun z2 => ?_)
    rcases hr with hr | hr
    · exact absurd hr z1
    · exact absurd hr z2
  refine rel_lp rfl ?_
  refine rel_r (mP25 hm) ?_
  refine rel_r (mV17 hm hj10) ?_
  refine rel_rn n1 ?_
  refine rel_r (mP25 hm) ?_
  refine rel_r (mV17 hm hj10) ?_
  refine rel_rn n2 ?_
  refine rel_l (xp69 hs) ?_
  refine rel_l (xW hs hj10) ?_
  refine rel_l (xp71 hs) ?_
  refine rel_l ((oI_k hk).trans (congrArg some w1)) ?_
  have hT := hs.1.2.2.2.2.2.1
  refine rel_l (oK_k hT.2.1) ?_
  refine rel_r (mP22 hm) ?_
  refine rel_r (mV14 hm hj10) ?_
  refine rel_r (mK hm) ?_
  refine rel_b (r_kept hs hm hR a14.2 _) (fun r r' hr => ?_)
  obtain ⟨rfl, hr⟩ := hr
  refine rel_ii (fun _ => ?_) (fun hne => ?_)
  · refine rel_l ((xI hs).trans (congrArg some hR.2.1.2.2)) ?_
    refine rel_r (mI hm) ?_
    refine rel_ii (fun _ => ?_) (fun _ => ?_)
    · refine rel_l (xK hs) ?_
      refine rel_r (mK hm) ?_
      have key := r_goOn (f := 0) h1 hm hR hj10 (by omega)
      rw [nI_0] at key
      refine rel_b key (fun σ' τ' hq => ?_)
      obtain ⟨q1, q2, q3⟩ := hq
      refine rel_l (oI_k (wt_k q2 hj10)) ?_
      refine rel_r (mP25 q3) ?_
      refine rel_r (mV17 q3 hj10) ?_
      exact rel_some ⟨(q1.2.2.2.2.2.1 j hj10).2.2.1, np, _, _, nt, _, nf, q1⟩
    · refine rel_l (sI_k hk) ?_
      refine rel_l (xK (σ := pI σ 452 (b + 86 + 4 * j) 4) hs) ?_
      refine rel_r (mP27 hm) ?_
      refine rel_r (mS19 hm hj10) ?_
      have hm2 : Sm c (pA τ1 (c + 19) (upd (gV τ1 (c + 19)) j 0)) := hm
      refine rel_r (mP25 hm2) ?_
      refine rel_r (mS17 hm2 hj10) ?_
      have hm3 : Sm c (pA (pA τ1 (c + 19) (upd (gV τ1 (c + 19)) j 0)) (c + 17) (upd (gV (pA τ1 (c + 19) (upd (gV τ1 (c + 19)) j 0)) (c + 17)) j 4)) := hm
      have st : gV (pA (pA τ1 (c + 19) (upd (gV τ1 (c + 19)) j 0)) (c + 17) (upd (gV (pA τ1 (c + 19) (upd (gV τ1 (c + 19)) j 0)) (c + 17)) j 4)) (c + 17) j = 4 := by rw [gV_pAs, upd_s]
      have e30 : gV (pA (pA τ1 (c + 19) (upd (gV τ1 (c + 19)) j 0)) (c + 17) (upd (gV (pA τ1 (c + 19) (upd (gV τ1 (c + 19)) j 0)) (c + 17)) j 4)) (c + 30) = gV τ1 (c + 30) := by rw [gV_pAn (by omega), gV_pAn (by omega)]
      have hR3 : RN b c np nw' nk' nt nl' nf (pI σ 452 (b + 86 + 4 * j) 4) (pA (pA τ1 (c + 19) (upd (gV τ1 (c + 19)) j 0)) (c + 17) (upd (gV (pA τ1 (c + 19) (upd (gV τ1 (c + 19)) j 0)) (c + 17)) j 4)) := by
        refine RN_want hj10 hR (DX_w DX_rf) (DM_a (by decide) (DM_a (by decide) DM_rf)) ?_
        refine ⟨?_, ?_, ?_, ?_, fun m' k em h6 hk' => ?_, fun y => ?_, fun y => ?_, fun y => absurd st y⟩
        · rw [gI_pIf (by decide), gV_pAn (by omega), gV_pAn (by omega)]; exact w1
        · rw [gI_pIf (by decide), gV_pAn (by omega), gV_pAn (by omega)]; exact w2
        · rw [gI_pIs, st]
        · rw [gI_pIf (by decide), gV_pAn (by omega), gV_pAn (by omega)]; exact w4
        · rw [gV_pAn (by omega), gV_pAn (by omega)] at em
          rw [gV_pI, gV_pAn (by omega), gV_pAn (by omega)]
          exact w5 m' k em h6 hk'
        · rw [st] at y
          exact absurd y (by decide)
        · rw [st] at y
          exact absurd y (by decide)
      have i4 : gI (pI σ 452 (b + 86 + 4 * j) 4) 452 (b + 86 + 4 * j) = 4 := gI_pIs
      generalize pA (pA τ1 (c + 19) (upd (gV τ1 (c + 19)) j 0)) (c + 17) (upd (gV (pA τ1 (c + 19) (upd (gV τ1 (c + 19)) j 0)) (c + 17)) j 4) = τ3 at hm3 st e30 hR3 ⊢
      refine rel_r (mK hm3) ?_
      have key := r_note (σ := pI σ 452 (b + 86 + 4 * j) 4) hs hm3 hR3 (nI j) (fun hall => by
        rw [e30] at hall
        have := I_la_le (I_la_add a17 hj hall)
        omega)
      refine rel_b key (fun σ' τ' hq => ?_)
      obtain ⟨⟨nl2, q1⟩, q2, q3, q4, q5, q6⟩ := hq
      refine rel_l ((oI_k (wt_k q5 hj10)).trans (congrArg some ((q3 452 (by decide) _).trans i4))) ?_
      refine rel_r (mP25 q6) ?_
      refine rel_r ((mV17 q6 hj10).trans (congrArg some ((congrFun (q4 (c + 17) (by omega)) j).trans st))) ?_
      exact rel_some ⟨rfl, np, _, _, nt, nl2, nf, q1⟩
  · rcases hr with hr | ⟨k, hkn, rfl⟩
    · exact absurd hr hne
    have hk10 : k < 10 := by omega
    obtain ⟨n, hn, hnl⟩ := (XI_row h1 (pr_k hk10)).2.1
    obtain ⟨g1, g2, g3⟩ := hR.2.2.2.2.2.2.1 k hkn
    have hl : gV τ1 (c + 25) k = nI n := g2.symm.trans hnl
    refine rel_l (wt_r hs hj10) ?_
    refine rel_l (xp71 hs) ?_
    refine rel_l (oP_g hT.2.1 hT.2.2.2.2.1) ?_
    refine rel_l (oQ_nI (n := 10) hT.2.2.2.2.2 hk10 (by decide) (hs.2.2.2 k hk10).1) ?_
    refine rel_l (oK_k (row_k h1 (pr_w hj10))) ?_
    refine rel_l (r_copy h1 (pr_w hj10) (pr_k hk10) hnl hn) ?_
    refine rel_l (sI_k (show gK (pI (pA σ (b + 88 + 4 * j) (va_cpy (gV σ (b + 9 + 2 * k)) (gV σ (b + 88 + 4 * j)) 0 0 n)) 257 (b + 87 + 4 * j) (nI n)) (b + 86 + 4 * j) = some (.inl 7) from hk)) ?_
    refine rel_l (Eq.trans (oI_k (show gK (pI (pI (pA σ (b + 88 + 4 * j) (va_cpy (gV σ (b + 9 + 2 * k)) (gV σ (b + 88 + 4 * j)) 0 0 n)) 257 (b + 87 + 4 * j) (nI n)) 452 (b + 86 + 4 * j) 3) (b + 86 + 4 * j) = some (.inl 7) from hk)) (congrArg some gI_pIs)) ?_
    refine rel_r (mP27 hm) ?_
    refine rel_r (mP33 hm) ?_
    refine rel_r ((mV25 hm hk10).trans (congrArg some hl)) ?_
    refine rel_r (mS19 hm hj10) ?_
    have key := r_copyM (c := c) (τ := τ1) hj10 hk10 hn 1000 0 (pA τ1 (c + 19) (upd (gV τ1 (c + 19)) j (nI n))) hm (DM_a (by decide) DM_rf) (by rw [gV_pAs, upd_s]) (by rw [gV_pAn (by omega)]) (fun i hi => by omega) (by omega) (by omega)
    rw [nI_0] at key
    obtain ⟨q, e, q1, q2, q3, q4, q5, q6⟩ := key
    rw [e]
    refine rel_some ⟨q1.symm, np, _, _, nt, _, nf, RN_want hj10 hR (DX_w (DX_r (DX_v DX_rf))) q2 ?_⟩
    refine ⟨?_, ?_, ?_, ?_, fun m' i em h6 hk' => ?_, fun y => ?_, fun y => ?_, fun _ => ⟨?_, fun m' i em h6 hi => ?_⟩⟩
    · rw [gI_pIf (by decide), gI_pIf (by decide), gI_pA, q2.2.1 14 (by decide) (by decide)]; exact w1
    · rw [gI_pIf (by decide), gI_pIf (by decide), gI_pA, q2.2.1 15 (by decide) (by decide)]; exact w2
    · rw [gI_pIs, q3]
    · rw [gI_pIf (by decide), gI_pIf (by decide), gI_pA, q5]; exact w4
    · rw [q2.2.1 15 (by decide) (by decide)] at em
      rw [gV_pI, gV_pI, gV_pAn (by omega), q2.2.1 16 (by decide) (by decide)]
      exact w5 m' i em h6 hk'
    · rw [q3] at y
      exact absurd y (by decide)
    · rw [q3] at y
      exact absurd y (by decide)
    · rw [gI_pIf (by decide), gI_pIs, q4]
    · rw [q4] at em
      have em2 : n = m' := nI_inj (by omega) (by omega) em
      subst em2
      rw [gV_pI, gV_pI, gV_pAs, pk_cpy_in (Nat.zero_le _) (by omega), q6 i hi]
      have e0 : 0 + (i - 0) = i := by omega
      rw [e0]
      exact g3 n i hl hn hi
