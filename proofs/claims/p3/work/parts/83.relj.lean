/-! a want that is done: its row kept -/
theorem x_keep1 {b j n nk : Nat} {σ : fr_S} {s : Int32} (h : XI b σ) (hj : j < 10) (hc : gI σ 322 (b + 5) = nI nk) (hnk : nk < 10) (hf : m_Store_find (b + 5) s σ = some (-1)) (hl : gI σ 257 (b + 87 + 4 * j) = nI n) (hn : n ≤ 100) : ∃ σ', m_Store_keep (b + 5) s (b + 87 + 4 * j) σ = some σ' ∧ (∀ f a, f ≠ 322 → (f = 257 → a ≠ b + 8 + 2 * nk) → gI σ' f a = gI σ f a) ∧ (∀ a, a ≠ b + 6 → a ≠ b + 9 + 2 * nk → gV σ' a = gV σ a) ∧ gI σ' 322 (b + 5) = nI (nk + 1) ∧ gV σ' (b + 6) = upd (gV σ (b + 6)) nk s ∧ gI σ' 257 (b + 8 + 2 * nk) = nI n ∧ ∀ k, k < n → gV σ' (b + 9 + 2 * nk) k = gV σ (b + 88 + 4 * j) k := by
  have hs := h.1
  have hT := hs.1.2.2.2.2.2.1
  have h2 : XI b (pA σ (b + 6) (upd (gV σ (b + 6)) nk s)) := XI_oA h (by omega)
  have hc2 := r_copy h2 (pr_k hnk) (pr_w hj) (show gI (pA σ (b + 6) (upd (gV σ (b + 6)) nk s)) 257 (b + 87 + 4 * j) = nI n from hl) hn
  have e88 : gV (pA σ (b + 6) (upd (gV σ (b + 6)) nk s)) (b + 88 + 4 * j) = gV σ (b + 88 + 4 * j) := gV_pAn (by omega)
  rw [e88] at hc2
  have hs2 := h2.1
  generalize hq : va_cpy (gV σ (b + 88 + 4 * j)) (gV (pA σ (b + 6) (upd (gV σ (b + 6)) nk s)) (b + 9 + 2 * nk)) 0 0 n = u at hc2
  refine ⟨pI (pI (pA (pA σ (b + 6) (upd (gV σ (b + 6)) nk s)) (b + 9 + 2 * nk) u) 257 (b + 8 + 2 * nk) (nI n)) 322 (b + 5) (nI (nk + 1)), ?_, fun f a f1 f2 => ?_, fun a a1 a2 => ?_, gI_pIs, ?_, ?_, fun k hk => ?_⟩
  · unfold m_Store_keep
    refine obs (oK_k hT.2.1) (obs hf (oif_p rfl ?_))
    refine obs ((oI_k hT.2.1).trans (congrArg some hc)) ?_
    refine oif_p (by rw [nI_lit10, nI_ltI (by omega) (by omega)]; exact hnk) ?_
    refine obs (oP_g hT.2.1 hT.2.2.1) (obs ((oI_k hT.2.1).trans (congrArg some hc)) (obs (sV_nI (n := 10) hT.2.2.2.1 hnk (by decide)) ?_))
    refine obs (oP_g (σ := pA σ (b + 6) (upd (gV σ (b + 6)) nk s)) hT.2.1 hT.2.2.2.2.1) (obs (Eq.trans (oI_k (σ := pA σ (b + 6) (upd (gV σ (b + 6)) nk s)) hT.2.1) (congrArg some hc)) (obs (oQ_nI (σ := pA σ (b + 6) (upd (gV σ (b + 6)) nk s)) (n := 10) hT.2.2.2.2.2 hnk (by decide) (hs.2.2.2 nk hnk).1) ?_))
    refine obs (oK_k (row_k h2 (pr_k hnk))) (obs hc2 ?_)
    refine obs (Eq.trans (oI_k (σ := pI (pA (pA σ (b + 6) (upd (gV σ (b + 6)) nk s)) (b + 9 + 2 * nk) u) 257 (b + 8 + 2 * nk) (nI n)) hT.2.1) (congrArg some (show _ = nI nk by rw [gI_pIf (by decide)]; exact hc))) ?_
    rw [nI_1]
    exact obs (sI_k (σ := pI (pA (pA σ (b + 6) (upd (gV σ (b + 6)) nk s)) (b + 9 + 2 * nk) u) 257 (b + 8 + 2 * nk) (nI n)) hT.2.1) rfl
  · rw [gI_pIf f1]
    by_cases e : f = 257
    · rw [gI_pIa (f2 e)]; rfl
    · rw [gI_pIf e]; rfl
  · rw [gV_pI, gV_pI, gV_pAn a2, gV_pAn a1]
  · rw [gV_pI, gV_pI, gV_pAn (by omega), gV_pAs]
  · rw [gI_pIf (by decide), gI_pIs]
  · rw [gV_pI, gV_pI, gV_pAs, ← hq, pk_cpy_in (Nat.zero_le _) (by omega)]
    have e0 : 0 + (k - 0) = k := by omega
    rw [e0]
theorem r_keepM {c j nk m : Nat} {τ : fr_S} (hj : j < 10) (hk : nk < 10) (hm1 : m ≤ 100) (h19 : gV τ (c + 19) j = nI m) (h8 : gI τ 8 c = nI nk) : ∀ (n y : Nat) (τ' : fr_S), Sm c τ' → (∀ f, gI τ' f c = gI τ f c) → (∀ a, a ≠ 26 → gV τ' (c + a) = gV τ (c + a)) → (∀ k, k < 100 * nk → gV τ' (c + 26) k = gV τ (c + 26) k) → (∀ i, i < y → gV τ' (c + 26) (100 * nk + i) = gV τ (c + 20) (100 * j + i)) → y ≤ m → m - y < n → ev (m_Md_keep_L46 n c (nI j) (nI y) τ') (fun q => Sm c q ∧ gI q 8 c = nI (nk + 1) ∧ (∀ f, f ≠ 8 → gI q f c = gI τ f c) ∧ gV q (c + 17) = upd (gV τ (c + 17)) j 3 ∧ (∀ a, a ≠ 17 → a ≠ 26 → gV q (c + a) = gV τ (c + a)) ∧ (∀ k, k < 100 * nk → gV q (c + 26) k = gV τ (c + 26) k) ∧ ∀ i, i < m → gV q (c + 26) (100 * nk + i) = gV τ (c + 20) (100 * j + i)) := by
  intro n
  induction n with
  | zero => intro y τ' _ _ _ _ _ _ h; omega
  | succ n ih =>
    intro y τ' hm hI hV hV2 hc hy hn
    unfold m_Md_keep_L46
    refine ev_bs (mP27 hm) ?_
    refine ev_bs ((mV19 hm hj).trans (congrArg some ((congrFun (hV 19 (by decide)) j).trans h19))) ?_
    refine ev_if (fun z => ?_) (fun z => ?_)
    · rw [nI_leI (by omega) (by omega)] at z
      refine ev_bs ((mI hm).trans (congrArg some ((hI 8).trans h8))) ?_
      refine ev_bs (mSI hm) ?_
      rw [nI_1]
      have hm2 : Sm c (pI τ' 8 c (nI (nk + 1))) := hm
      refine ev_bs (mP25 hm2) ?_
      refine ev_bs (mS17 hm2 hj) ?_
      refine ev_some ⟨hm, ?_, fun f hf => ?_, ?_, fun a a1 a2 => ?_, fun k hk => ?_, fun i hi => ?_⟩
      · rw [gI_pA, gI_pIs]
      · rw [gI_pA, gI_pIf hf]; exact hI f
      · rw [gV_pAs, gV_pI, hV 17 (by decide)]
      · rw [gV_pAn (by omega), gV_pI]; exact hV a a2
      · rw [gV_pAn (by omega), gV_pI]; exact hV2 k hk
      · rw [gV_pAn (by omega), gV_pI]; exact hc i (by omega)
    · rw [nI_leI (by omega) (by omega)] at z
      refine ev_bs (mP34 hm) ?_
      refine ev_bs ((mI hm).trans (congrArg some ((hI 8).trans h8))) ?_
      refine ev_bs (mP28 hm) ?_
      rw [nI_100, nI_100]
      refine ev_bs (mV20 hm (by omega)) ?_
      refine ev_bs (mS26 hm (by omega)) ?_
      rw [nI_1]
      refine ih (y + 1) _ hm (fun f => hI f) (fun a ha => ?_) (fun k hk => ?_) (fun i hi => ?_) (by omega) (by omega)
      · rw [gV_pAn (by omega)]; exact hV a ha
      · rw [gV_pAs, upd_n (by omega)]; exact hV2 k hk
      · rw [gV_pAs]
        by_cases e : i = y
        · rw [e, upd_s, hV 20 (by decide)]
        · rw [upd_n (by omega)]; exact hc i (by omega)
theorem r_state3 {b c np nw nk nt nl nf j : Nat} {σ τ : fr_S} (hR : RN b c np nw nk nt nl nf σ τ) (hj : j < 10) (hb : gV τ (c + 17) j = 1) : RN b c np nw nk nt nl nf (pI σ 452 (b + 86 + 4 * j) 3) (pA τ (c + 17) (upd (gV τ (c + 17)) j 3)) := by
  obtain ⟨w1, w2, w3, w4, w5, w6, w7, w8⟩ := hR.2.2.2.2.2.1 j hj
  have w8 := w8 (by rw [hb]; decide)
  refine RN_want hj hR (DX_w DX_rf) (DM_a (by decide) DM_rf) ?_
  have st : gV (pA τ (c + 17) (upd (gV τ (c + 17)) j 3)) (c + 17) j = 3 := by rw [gV_pAs, upd_s]
  refine ⟨?_, ?_, ?_, ?_, fun m' k em h6 hk' => ?_, fun y => ?_, fun y => ?_, fun y => ⟨?_, fun m' k em h6 hk' => ?_⟩⟩
  · rw [gI_pIf (by decide), gV_pAn (by omega)]; exact w1
  · rw [gI_pIf (by decide), gV_pAn (by omega)]; exact w2
  · rw [gI_pIs, st]
  · rw [gI_pIf (by decide), gV_pAn (by omega)]; exact w4
  · rw [gV_pAn (by omega)] at em
    rw [gV_pI, gV_pAn (by omega)]
    exact w5 m' k em h6 hk'
  · rw [st] at y
    exact absurd y (by decide)
  · rw [st] at y
    exact absurd y (by decide)
  · rw [gI_pIf (by decide), gV_pAn (by omega)]; exact w8.1
  · rw [gV_pAn (by omega)] at em
    rw [gV_pI, gV_pAn (by omega)]
    exact w8.2 m' k em h6 hk'
theorem r_keep {b c np nw nk nt nl nf j : Nat} {σ τ : fr_S} {s : Int32} (h1 : XI b σ) (h2 : MI c τ) (hR : RN b c np nw nk nt nl nf σ τ) (hj : j < nw) (hb : gV τ (c + 17) j = 1) (hg : s = gV τ (c + 14) j) : rel (m_Store_keep (b + 5) s (b + 87 + 4 * j) (pI σ 452 (b + 86 + 4 * j) 3)) (m_Md_keep c (nI j) τ) (fun σ' τ' => ∃ nk', RN b c np nw nk' nt nl nf σ' τ') := by
  have hm := h2.1
  have hnw := hR.1.2.1
  have hj10 : j < 10 := by omega
  have hR1 := r_state3 hR hj10 hb
  have h11 : XI b (pI σ 452 (b + 86 + 4 * j) 3) := XI_o h1 (by decide) (by decide)
  obtain ⟨-, np', nw', nk', nt', nl', nf', re, a1, a2, a3, a4, a5, a6, a7, a8, a9, a10, a11, a12, a13, a14, a15, a16, a17, a18⟩ := h2
  have enw : nw' = nw := nI_inj (by omega) (by omega) (a2.2.symm.trans hnw.2.2)
  subst enw
  have lek := I_ke_le a14
  have enk : nk' = nk := nI_inj (by omega) (by have := hR.1.2.2.1.1; omega) (a3.symm.trans hR.1.2.2.1.2.2)
  subst enk
  obtain ⟨w1, w2, w3, w4, w5, w6, w7, w8⟩ := hR.2.2.2.2.2.1 j hj10
  have w8 := w8 (by rw [hb]; decide)
  obtain ⟨-, ⟨m, hm1, hm2⟩, -⟩ := a12 j hj10
  obtain ⟨r, r', e1, e2, er, hr⟩ := r_kept0 (b := b) (c := c) (nk := nk') (σ := pI σ 452 (b + 86 + 4 * j) 3) (τ := τ) h11.1 hm ⟨hR.1.2.2.1.1, by rw [gI_pIf (by decide)]; exact hR.1.2.2.1.2.1, a3⟩ (fun i hi => (hR.2.2.2.2.2.2.1 i hi).1) a14.2 s
  subst er
  unfold m_Md_keep
  refine rel_r (mP22 hm) ?_
  refine rel_r ((mV14 hm hj10).trans (congrArg some hg.symm)) ?_
  refine rel_r (mK hm) ?_
  refine rel_r e2 ?_
  rcases hr with ⟨rfl, hall⟩ | ⟨k, hk, rfl⟩
  · have hlt : nk' < 10 := by
      have := I_ke_le (I_ke_add a14 hj (n := m) hm1 (fun k hk => by rw [← hg]; exact hall k hk))
      omega
    obtain ⟨σ', ex, x1, x2, x3, x4, x5, x6⟩ := x_keep1 (s := s) h11 hj10 (by rw [gI_pIf (by decide)]; exact hR.1.2.2.1.2.1) hlt e1 (by rw [gI_pIf (by decide)]; exact w8.1.trans hm2) hm1
    rw [ex]
    refine rel_rp rfl ?_
    refine rel_r (mP32 hm) ?_
    refine rel_r ((mI hm).trans (congrArg some a3)) ?_
    refine rel_r (mP22 hm) ?_
    refine rel_r ((mV14 hm hj10).trans (congrArg some hg.symm)) ?_
    refine rel_r (mS24 hm hlt) ?_
    have hm3 : Sm c (pA τ (c + 24) (upd (gV τ (c + 24)) nk' s)) := hm
    refine rel_r (mP33 hm3) ?_
    refine rel_r (Eq.trans (mI hm3) (congrArg some (show _ = nI nk' from a3))) ?_
    refine rel_r (mP27 hm3) ?_
    refine rel_r (Eq.trans (mV19 hm3 hj10) (congrArg some (show _ = nI m by rw [gV_pAn (by omega)]; exact hm2))) ?_
    refine rel_r (mS25 hm3 hlt) ?_
    have f24 : gV (pA (pA τ (c + 24) (upd (gV τ (c + 24)) nk' s)) (c + 25) (upd (gV (pA τ (c + 24) (upd (gV τ (c + 24)) nk' s)) (c + 25)) nk' (nI m))) (c + 24) = upd (gV τ (c + 24)) nk' s := by rw [gV_pAn (by omega), gV_pAs]
    have f25 : gV (pA (pA τ (c + 24) (upd (gV τ (c + 24)) nk' s)) (c + 25) (upd (gV (pA τ (c + 24) (upd (gV τ (c + 24)) nk' s)) (c + 25)) nk' (nI m))) (c + 25) = upd (gV τ (c + 25)) nk' (nI m) := by rw [gV_pAs, gV_pAn (by omega)]
    have fo : ∀ a, a ≠ 24 → a ≠ 25 → gV (pA (pA τ (c + 24) (upd (gV τ (c + 24)) nk' s)) (c + 25) (upd (gV (pA τ (c + 24) (upd (gV τ (c + 24)) nk' s)) (c + 25)) nk' (nI m))) (c + a) = gV τ (c + a) := fun a q1 q2 => by rw [gV_pAn (by omega), gV_pAn (by omega)]
    have fi : ∀ f, gI (pA (pA τ (c + 24) (upd (gV τ (c + 24)) nk' s)) (c + 25) (upd (gV (pA τ (c + 24) (upd (gV τ (c + 24)) nk' s)) (c + 25)) nk' (nI m))) f c = gI τ f c := fun f => rfl
    have hm4 : Sm c (pA (pA τ (c + 24) (upd (gV τ (c + 24)) nk' s)) (c + 25) (upd (gV (pA τ (c + 24) (upd (gV τ (c + 24)) nk' s)) (c + 25)) nk' (nI m))) := hm
    generalize pA (pA τ (c + 24) (upd (gV τ (c + 24)) nk' s)) (c + 25) (upd (gV (pA τ (c + 24) (upd (gV τ (c + 24)) nk' s)) (c + 25)) nk' (nI m)) = τ4 at f24 f25 fo fi hm4 ⊢
    have key := r_keepM (c := c) (τ := τ4) hj10 hlt hm1 (by rw [fo 19 (by decide) (by decide)]; exact hm2) ((fi 8).trans a3) 1000 0 τ4 hm4 (fun _ => rfl) (fun _ _ => rfl) (fun _ _ => rfl) (fun i hi => by omega) (by omega) (by omega)
    rw [nI_0] at key
    obtain ⟨τ', et, q1, q2, q3, q4, q5, q6, q7⟩ := key
    rw [et]
    refine rel_some ⟨nk' + 1, RN_kt hR1 (fun f a f1 f2 f3 => x1 f a f2 (fun z => f3 z nk' hlt)) (fun a _ _ _ a6 a9 => x2 a a6 (a9 nk' hlt)) (fun f f1 f2 => (q3 f f1).trans (fi f)) (fun a ha => ?_) ⟨by omega, x3, q2⟩ ⟨hR.1.2.2.2.1.1, ?_, ?_⟩ (fun i hi => ?_) (fun i hi => ?_)⟩
    · by_cases e : a = 17
      · rw [e, q4, fo 17 (by decide) (by decide), gV_pAs]
      · rw [q5 a e (by omega), fo a (by omega) (by omega), gV_pAn (by omega)]
    · rw [x1 387 _ (by decide) (fun z => absurd z (by decide)), gI_pIf (by decide)]; exact hR.1.2.2.2.1.2.1
    · rw [q3 9 (by decide), fi]; exact hR.1.2.2.2.1.2.2
    · by_cases e : i = nk'
      · subst e
        refine ⟨?_, ?_, fun m' k em hm' hk' => ?_⟩
        · rw [x4, q5 24 (by decide) (by decide), f24, upd_s, upd_s]
        · rw [x5, q5 25 (by decide) (by decide), f25, upd_s]
        · rw [q5 25 (by decide) (by decide), f25, upd_s] at em
          have e2 : m = m' := nI_inj (by omega) (by omega) em
          subst e2
          rw [x6 k hk', q7 k hk', fo 20 (by decide) (by decide), gV_pI]
          exact w8.2 m k hm2 hm1 hk'
      · obtain ⟨g1, g2, g3⟩ := hR.2.2.2.2.2.2.1 i (by omega)
        refine ⟨?_, ?_, fun m' k em hm' hk' => ?_⟩
        · rw [x4, q5 24 (by decide) (by decide), f24, upd_n e, upd_n e]; exact g1
        · rw [x1 257 _ (by decide) (fun _ => by omega), q5 25 (by decide) (by decide), f25, upd_n e, gI_pIf (by decide)]; exact g2
        · rw [q5 25 (by decide) (by decide), f25, upd_n e] at em
          rw [x2 _ (by omega) (by omega), q6 _ (by omega), fo 26 (by decide) (by decide), gV_pI]
          exact g3 m' k em hm' hk'
    · obtain ⟨g1, g2, g3⟩ := hR.2.2.2.2.2.2.2.1 i hi
      rw [x2 _ (by omega) (by omega), x2 _ (by omega) (by omega), x2 _ (by omega) (by omega), q5 27 (by decide) (by decide), q5 28 (by decide) (by decide), q5 29 (by decide) (by decide), fo 27 (by decide) (by decide), fo 28 (by decide) (by decide), fo 29 (by decide) (by decide)]
      exact ⟨g1, g2, g3⟩
  · have hne : ¬ nI k = -1 := fun z => by
      have := nI_pos (n := k) (by omega)
      rw [z] at this
      exact this (by decide)
    refine rel_rn hne ?_
    have ex : m_Store_keep (b + 5) s (b + 87 + 4 * j) (pI σ 452 (b + 86 + 4 * j) 3) = some (pI σ 452 (b + 86 + 4 * j) 3) := by
      unfold m_Store_keep
      exact obs (oK_k h11.1.1.2.2.2.2.2.1.2.1) (obs e1 (oif_n hne rfl))
    rw [ex]
    refine rel_r (mP25 hm) ?_
    refine rel_r (mS17 hm hj10) ?_
    exact rel_some ⟨_, hR1⟩
