/-! a want that is done: its row kept -/
theorem x_keep1 {b j n nk : Nat} {σ : fr_S} {s : Int32} (h : XI b σ) (hj : j < 10) (hc : gI σ 322 (b + 5) = nI nk) (hnk : nk < 10) (hf : m_Store_find (b + 5) s σ = some (-1)) (hl : gI σ 257 (b + 87 + 4 * j) = nI n) (hn : n ≤ 100) : ∃ σ', m_Store_keep (b + 5) s (b + 87 + 4 * j) σ = some σ' ∧ (∀ f a, f ≠ 322 → (f = 257 → a ≠ b + 8 + 2 * nk) → gI σ' f a = gI σ f a) ∧ (∀ a, a ≠ b + 6 → a ≠ b + 9 + 2 * nk → gV σ' a = gV σ a) ∧ gI σ' 322 (b + 5) = nI (nk + 1) ∧ gV σ' (b + 6) = upd (gV σ (b + 6)) nk s ∧ gI σ' 257 (b + 8 + 2 * nk) = nI n ∧ ∀ k, k < n → gV σ' (b + 9 + 2 * nk) k = gV σ (b + 88 + 4 * j) k := by
  have hs := h.1
  have hT := hs.1.2.2.2.2.2.1
  have h2 : XI b (pA σ (b + 6) (upd (gV σ (b + 6)) nk s)) := XI_oA h (by omega)
  have hc2 := r_copy h2 (pr_k hnk) (pr_w hj) (show gI (pA σ (b + 6) (upd (gV σ (b + 6)) nk s)) 257 (b + 87 + 4 * j) = nI n from hl) hn
  have e88 : gV (pA σ (b + 6) (upd (gV σ (b + 6)) nk s)) (b + 88 + 4 * j) = gV σ (b + 88 + 4 * j) := gV_pAn (by omega)
  rw [e88] at hc2
  have hs2 := h2.1
  generalize hq : va_cpy (gV σ (b + 88 + 4 * j)) (gV (pA σ (b + 6) (upd (gV σ (b + 6)) nk s)) (b + 9 + 2 * nk)) 0 0 n = u at hc2
  refine ⟨pI (pI (pA (pA σ (b + 6) (upd (gV σ (b + 6)) nk s)) (b + 9 + 2 * nk) u) 257 (b + 8 + 2 * nk) (nI n)) 322 (b + 5) (nI (nk + 1)), ?_, fun f a f1 f2 => ?_, fun a a1 a2 => ?_, gI_pIs, ?_, ?_, fun k hk => ?_⟩
  · unfold m_Store_keep
    refine obs (oK_k hT.2.1) (obs hf (oif_p rfl ?_))
    refine obs ((oI_k hT.2.1).trans (congrArg some hc)) ?_
    refine oif_p (by rw [nI_lit10, nI_ltI (by omega) (by omega)]; exact hnk) ?_
    refine obs (oP_g hT.2.1 hT.2.2.1) (obs ((oI_k hT.2.1).trans (congrArg some hc)) (obs (sV_nI (n := 10) hT.2.2.2.1 hnk (by decide)) ?_))
    refine obs (oP_g (σ := pA σ (b + 6) (upd (gV σ (b + 6)) nk s)) hT.2.1 hT.2.2.2.2.1) (obs (Eq.trans (oI_k (σ := pA σ (b + 6) (upd (gV σ (b + 6)) nk s)) hT.2.1) (congrArg some hc)) (obs (oQ_nI (σ := pA σ (b + 6) (upd (gV σ (b + 6)) nk s)) (n := 10) hT.2.2.2.2.2 hnk (by decide) (hs.2.2.2 nk hnk).1) ?_))
    refine obs (oK_k (row_k h2 (pr_k hnk))) (obs hc2 ?_)
    refine obs (Eq.trans (oI_k (σ := pI (pA (pA σ (b + 6) (upd (gV σ (b + 6)) nk s)) (b + 9 + 2 * nk) u) 257 (b + 8 + 2 * nk) (nI n)) hT.2.1) (congrArg some (show _ = nI nk by rw [gI_pIf (by decide)]; exact hc))) ?_
    rw [nI_1]
    exact obs (sI_k (σ := pI (pA (pA σ (b + 6) (upd (gV σ (b + 6)) nk s)) (b + 9 + 2 * nk) u) 257 (b + 8 + 2 * nk) (nI n)) hT.2.1) rfl
  · rw [gI_pIf f1]
    by_cases e : f = 257
    · rw [gI_pIa (f2 e)]; rfl
    · rw [gI_pIf e]; rfl
  · rw [gV_pI, gV_pI, gV_pAn a2, gV_pAn a1]
  · rw [gV_pI, gV_pI, gV_pAn (by omega), gV_pAs]
  · rw [gI_pIf (by decide), gI_pIs]
  · rw [gV_pI, gV_pI, gV_pAs, ← hq, pk_cpy_in (Nat.zero_le _) (by omega)]
    have e0 : 0 + (k - 0) = k := by omega
    rw [e0]
theorem r_keepM {c j nk m : Nat} {τ : fr_S} (hj : j < 10) (hk : nk < 10) (hm1 : m ≤ 100) (h19 : gV τ (c + 19) j = nI m) (h8 : gI τ 8 c = nI nk) : ∀ (n y : Nat) (τ' : fr_S), Sm c τ' → (∀ f, gI τ' f c = gI τ f c) → (∀ a, a ≠ 26 → gV τ' (c + a) = gV τ (c + a)) → (∀ k, k < 100 * nk → gV τ' (c + 26) k = gV τ (c + 26) k) → (∀ i, i < y → gV τ' (c + 26) (100 * nk + i) = gV τ (c + 20) (100 * j + i)) → y ≤ m → m - y < n → ev (m_Md_keep_L46 n c (nI j) (nI y) τ') (fun q => Sm c q ∧ gI q 8 c = nI (nk + 1) ∧ (∀ f, f ≠ 8 → gI q f c = gI τ f c) ∧ gV q (c + 17) = upd (gV τ (c + 17)) j 3 ∧ (∀ a, a ≠ 17 → a ≠ 26 → gV q (c + a) = gV τ (c + a)) ∧ (∀ k, k < 100 * nk → gV q (c + 26) k = gV τ (c + 26) k) ∧ ∀ i, i < m → gV q (c + 26) (100 * nk + i) = gV τ (c + 20) (100 * j + i)) := by
  intro n
  induction n with
  | zero => intro y τ' _ _ _ _ _ _ h; omega
  | succ n ih =>
    intro y τ' hm hI hV hV2 hc hy hn
    unfold m_Md_keep_L46
    refine ev_bs (mP27 hm) ?_
    refine ev_bs ((mV19 hm hj).trans (congrArg some ((congrFun (hV 19 (by decide)) j).trans h19))) ?_
    refine ev_if (fun z => ?_) (fun z => ?_)
    · rw [nI_leI (by omega) (by omega)] at z
      refine ev_bs ((mI hm).trans (congrArg some ((hI 8).trans h8))) ?_
      refine ev_bs (mSI hm) ?_
      rw [nI_1]
      have hm2 : Sm c (pI τ' 8 c (nI (nk + 1))) := hm
      refine ev_bs (mP25 hm2) ?_
      refine ev_bs (mS17 hm2 hj) ?_
      refine ev_some ⟨hm, ?_, fun f hf => ?_, ?_, fun a a1 a2 => ?_, fun k hk => ?_, fun i hi => ?_⟩
      · rw [gI_pA, gI_pIs]
      · rw [gI_pA, gI_pIf hf]; exact hI f
      · rw [gV_pAs, gV_pI, hV 17 (by decide)]
      · rw [gV_pAn (by omega), gV_pI]; exact hV a a2
      · rw [gV_pAn (by omega), gV_pI]; exact hV2 k hk
      · rw [gV_pAn (by omega), gV_pI]; exact hc i (by omega)
    · rw [nI_leI (by omega) (by omega)] at z
      refine ev_bs (mP34 hm) ?_
      refine ev_bs ((mI hm).trans (congrArg some ((hI 8).trans h8))) ?_
      refine ev_bs (mP28 hm) ?_
      rw [nI_100, nI_100]
      refine ev_bs (mV20 hm (by omega)) ?_
      refine ev_bs (mS26 hm (by omega)) ?_
      rw [nI_1]
      refine ih (y + 1) _ hm (fun f => hI f) (fun a ha => ?_) (fun k hk => ?_) (fun i hi => ?_) (by omega) (by omega)
      · rw [gV_pAn (by omega)]; exact hV a ha
      · rw [gV_pAs, upd_n (by omega)]; exact hV2 k hk
      · rw [gV_pAs]
        by_cases e : i = y
        · rw [e, upd_s, hV 20 (by decide)]
        · rw [upd_n (by omega)]; exact hc i (by omega)
theorem r_state3 {b c np nw nk nt nl nf j : Nat} {σ τ : fr_S} (hR : RN b c np nw nk nt nl nf σ τ) (hj : j < 10) (hb : gV τ (c + 17) j = 1) : RN b c np nw nk nt nl nf (pI σ 452 (b + 86 + 4 * j) 3) (pA τ (c + 17) (upd (gV τ (c + 17)) j 3)) := by
  obtain ⟨w1, w2, w3, w4, w5, w6, w7, w8⟩ := hR.2.2.2.2.2.1 j hj
  have w8 := w8 (by rw [hb]; decide)
  refine RN_want hj hR (DX_w DX_rf) (DM_a (by decide) DM_rf) ?_
  have st : gV (pA τ (c + 17) (upd (gV τ (c + 17)) j 3)) (c + 17) j = 3 := by rw [gV_pAs, upd_s]
  refine ⟨?_, ?_, ?_, ?_, fun m' k em h6 hk' => ?_, fun y => ?_, fun y => ?_, fun y => ⟨?_, fun m' k em h6 hk' => ?_⟩⟩
  · rw [gI_pIf (by decide), gV_pAn (by omega)]; exact w1
  · rw [gI_pIf (by decide), gV_pAn (by omega)]; exact w2
  · rw [gI_pIs, st]
  · rw [gI_pIf (by decide), gV_pAn (by omega)]; exact w4
  · rw [gV_pAn (by omega)] at em
    rw [gV_pI, gV_pAn (by omega)]
    exact w5 m' k em h6 hk'
  · rw [st] at y
    exact absurd y (by decide)
  · rw [st] at y
    exact absurd y (by decide)
  · rw [gI_pIf (by decide), gV_pAn (by omega)]; exact w8.1
  · rw [gV_pAn (by omega)] at em
    rw [gV_pI, gV_pAn (by omega)]
    exact w8.2 m' k em h6 hk'
theorem r_keep {b c np nw nk nt nl nf j : Nat} {σ τ : fr_S} {s : Int32} (h1 : XI b σ) (h2 : MI c τ) (hR : RN b c np nw nk nt nl nf σ τ) (hj : j < nw) (hb : gV τ (c + 17) j = 1) (hg : s = gV τ (c + 14) j) : rel (m_Store_keep (b + 5) s (b + 87 + 4 * j) (pI σ 452 (b + 86 + 4 * j) 3)) (m_Md_keep c (nI j) τ) (fun σ' τ' => ∃ nk', RN b c np nw nk' nt nl nf σ' τ') := by
  have hm := h2.1
  have hnw := hR.1.2.1
  have hj10 : j < 10 := by omega
  have hR1 := r_state3 hR hj10 hb
  have h11 : XI b (pI σ 452 (b + 86 + 4 * j) 3) := XI_o h1 (by decide) (by decide)
  obtain ⟨-, np', nw', nk', nt', nl', nf', re, a1, a2, a3, a4, a5, a6, a7, a8, a9, a10, a11, a12, a13, a14, a15, a16, a17, a18⟩ := h2
  have enw : nw' = nw := nI_inj (by omega) (by omega) (a2.2.symm.trans hnw.2.2)
  subst enw
  have lek := I_ke_le a14
  have enk : nk' = nk := nI_inj (by omega) (by have := hR.1.2.2.1.1; omega) (a3.symm.trans hR.1.2.2.1.2.2)
  subst enk
  obtain ⟨w1, w2, w3, w4, w5, w6, w7, w8⟩ := hR.2.2.2.2.2.1 j hj10
  have w8 := w8 (by rw [hb]; decide)
  obtain ⟨-, ⟨m, hm1, hm2⟩, -⟩ := a12 j hj10
  obtain ⟨r, r', e1, e2, er, hr⟩ := r_kept0 (b := b) (c := c) (nk := nk') (σ := pI σ 452 (b + 86 + 4 * j) 3) (τ := τ) h11.1 hm ⟨hR.1.2.2.1.1, by rw [gI_pIf (by decide)]; exact hR.1.2.2.1.2.1, a3⟩ (fun i hi => (hR.2.2.2.2.2.2.1 i hi).1) a14.2 s
  subst er
  unfold m_Md_keep
  refine rel_r (mP22 hm) ?_
  refine rel_r ((mV14 hm hj10).trans (congrArg some hg.symm)) ?_
  refine rel_r (mK hm) ?_
  refine rel_r e2 ?_
  rcases hr with ⟨rfl, hall⟩ | ⟨k, hk, rfl⟩
  · have hlt : nk' < 10 := by
      have := I_ke_le (I_ke_add a14 hj (n := m) hm1 (fun k hk => by rw [← hg]; exact hall k hk))
      omega
    obtain ⟨σ', ex, x1, x2, x3, x4, x5, x6⟩ := x_keep1 (s := s) h11 hj10 (by rw [gI_pIf (by decide)]; exact hR.1.2.2.1.2.1) hlt e1 (by rw [gI_pIf (by decide)]; exact w8.1.trans hm2) hm1
    rw [ex]
    refine rel_rp rfl ?_
    refine rel_r (mP32 hm) ?_
    refine rel_r ((mI hm).trans (congrArg some a3)) ?_
    refine rel_r (mP22 hm) ?_
    refine rel_r ((mV14 hm hj10).trans (congrArg some hg.symm)) ?_
    refine rel_r (mS24 hm hlt) ?_
    have hm3 : Sm c (pA τ (c + 24) (upd (gV τ (c + 24)) nk' s)) := hm
    refine rel_r (mP33 hm3) ?_
    refine rel_r (Eq.trans (mI hm3) (congrArg some (show _ = nI nk' from a3))) ?_
    refine rel_r (mP27 hm3) ?_
    refine rel_r (Eq.trans (mV19 hm3 hj10) (congrArg some (show _ = nI m by rw [gV_pAn (by omega)]; exact hm2))) ?_
    refine rel_r (mS25 hm3 hlt) ?_
    have f24 : gV (pA (pA τ (c + 24) (upd (gV τ (c + 24)) nk' s)) (c + 25) (upd (gV (pA τ (c + 24) (upd (gV τ (c + 24)) nk' s)) (c + 25)) nk' (nI m))) (c + 24) = upd (gV τ (c + 24)) nk' s := by rw [gV_pAn (by omega), gV_pAs]
    have f25 : gV (pA (pA τ (c + 24) (upd (gV τ (c + 24)) nk' s)) (c + 25) (upd (gV (pA τ (c + 24) (upd (gV τ (c + 24)) nk' s)) (c + 25)) nk' (nI m))) (c + 25) = upd (gV τ (c + 25)) nk' (nI m) := by rw [gV_pAs, gV_pAn (by omega)]
    have fo : ∀ a, a ≠ 24 → a ≠ 25 → gV (pA (pA τ (c + 24) (upd (gV τ (c + 24)) nk' s)) (c + 25) (upd (gV (pA τ (c + 24) (upd (gV τ (c + 24)) nk' s)) (c + 25)) nk' (nI m))) (c + a) = gV τ (c + a) := fun a q1 q2 => by rw [gV_pAn (by omega), gV_pAn (by omega)]
    have fi : ∀ f, gI (pA (pA τ (c + 24) (upd (gV τ (c + 24)) nk' s)) (c + 25) (upd (gV (pA τ (c + 24) (upd (gV τ (c + 24)) nk' s)) (c + 25)) nk' (nI m))) f c = gI τ f c := fun f => rfl
    have hm4 : Sm c (pA (pA τ (c + 24) (upd (gV τ (c + 24)) nk' s)) (c + 25) (upd (gV (pA τ (c + 24) (upd (gV τ (c + 24)) nk' s)) (c + 25)) nk' (nI m))) := hm
    generalize pA (pA τ (c + 24) (upd (gV τ (c + 24)) nk' s)) (c + 25) (upd (gV (pA τ (c + 24) (upd (gV τ (c + 24)) nk' s)) (c + 25)) nk' (nI m)) = τ4 at f24 f25 fo fi hm4 ⊢
    have key := r_keepM (c := c) (τ := τ4) hj10 hlt hm1 (by rw [fo 19 (by decide) (by decide)]; exact hm2) ((fi 8).trans a3) 1000 0 τ4 hm4 (fun _ => rfl) (fun _ _ => rfl) (fun _ _ => rfl) (fun i hi => by omega) (by omega) (by omega)
    rw [nI_0] at key
    obtain ⟨τ', et, q1, q2, q3, q4, q5, q6, q7⟩ := key
    rw [et]
    refine rel_some ⟨nk' + 1, RN_kt hR1 (fun f a f1 f2 f3 => x1 f a f2 (fun z => f3 z nk' hlt)) (fun a _ _ _ a6 a9 => x2 a a6 (a9 nk' hlt)) (fun f f1 f2 => (q3 f f1).trans (fi f)) (fun a ha => ?_) ⟨by omega, x3, q2⟩ ⟨hR.1.2.2.2.1.1, ?_, ?_⟩ (fun i hi => ?_) (fun i hi => ?_)⟩
    · by_cases e : a = 17
      · rw [e, q4, fo 17 (by decide) (by decide), gV_pAs]
      · rw [q5 a e (by omega), fo a (by omega) (by omega), gV_pAn (by omega)]
    · rw [x1 387 _ (by decide) (fun z => absurd z (by decide)), gI_pIf (by decide)]; exact hR.1.2.2.2.1.2.1
    · rw [q3 9 (by decide), fi]; exact hR.1.2.2.2.1.2.2
    · by_cases e : i = nk'
      · subst e
        refine ⟨?_, ?_, fun m' k em hm' hk' => ?_⟩
        · rw [x4, q5 24 (by decide) (by decide), f24, upd_s, upd_s]
        · rw [x5, q5 25 (by decide) (by decide), f25, upd_s]
        · rw [q5 25 (by decide) (by decide), f25, upd_s] at em
          have e2 : m = m' := nI_inj (by omega) (by omega) em
          subst e2
          rw [x6 k hk', q7 k hk', fo 20 (by decide) (by decide), gV_pI]
          exact w8.2 m k hm2 hm1 hk'
      · obtain ⟨g1, g2, g3⟩ := hR.2.2.2.2.2.2.1 i (by omega)
        refine ⟨?_, ?_, fun m' k em hm' hk' => ?_⟩
        · rw [x4, q5 24 (by decide) (by decide), f24, upd_n e, upd_n e]; exact g1
        · rw [x1 257 _ (by decide) (fun _ => by omega), q5 25 (by decide) (by decide), f25, upd_n e, gI_pIf (by decide)]; exact g2
        · rw [q5 25 (by decide) (by decide), f25, upd_n e] at em
          rw [x2 _ (by omega) (by omega), q6 _ (by omega), fo 26 (by decide) (by decide), gV_pI]
          exact g3 m' k em hm' hk'
    · obtain ⟨g1, g2, g3⟩ := hR.2.2.2.2.2.2.2.1 i hi
      rw [x2 _ (by omega) (by omega), x2 _ (by omega) (by omega), x2 _ (by omega) (by omega), q5 27 (by decide) (by decide), q5 28 (by decide) (by decide), q5 29 (by decide) (by decide), fo 27 (by decide) (by decide), fo 28 (by decide) (by decide), fo 29 (by decide) (by decide)]
      exact ⟨g1, g2, g3⟩
  · have hne : ¬ nI k = -1 := fun z => by
      have := nI_pos (n := k) (by omega)
      rw [z] at this
      exact this (by decide)
    refine rel_rn hne ?_
    have ex : m_Store_keep (b + 5) s (b + 87 + 4 * j) (pI σ 452 (b + 86 + 4 * j) 3) = some (pI σ 452 (b + 86 + 4 * j) 3) := by
      unfold m_Store_keep
      exact obs (oK_k h11.1.1.2.2.2.2.2.1.2.1) (obs e1 (oif_n hne rfl))
    rw [ex]
    refine rel_r (mP25 hm) ?_
    refine rel_r (mS17 hm hj10) ?_
    exact rel_some ⟨_, hR1⟩
/-! a whole row looked at -/
def jT (c j : Nat) (y2 : Int32) (σ : fr_S) : Option fr_S :=
  (oP σ 0 22 c).bind fun q4 => (oV σ 0 q4 (nI j)).bind fun v5 =>
  if y2 = v5 then (oK σ 0 c).bind fun _ => (m_Md_keep c (nI j) σ).bind fun σ_29 => some σ_29
  else
    (oP σ 0 24 c).bind fun q7 => (oP σ 0 26 c).bind fun q8 => (oV σ 0 q8 (nI j)).bind fun v9 => (oV σ 0 q7 ((6 * nI j) + v9)).bind fun v10 => (oP σ 0 21 c).bind fun q11 => (sV σ 1 q11 v10 (vp_nar .boolean 1)).bind fun σ_12 => (oP σ_12 0 35 c).bind fun q13 => (oI σ_12 0 9 c).bind fun v14 => (sV σ_12 0 q13 v14 (nI j)).bind fun σ_15 => (oP σ_15 0 36 c).bind fun q16 => (oI σ_15 0 9 c).bind fun v17 => (sV σ_15 0 q16 v17 v10).bind fun σ_18 => (oP σ_18 0 37 c).bind fun q19 => (oI σ_18 0 9 c).bind fun v20 => (sV σ_18 0 q19 v20 y2).bind fun σ_21 => (oI σ_21 0 9 c).bind fun v22 => (sI σ_21 0 9 c (v22 + 1)).bind fun σ_23 => (oP σ_23 0 26 c).bind fun q24 => (oV σ_23 0 q24 (nI j)).bind fun v25 => (oK σ_23 0 c).bind fun _ => (m_Md_goOn c (nI j) ((v25 + 1)) σ_23).bind fun σ_27 => some σ_27
theorem r_dig {b c j m : Nat} {σ τ : fr_S} (h1 : XI b σ) (hm : Sm c τ) (hj : j < 10) (hm1 : m ≤ 100) (h19 : gV τ (c + 19) j = nI m) (hl : gI σ 257 (b + 87 + 4 * j) = nI m) (hv : ∀ k, k < m → gV σ (b + 88 + 4 * j) k = gV τ (c + 20) (100 * j + k)) : ∀ (n k : Nat) (s0 : Int32), k ≤ m → m - k < n → ∃ s, m_Row_computeDigest_L4 n (b + 87 + 4 * j) s0 (nI k) σ = some s ∧ m_Md_judge_L4 n c (nI j) s0 (nI k) τ = jT c j s τ := by
  obtain ⟨⟨k1, k2, k3⟩, -, -⟩ := XI_row h1 (pr_w hj)
  intro n
  induction n with
  | zero => intro k s0 _ h; omega
  | succ n ih =>
    intro k s0 hk hn
    by_cases hx : m ≤ k
    · refine ⟨s0, ?_, ?_⟩
      · unfold m_Row_computeDigest_L4
        exact obs ((oI_k k1).trans (congrArg some hl)) (oif_p (by rw [nI_leI (by omega) (by omega)]; exact hx) rfl)
      · unfold m_Md_judge_L4 jT
        exact obs (mP27 hm) (obs ((mV19 hm hj).trans (congrArg some h19)) (oif_p (by rw [nI_leI (by omega) (by omega)]; exact hx) rfl))
    · obtain ⟨s, e1, e2⟩ := ih (k + 1) ((((s0 ^^^ gV τ (c + 20) (100 * j + k)) <<< (5 &&& 31)) ||| (fr_ushr (s0 ^^^ gV τ (c + 20) (100 * j + k)) 27)) * (-2048144777)) (by omega) (by omega)
      refine ⟨s, ?_, ?_⟩
      · unfold m_Row_computeDigest_L4
        refine obs ((oI_k k1).trans (congrArg some hl)) (oif_n (by rw [nI_leI (by omega) (by omega)]; exact hx) (obs (oP_g k1 k2) (obs ((oV_nI k3 (by omega) (by decide)).trans (congrArg some (hv k (by omega)))) ?_)))
        rw [nI_1]
        exact e1
      · unfold m_Md_judge_L4
        refine obs (mP27 hm) (obs ((mV19 hm hj).trans (congrArg some h19)) (oif_n (by rw [nI_leI (by omega) (by omega)]; exact hx) (obs (mP28 hm) ?_)))
        rw [nI_100]
        refine obs (mV20 hm (by omega)) (obs (show m_Md_next s0 (gV τ (c + 20) (100 * j + k)) τ = some _ from rfl) ?_)
        rw [nI_1]
        exact e2
theorem cur_eq {b j a m p : Nat} {σ : fr_S} (hs : Sx b σ) (hj : j < 10) (h453 : gI σ 453 (b + 86 + 4 * j) = nI a) (h450 : gI σ 450 (b + 86 + 4 * j) = nI m) (ham : a < m) (hm6 : m ≤ 6) (hp : gV σ (b + 89 + 4 * j) a = nI p) : m_Want_currentPlace (b + 86 + 4 * j) σ = some (nI p) := by
  have hk := wt_k hs hj
  have hv := (hs.2.2.1 j hj).2.2.2.2.2
  unfold m_Want_currentPlace
  refine obs ((oI_k hk).trans (congrArg some h453)) (oif_n (nI_pos (by omega)) ?_)
  refine obs ((oI_k hk).trans (congrArg some h453)) (obs ((oI_k hk).trans (congrArg some h450)) (oif_n (by rw [nI_leI (by omega) (by omega)]; omega) ?_))
  exact obs (wt_p hs hj) (obs ((oI_k hk).trans (congrArg some h453)) (obs ((oV_nI hv (by omega) (by decide)).trans (congrArg some hp)) rfl))
theorem isP_eq {b c np nw nk nt nl nf p : Nat} {σ τ : fr_S} (hs : Sx b σ) (hR : RN b c np nw nk nt nl nf σ τ) (hp : p < np) : m_FR_isPlace b (nI p) σ = some 1 := by
  have hn := hR.1.1
  unfold m_FR_isPlace
  refine oif_n (nI_pos (by omega)) (obs ((xI hs).trans (congrArg some hn.2.1)) (oif_n ?_ rfl))
  rw [nI_leI (by omega) (by omega)]
  omega
theorem r_check {b c np nw nk nt nl nf j : Nat} {σ τ : fr_S} (h1 : XI b σ) (h2 : MI c τ) (hR : RN b c np nw nk nt nl nf σ τ) (hj : j < nw) (hb : gV τ (c + 17) j = 1) : rel (m_FR_checkDigest b (nI j) σ) (m_Md_judge c (nI j) τ) (fun σ' τ' => ∃ nk' nt', RN b c np nw nk' nt' nl nf σ' τ') := by
  have hs := h1.1
  have hm := h2.1
  have hnw := hR.1.2.1
  have hnp := hR.1.1
  have hj10 : j < 10 := by omega
  have hk := wt_k hs hj10
  obtain ⟨-, np', nw', nk', nt', nl', nf', re, a1, a2, a3, a4, a5, a6, a7, a8, a9, a10, a11, a12, a13, a14, a15, a16, a17, a18⟩ := id h2
  have enp : np' = np := nI_inj (by omega) (by omega) (a1.2.symm.trans hnp.2.2)
  have enw : nw' = nw := nI_inj (by omega) (by omega) (a2.2.symm.trans hnw.2.2)
  subst enp enw
  have let1 := I_to_le a16 a2.1
  have ent : nt' = nt := nI_inj (by omega) (by have := hR.1.2.2.2.1.1; omega) (a4.symm.trans hR.1.2.2.2.1.2.2)
  subst ent
  obtain ⟨w1, w2, w3, w4, w5, w6, w7, w8⟩ := hR.2.2.2.2.2.1 j hj10
  have w6 := w6 (Or.inl hb)
  have w8 := w8 (by rw [hb]; decide)
  obtain ⟨-, ⟨z, hz1, hz2⟩, -⟩ := a12 j hj10
  obtain ⟨m, a, p, m6, m1, m2, m3, p1, p2⟩ := busy_get a12 a11 hj10 hb
  have key := r_dig h1 hm hj10 hz1 hz2 (w8.1.trans hz2) (fun k hk => w8.2 z k hz2 hz1 hk) 1000 0 0 (by omega) (by omega)
  rw [nI_0] at key
  obtain ⟨s, es, et⟩ := key
  unfold m_FR_checkDigest m_Md_judge
  rw [et]
  refine rel_l (xp69 hs) ?_
  refine rel_l (xW hs hj10) ?_
  refine rel_l (wt_r hs hj10) ?_
  refine rel_l (oK_k (row_k h1 (pr_w hj10))) ?_
  refine rel_l (show m_Row_computeDigest (b + 87 + 4 * j) σ = some s from es) ?_
  refine rel_l ((oI_k hk).trans (congrArg some w1)) ?_
  unfold jT
  refine rel_r (mP22 hm) ?_
  refine rel_r (mV14 hm hj10) ?_
  refine rel_ii (fun e => ?_) (fun e => ?_)
  · refine rel_l (sI_k hk) ?_
    refine rel_l (xp71 (σ := pI σ 452 (b + 86 + 4 * j) 3) hs) ?_
    refine rel_l (wt_r (σ := pI σ 452 (b + 86 + 4 * j) 3) hs hj10) ?_
    refine rel_l (oK_k (σ := pI σ 452 (b + 86 + 4 * j) 3) hs.1.2.2.2.2.2.1.2.1) ?_
    refine rel_r (mK hm) ?_
    refine rel_b (r_keep h1 h2 hR hj hb e) (fun σ' τ' q => ?_)
    obtain ⟨nk2, q⟩ := q
    exact rel_some ⟨nk2, _, q⟩
  · have e453 := w6.1.trans m2
    refine rel_l (oK_k hk) ?_
    refine rel_l (cur_eq hs hj10 e453 (w2.trans m1) m3 m6 ((w5 m a m1 m6 m3).trans p2)) ?_
    refine rel_l (xK hs) ?_
    refine rel_l (isP_eq hs hR p1) ?_
    refine rel_ln (by decide) ?_
    have hp16 : p < 16 := by omega
    refine rel_l (xp67 hs) ?_
    refine rel_l (xP hs hp16) ?_
    refine rel_l (sZ_k (pl_k hs hp16) (Or.inr rfl)) ?_
    refine rel_r (mP24 hm) ?_
    refine rel_r (mP26 hm) ?_
    refine rel_r ((mV18 hm hj10).trans (congrArg some m2)) ?_
    rw [nI_6]
    refine rel_r ((mV16 hm (by omega)).trans (congrArg some p2)) ?_
    refine rel_r (mP21 hm) ?_
    refine rel_r (mS13 hm hp16) ?_
    rw [nar1]
    have lt60 : nt' < 60 := by
      have := I_to_le (I_to_tell a16 hj a2.1 a1.1 hb m6 m1 m2 m3 p1 p2) a2.1
      omega
    have hRb := RN_p201 (j := p) (v := 1) hR
    have h1b : XI b (pI σ 201 (b + 38 + 3 * p) 1) := XI_o h1 (by decide) (by decide)
    have hmb : Sm c (pA τ (c + 13) (upd (gV τ (c + 13)) p 1)) := hm
    have e453b : gI (pI σ 201 (b + 38 + 3 * p) 1) 453 (b + 86 + 4 * j) = nI a := by rw [gI_pIf (by decide)]; exact e453
    have e18b : gV (pA τ (c + 13) (upd (gV τ (c + 13)) p 1)) (c + 18) j = nI a := by rw [gV_pAn (by omega)]; exact m2
    generalize pI σ 201 (b + 38 + 3 * p) 1 = σ1 at hRb h1b e453b ⊢
    generalize pA τ (c + 13) (upd (gV τ (c + 13)) p 1) = τ1 at hRb hmb e18b ⊢
    have hnt := hRb.1.2.2.2.1.2.2
    obtain ⟨σ2, ex, hx2, hfr, hF⟩ := r_tell h1b hRb lt60 (nI j) (nI p) s
    refine rel_l (xp72 h1b.1) ?_
    refine rel_l (oK_k h1b.1.1.2.2.2.2.2.2.1.2.1) ?_
    refine rel_l ex ?_
    refine rel_l (xK hx2.1) ?_
    refine rel_r (mP35 hmb) ?_
    refine rel_r ((mI hmb).trans (congrArg some hnt)) ?_
    refine rel_r (mS27 hmb (by omega)) ?_
    have hmc : Sm c (pA τ1 (c + 27) (upd (gV τ1 (c + 27)) nt' (nI j))) := hmb
    refine rel_r (mP36 hmc) ?_
    refine rel_r (Eq.trans (mI hmc) (congrArg some (show _ = nI nt' from hnt))) ?_
    refine rel_r (mS28 hmc (by omega)) ?_
    have ec : gV (pA τ1 (c + 27) (upd (gV τ1 (c + 27)) nt' (nI j))) (c + 28) = gV τ1 (c + 28) := gV_pAn (by omega)
    rw [ec]
    have hmd : Sm c (pA (pA τ1 (c + 27) (upd (gV τ1 (c + 27)) nt' (nI j))) (c + 28) (upd (gV τ1 (c + 28)) nt' (nI p))) := hmb
    refine rel_r (mP37 hmd) ?_
    refine rel_r (Eq.trans (mI hmd) (congrArg some (show _ = nI nt' from hnt))) ?_
    refine rel_r (mS29 hmd (by omega)) ?_
    have ed : gV (pA (pA τ1 (c + 27) (upd (gV τ1 (c + 27)) nt' (nI j))) (c + 28) (upd (gV τ1 (c + 28)) nt' (nI p))) (c + 29) = gV τ1 (c + 29) := by rw [gV_pAn (by omega), gV_pAn (by omega)]
    rw [ed]
    have hme : Sm c (pA (pA (pA τ1 (c + 27) (upd (gV τ1 (c + 27)) nt' (nI j))) (c + 28) (upd (gV τ1 (c + 28)) nt' (nI p))) (c + 29) (upd (gV τ1 (c + 29)) nt' s)) := hmb
    refine rel_r (Eq.trans (mI hme) (congrArg some (show _ = nI nt' from hnt))) ?_
    refine rel_r (mSI hme) ?_
    rw [nI_1]
    have hmf : Sm c (pI (pA (pA (pA τ1 (c + 27) (upd (gV τ1 (c + 27)) nt' (nI j))) (c + 28) (upd (gV τ1 (c + 28)) nt' (nI p))) (c + 29) (upd (gV τ1 (c + 29)) nt' s)) 9 c (nI (nt' + 1))) := hmb
    have hRf := hF _ hmf (fun f hf => by rw [gI_pIf hf]; rfl) (fun q hq => by rw [gV_pI, gV_pAn (by omega), gV_pAn (by omega), gV_pAn (by omega)]) gI_pIs (by rw [gV_pI, gV_pAn (by omega), gV_pAn (by omega), gV_pAs]) (by rw [gV_pI, gV_pAn (by omega), gV_pAs]) (by rw [gV_pI, gV_pAs])
    have e18f : gV (pI (pA (pA (pA τ1 (c + 27) (upd (gV τ1 (c + 27)) nt' (nI j))) (c + 28) (upd (gV τ1 (c + 28)) nt' (nI p))) (c + 29) (upd (gV τ1 (c + 29)) nt' s)) 9 c (nI (nt' + 1))) (c + 18) j = nI a := by rw [gV_pI, gV_pAn (by omega), gV_pAn (by omega), gV_pAn (by omega)]; exact e18b
    generalize pI (pA (pA (pA τ1 (c + 27) (upd (gV τ1 (c + 27)) nt' (nI j))) (c + 28) (upd (gV τ1 (c + 28)) nt' (nI p))) (c + 29) (upd (gV τ1 (c + 29)) nt' s)) 9 c (nI (nt' + 1)) = τ2 at hmf hRf e18f ⊢
    refine rel_r (mP26 hmf) ?_
    refine rel_r ((mV18 hmf hj10).trans (congrArg some e18f)) ?_
    refine rel_r (mK hmf) ?_
    rw [nI_1]
    exact rel_b (r_giveUp hx2 hmf hRf hj10 (by omega) ((hfr 453 _ (by decide)).trans e453b)) (fun σ' τ' q => rel_some ⟨_, _, q⟩)
theorem MI_wake {c w : Nat} {τ : fr_S} (h : MI c τ) (h2 : gV τ (c + 17) w = 2) : MI c (pA τ (c + 17) (upd (gV τ (c + 17)) w 1)) := by
  obtain ⟨hs, np, nw, nk, nt, nl, nf, re, a1, a2, a3, a4, a5, a6, a7, a8, a9, a10, a11, a12, a13, a14, a15, a16, a17, a18⟩ := id h
  exact ⟨hs, np, nw, nk, nt, nl, nf, re, (by simpa [gV_pI, gV_pAx, gI_pA, gI_pIx] using a1), (by simpa [gV_pI, gV_pAx, gI_pA, gI_pIx] using a2), (by simpa [gV_pI, gV_pAx, gI_pA, gI_pIx] using a3), (by simpa [gV_pI, gV_pAx, gI_pA, gI_pIx] using a4), (by simpa [gV_pI, gV_pAx, gI_pA, gI_pIx] using a5), (by simpa [gV_pI, gV_pAx, gI_pA, gI_pIx] using a6), (by simpa [gV_pI, gV_pAx, gI_pA, gI_pIx] using a7), (by simpa [gV_pI, gV_pAx, gI_pA, gI_pIx] using a8), (by simpa [gV_pI, gV_pAx, gI_pA, gI_pIx] using a9), (by simpa [gV_pI, gV_pAx, gI_pA, gI_pIx] using a10), (by simpa [gV_pI, gV_pAx, gI_pA, gI_pIx] using a11), (by simpa [gV_pAx] using I_ws_wake a12 h2), (by simpa [gV_pI, gV_pAx, gI_pA, gI_pIx] using a13), (by simpa [gV_pI, gV_pAx, gI_pA, gI_pIx] using a14), (by simpa [gV_pI, gV_pAx, gI_pA, gI_pIx] using a15), (by simpa [gV_pAx] using I_to_wait (v := 1) a16 (Or.inr h2)), (by simpa [gV_pI, gV_pAx, gI_pA, gI_pIx] using a17), (by simpa [gV_pI, gV_pAx, gI_pA, gI_pIx] using a18)⟩
/-! a turn of the clock -/
theorem min_nI {a b : Nat} (ha : a < 2 ^ 31) (hb : b < 2 ^ 31) : (if nI a < nI b then nI a else nI b) = nI (min b a) := by
  by_cases e : a < b
  · rw [if_pos (by rw [nI_ltI ha hb]; exact e), Nat.min_eq_right (by omega)]
  · rw [if_neg (by rw [nI_ltI ha hb]; exact e), Nat.min_eq_left (by omega)]
theorem pA_sam {τ : fr_S} {a h : Nat} {v : Int32} (hv : gV τ a h = v) : pA τ a (upd (gV τ a) h v) = τ := by
  have e := pA_same (τ := τ) (a := a) (h := h)
  rw [Int32.add_zero, hv] at e
  exact e
/-- what the reference does behind the asking -/
def gT (c : Nat) (x1 i : Int32) (σ : fr_S) : Option fr_S :=
  (oP σ 0 15 c).bind fun q11 => (oV σ 0 q11 i).bind fun v12 =>
  if v12 ≤ 0 then
    (oP σ 0 12 c).bind fun q15 => (oV σ 0 q15 i).bind fun v16 => (oP σ 0 15 c).bind fun q17 => (oV σ 0 q17 i).bind fun v18 => (sV σ 0 q17 i (v18 - 0)).bind fun σ_20 => m_Md_turn_L122 1000 c x1 i 0 v16 0 σ_20
  else
    (oP σ 0 16 c).bind fun q22 => (oV σ 0 q22 i).bind fun v23 => (oP σ 0 12 c).bind fun q24 => (oV σ 0 q24 i).bind fun v25 =>
    if v25 ≤ v23 then
      (oP σ 0 12 c).bind fun q27 => (oV σ 0 q27 i).bind fun v28 => (oP σ 0 15 c).bind fun q29 => (oV σ 0 q29 i).bind fun v30 => (sV σ 0 q29 i (v30 - 1)).bind fun σ_32 => m_Md_turn_L122 1000 c x1 i 1 v28 0 σ_32
    else
      (oP σ 0 16 c).bind fun q33 => (oV σ 0 q33 i).bind fun v34 => (oP σ 0 15 c).bind fun q35 => (oV σ 0 q35 i).bind fun v36 => (sV σ 0 q35 i (v36 - 1)).bind fun σ_38 => m_Md_turn_L122 1000 c x1 i 1 v34 0 σ_38
theorem r_giveTo {b c np nw nk nt nl nf i j : Nat} {σ τ : fr_S} (h1 : XI b σ) (h2 : MI c τ) (hR : RN b c np nw nk nt nl nf σ τ) (hi : i < np) (hj : j < 10) (hb : gV τ (c + 17) j = 1) : ∃ y σ' τ', m_Place_giveTo (b + 38 + 3 * i) (b + 87 + 4 * j) σ = some (y, σ') ∧ gT c (nI j) (nI i) τ = mT c i j y τ' ∧ RN b c np nw nk nt nl nf σ' τ' ∧ XI b σ' ∧ MI c τ' ∧ gV τ' (c + 17) j = 1 := by
  have hs := h1.1
  have hm := h2.1
  have hnp := hR.1.1
  have hi16 : i < 16 := by omega
  have hk := pl_k hs hi16
  obtain ⟨-, np', nw', nk', nt', nl', nf', re, a1, a2, a3, a4, a5, a6, a7, a8, a9, a10, a11, a12, a13, a14, a15, a16, a17, a18⟩ := id h2
  have enp : np' = np := nI_inj (by omega) (by omega) (a1.2.symm.trans hnp.2.2)
  subst enp
  obtain ⟨⟨sz, sz1, sz2⟩, ⟨cu, cu1, cu2⟩, ⟨cb, cb1, cb2⟩⟩ := a9 i hi16
  obtain ⟨-, ⟨ra, ra1, ra2, ra3⟩, -⟩ := a8 i hi
  obtain ⟨-, ⟨z, z1, z2⟩, -⟩ := a12 j hj
  obtain ⟨p1, p2, p3, p4, p5, p6, p7, p8, p9, p10⟩ := hR.2.2.2.1 i hi16
  have p8 := (p8 hi).trans ra3
  have p2 := p2.trans cu2
  have p3 := p3.trans cb2
  have hl : gI σ 257 (b + 39 + 3 * i) = nI sz := (hR.2.2.2.2.1 i hi16).1.trans sz2
  have hl2 : gI σ 257 (b + 87 + 4 * j) = nI z := ((hR.2.2.2.2.2.1 j hj).2.2.2.2.2.2.2 (by rw [hb]; decide)).1.trans z2
  have kp := row_k h1 (pr_p hi16)
  have kw := row_k h1 (pr_w hj)
  by_cases e0 : cu = 0
  · obtain ⟨σ', τ', E, E', rest⟩ := r_give_L (i := i) (j := j) (q := ra) (sz := sz) (k0 := z) hi16 hj sz1 (by omega) 0 (Or.inl rfl) rfl 1000 0 σ τ h1 h2 hR hb sz2 z2 (by omega) (by omega) (by omega)
    refine ⟨0, σ', τ', ?_, ?_, rest⟩
    · unfold m_Place_giveTo
      refine obs ((oI_k hk).trans (congrArg some p2)) (oif_p (by rw [e0, nI_0]; exact Int32.le_refl 0) ?_)
      refine obs ((oI_k hk).trans (congrArg some p8)) (obs (pl_r hs hi16) (obs ((oI_k kp).trans (congrArg some hl)) (obs ((oI_k kw).trans (congrArg some hl2)) (obs ((oI_k kw).trans (congrArg some hl2)) ?_))))
      rw [nI_add, min_nI (by omega) (by omega)]
      exact E
    · unfold gT
      refine obs (mP15 hm) (obs ((mV7 hm hi16).trans (congrArg some cu2)) (oif_p (by rw [e0, nI_0]; exact Int32.le_refl 0) ?_))
      refine obs (mP12 hm) (obs ((mV4 hm hi16).trans (congrArg some ra3)) (obs (mP15 hm) (obs ((mV7 hm hi16).trans (congrArg some cu2)) ?_)))
      rw [nI_s0]
      refine obs (mS7 hm hi16) ?_
      rw [pA_sam cu2]
      rw [nI_0] at E'
      exact E'
  · have npos : ¬ nI cu ≤ 0 := fun q => by
      rw [← nI_0, nI_leI (by omega) (by omega)] at q
      omega
    have hRc := RN_p196 (j := i) (v := nI (cu - 1)) hR
    have h1c : XI b (pI σ 196 (b + 38 + 3 * i) (nI (cu - 1))) := XI_o h1 (by decide) (by decide)
    have h2c := MI_cu (p := i) (t := cu - 1) h2 (by omega)
    obtain ⟨σ', τ', E, E', rest⟩ := r_give_L (i := i) (j := j) (q := min ra cb) (sz := sz) (k0 := z) hi16 hj sz1 (by omega) 1 (Or.inr rfl) rfl 1000 0 _ _ h1c h2c hRc (by rw [gV_pAn (by omega)]; exact hb) (by rw [gV_pAn (by omega)]; exact sz2) (by rw [gV_pAn (by omega)]; exact z2) (by omega) (by omega) (by omega)
    rw [nI_0] at E'
    refine ⟨1, σ', τ', ?_, ?_, rest⟩
    · unfold m_Place_giveTo
      refine obs ((oI_k hk).trans (congrArg some p2)) (oif_n npos ?_)
      refine obs ((oI_k hk).trans (congrArg some p8)) (obs ((oI_k hk).trans (congrArg some p2)) (obs (sI_k hk) ?_))
      rw [nI_sm (by omega)]
      refine obs (Eq.trans (oI_k (σ := pI σ 196 (b + 38 + 3 * i) (nI (cu - 1))) hk) (congrArg some (show _ = nI cb by rw [gI_pIf (by decide)]; exact p3))) (obs (pl_r (σ := pI σ 196 (b + 38 + 3 * i) (nI (cu - 1))) hs hi16) (obs (Eq.trans (oI_k (σ := pI σ 196 (b + 38 + 3 * i) (nI (cu - 1))) kp) (congrArg some (show _ = nI sz by rw [gI_pIf (by decide)]; exact hl))) (obs (Eq.trans (oI_k (σ := pI σ 196 (b + 38 + 3 * i) (nI (cu - 1))) kw) (congrArg some (show _ = nI z by rw [gI_pIf (by decide)]; exact hl2))) (obs (Eq.trans (oI_k (σ := pI σ 196 (b + 38 + 3 * i) (nI (cu - 1))) kw) (congrArg some (show _ = nI z by rw [gI_pIf (by decide)]; exact hl2))) ?_))))
      rw [min_nI (by omega) (by omega), nI_add, min_nI (by omega) (by omega)]
      exact E
    · unfold gT
      refine obs (mP15 hm) (obs ((mV7 hm hi16).trans (congrArg some cu2)) (oif_n npos ?_))
      refine obs (mP16 hm) (obs ((mV8 hm hi16).trans (congrArg some cb2)) (obs (mP12 hm) (obs ((mV4 hm hi16).trans (congrArg some ra3)) ?_)))
      by_cases el : ra ≤ cb
      · rw [Nat.min_eq_left el] at E'
        refine oif_p (by rw [nI_leI (by omega) (by omega)]; exact el) ?_
        refine obs (mP12 hm) (obs ((mV4 hm hi16).trans (congrArg some ra3)) (obs (mP15 hm) (obs ((mV7 hm hi16).trans (congrArg some cu2)) ?_)))
        rw [nI_sm (by omega)]
        exact obs (mS7 hm hi16) E'
      · rw [Nat.min_eq_right (by omega)] at E'
        refine oif_n (by rw [nI_leI (by omega) (by omega)]; exact el) ?_
        refine obs (mP16 hm) (obs ((mV8 hm hi16).trans (congrArg some cb2)) (obs (mP15 hm) (obs ((mV7 hm hi16).trans (congrArg some cu2)) ?_)))
        rw [nI_sm (by omega)]
        exact obs (mS7 hm hi16) E'
theorem r_turn {b c np nw nk nt nl nf j : Nat} {σ τ : fr_S} (h1 : XI b σ) (h2 : MI c τ) (hR : RN b c np nw nk nt nl nf σ τ) (hj : j < nw) (hb : gV τ (c + 17) j = 1) : rel (m_FR_takeTurn b (nI j) σ) (m_Md_turn c (nI j) τ) (fun σ' τ' => ∃ nk' nt', RN b c np nw nk' nt' nl nf σ' τ') := by
  have hnw := hR.1.2.1
  have hj10 : j < 10 := by omega
  unfold m_FR_takeTurn m_Md_turn
  refine rel_l (xp69 h1.1) ?_
  refine rel_l (xW h1.1 hj10) ?_
  refine rel_l ((oI_k (wt_k h1.1 hj10)).trans (congrArg some (hR.2.2.2.2.2.1 j hj10).2.2.2.1)) ?_
  refine rel_l (sI_k (wt_k h1.1 hj10)) ?_
  refine rel_r (mP30 h2.1) ?_
  refine rel_r (mV22 h2.1 hj10) ?_
  refine rel_r (mS22 h2.1 hj10) ?_
  have hR := RN_w456 (j := j) (v := gV τ (c + 22) j + 1) hR
  have h1 : XI b (pI σ 456 (b + 86 + 4 * j) (gV τ (c + 22) j + 1)) := XI_o h1 (by decide) (by decide)
  have h2 := MI_pA (a := 22) (u := upd (gV τ (c + 22)) j (gV τ (c + 22) j + 1)) h2 (by decide)
  have hb : gV (pA τ (c + 22) (upd (gV τ (c + 22)) j (gV τ (c + 22) j + 1))) (c + 17) j = 1 := by rw [gV_pAn (by omega)]; exact hb
  generalize pI σ 456 (b + 86 + 4 * j) (gV τ (c + 22) j + 1) = σ at h1 hR ⊢
  generalize pA τ (c + 22) (upd (gV τ (c + 22)) j (gV τ (c + 22) j + 1)) = τ at h2 hR hb ⊢
  have hs := h1.1
  have hm := h2.1
  have hnp := hR.1.1
  have hk := wt_k hs hj10
  obtain ⟨-, np', nw', nk', nt', nl', nf', re, a1, a2, a3, a4, a5, a6, a7, a8, a9, a10, a11, a12, a13, a14, a15, a16, a17, a18⟩ := id h2
  have enp : np' = np := nI_inj (by omega) (by omega) (a1.2.symm.trans hnp.2.2)
  subst enp
  obtain ⟨w1, w2, w3, w4, w5, w6, w7, w8⟩ := hR.2.2.2.2.2.1 j hj10
  have w6 := w6 (Or.inl hb)
  obtain ⟨m, a, p, m6, m1, m2, m3, p1, p2⟩ := busy_get a12 a11 hj10 hb
  refine rel_l (oK_k hk) ?_
  refine rel_l (cur_eq hs hj10 (w6.1.trans m2) (w2.trans m1) m3 m6 ((w5 m a m1 m6 m3).trans p2)) ?_
  refine rel_l (xK hs) ?_
  refine rel_r (mP24 hm) ?_
  refine rel_r (mP26 hm) ?_
  refine rel_r ((mV18 hm hj10).trans (congrArg some m2)) ?_
  rw [nI_6]
  refine rel_r ((mV16 hm (by omega)).trans (congrArg some p2)) ?_
  refine rel_r (mK hm) ?_
  refine rel_b (rel_ev (r_ask h1 hm hR (fun i hi => (a8 i hi).2.2) p1) (x_ask h1 (nI p)) (md_ask hm a8 a1.1 p1)) (fun q q' hq => ?_)
  obtain ⟨r, σ2⟩ := q
  obtain ⟨r', τ2⟩ := q'
  obtain ⟨⟨er, hr, hR2, h12, hm2⟩, -, hsb, -⟩ := hq
  have er : r = r' := er
  subst er
  have hr : r = -1 ∨ ∃ j, j < np' ∧ r = nI j := hr
  have hR2 : RN b c np' nw nk nt nl nf σ2 τ2 := hR2
  have h12 : XI b σ2 := h12
  have hm2 : Sm c τ2 := hm2
  have hsb : SB c τ τ2 := hsb
  have h22 : MI c τ2 := SB_MI h2 hsb
  have hb2 : gV τ2 (c + 17) j = 1 := by rw [hsb.2.2 17 (by decide)]; exact hb
  have e18 : gV τ2 (c + 18) j = nI a := by rw [hsb.2.2 18 (by decide)]; exact m2
  have e453 : gI σ2 453 (b + 86 + 4 * j) = nI a := ((hR2.2.2.2.2.2.1 j hj10).2.2.2.2.2.1 (Or.inl hb2)).1.trans e18
  refine rel_ii (fun _ => ?_) (fun hne => ?_)
  · refine rel_l (xK h12.1) ?_
    refine rel_r (mP26 hm2) ?_
    refine rel_r ((mV18 hm2 hj10).trans (congrArg some e18)) ?_
    refine rel_r (mK hm2) ?_
    rw [nI_1]
    exact rel_b (r_giveUp h12 hm2 hR2 hj10 (by omega) e453) (fun σ' τ' q => rel_some ⟨_, _, q⟩)
  · rcases hr with hr | ⟨i, hi, rfl⟩
    · exact absurd hr hne
    have hi16 : i < 16 := by omega
    obtain ⟨y, σ3, τ3, E, E', hR3, h13, h23, hb3⟩ := r_giveTo h12 h22 hR2 hi hj10 hb2
    have hs3 := h13.1
    refine rel_l (xp67 h12.1) ?_
    refine rel_l (xP h12.1 hi16) ?_
    refine rel_l (wt_r h12.1 hj10) ?_
    refine rel_l (oK_k (pl_k h12.1 hi16)) ?_
    refine rel_l E ?_
    show rel _ (gT c (nI j) (nI i) τ2) _
    rw [E']
    unfold mT
    obtain ⟨u1, u2, u3, u4, u5, u6, u7, u8⟩ := hR3.2.2.2.2.2.1 j hj10
    have u8 := u8 (by rw [hb3]; decide)
    refine rel_l (wt_r hs3 hj10) ?_
    refine rel_l ((oI_k (row_k h13 (pr_w hj10))).trans (congrArg some u8.1)) ?_
    refine rel_l (pl_r hs3 hi16) ?_
    refine rel_l ((oI_k (row_k h13 (pr_p hi16))).trans (congrArg some (hR3.2.2.2.2.1 i hi16).1)) ?_
    refine rel_ii (fun _ => ?_) (fun _ => ?_)
    · refine rel_ii (fun _ => rel_some ⟨_, _, hR3⟩) (fun _ => ?_)
      refine rel_l (xK hs3) ?_
      refine rel_r (mK h23.1) ?_
      exact rel_b (r_falter h13 h23 hR3 hj10 hb3) (fun σ' τ' q => rel_some ⟨_, _, q⟩)
    · refine rel_l (xK hs3) ?_
      refine rel_r (mK h23.1) ?_
      exact rel_b (r_check h13 h23 hR3 hj hb3) (fun σ' τ' q => rel_some q)
theorem r_wake {b c np nw nk nt nl nf j : Nat} {σ τ : fr_S} (hR : RN b c np nw nk nt nl nf σ τ) (hj : j < 10) (hb : gV τ (c + 17) j = 2) : RN b c np nw nk nt nl nf (pI σ 452 (b + 86 + 4 * j) 1) (pA τ (c + 17) (upd (gV τ (c + 17)) j 1)) := by
  obtain ⟨w1, w2, w3, w4, w5, w6, w7, w8⟩ := hR.2.2.2.2.2.1 j hj
  have w6 := w6 (Or.inr hb)
  have w8 := w8 (by rw [hb]; decide)
  refine RN_want hj hR (DX_w DX_rf) (DM_a (by decide) DM_rf) ?_
  have st : gV (pA τ (c + 17) (upd (gV τ (c + 17)) j 1)) (c + 17) j = 1 := by rw [gV_pAs, upd_s]
  refine ⟨?_, ?_, ?_, ?_, fun m' k em h6 hk' => ?_, fun y => ⟨?_, ?_⟩, fun y => ?_, fun y => ⟨?_, fun m' k em h6 hk' => ?_⟩⟩
  · rw [gI_pIf (by decide), gV_pAn (by omega)]; exact w1
  · rw [gI_pIf (by decide), gV_pAn (by omega)]; exact w2
  · rw [gI_pIs, st]
  · rw [gI_pIf (by decide), gV_pAn (by omega)]; exact w4
  · rw [gV_pAn (by omega)] at em
    rw [gV_pI, gV_pAn (by omega)]
    exact w5 m' k em h6 hk'
  · rw [gI_pIf (by decide), gV_pAn (by omega)]; exact w6.1
  · rw [gI_pIf (by decide), gV_pAn (by omega)]; exact w6.2
  · rw [st] at y
    exact absurd y (by decide)
  · rw [gI_pIf (by decide), gV_pAn (by omega)]; exact w8.1
  · rw [gV_pAn (by omega)] at em
    rw [gV_pI, gV_pAn (by omega)]
    exact w8.2 m' k em h6 hk'
def RT (b c np nw nl nf : Nat) (σ τ : fr_S) : Prop := XI b σ ∧ MI c τ ∧ ∃ nk nt, RN b c np nw nk nt nl nf σ τ
theorem r_turn2 {b c np nw nl nf j : Nat} {σ τ : fr_S} (h : RT b c np nw nl nf σ τ) (hj : j < nw) (hb : gV τ (c + 17) j = 1) : rel (m_FR_takeTurn b (nI j) σ) (m_Md_turn c (nI j) τ) (RT b c np nw nl nf) := by
  obtain ⟨h1, h2, nk, nt, hR⟩ := h
  have hnw := hR.1.2.1
  exact rel_mono (rel_ev (r_turn h1 h2 hR hj hb) (x_turn h1 (by omega)) (md_turn h2 ⟨nw, hnw.2.2, hnw.1, hj⟩ hb)) (fun a a' q => ⟨q.2.1, q.2.2, q.1⟩)
theorem r_move_L {b c np nw nl nf : Nat} (y1 y2 : Int32) : ∀ (n k : Nat) (σ τ : fr_S), RT b c np nw nl nf σ τ → k ≤ nw → nw - k < n → rel (m_FR_moveClock_L12 n b (nI k) σ) (m_Md_tick_L36 n c y1 y2 (nI k) τ) (RT b c np nw nl nf) := by
  intro n
  induction n with
  | zero => intro k σ τ _ _ h; omega
  | succ n ih =>
    intro k σ τ h hk hn
    obtain ⟨h1, h2, nk, nt, hR⟩ := id h
    have hs := h1.1
    have hm := h2.1
    have hnw := hR.1.2.1
    unfold m_FR_moveClock_L12 m_Md_tick_L36
    refine rel_l ((xI hs).trans (congrArg some hnw.2.1)) ?_
    refine rel_r ((mI hm).trans (congrArg some hnw.2.2)) ?_
    refine rel_ii (fun _ => rel_some h) (fun z => ?_)
    rw [nI_leI (by omega) (by omega)] at z
    have hk10 : k < 10 := by omega
    have go : ∀ σ' τ' : fr_S, RT b c np nw nl nf σ' τ' → rel ((oI σ' 7 452 (b + 86 + 4 * k)).bind fun v9 => if v9 = 1 then (oK σ' 1 b).bind fun _ => (m_FR_takeTurn b (nI k) σ').bind fun σ_12 => m_FR_moveClock_L12 n b (nI k + 1) σ_12 else m_FR_moveClock_L12 n b (nI k + 1) σ') ((oP τ' 0 25 c).bind fun q30 => (oV τ' 0 q30 (nI k)).bind fun v31 => if v31 = 1 then (oK τ' 0 c).bind fun _ => (m_Md_turn c (nI k) τ').bind fun σ_34 => m_Md_tick_L36 n c y1 y2 (nI k + 1) σ_34 else m_Md_tick_L36 n c y1 y2 (nI k + 1) τ') (RT b c np nw nl nf) := by
      intro σ' τ' h'
      obtain ⟨g1, g2, nk2, nt2, gR⟩ := id h'
      refine rel_l ((oI_k (wt_k g1.1 hk10)).trans (congrArg some (gR.2.2.2.2.2.1 k hk10).2.2.1)) ?_
      refine rel_r (mP25 g2.1) ?_
      refine rel_r (mV17 g2.1 hk10) ?_
      rw [nI_1]
      refine rel_ii (fun e => ?_) (fun _ => ih (k + 1) σ' τ' h' (by omega) (by omega))
      refine rel_l (xK g1.1) ?_
      refine rel_r (mK g2.1) ?_
      exact rel_b (r_turn2 h' (by omega) e) (fun σ2 τ2 q => ih (k + 1) σ2 τ2 q (by omega) (by omega))
    obtain ⟨w1, w2, w3, w4, w5, w6, w7, w8⟩ := hR.2.2.2.2.2.1 k hk10
    refine rel_l (xp69 hs) ?_
    refine rel_l (xW hs hk10) ?_
    refine rel_l ((oI_k (wt_k hs hk10)).trans (congrArg some w3)) ?_
    refine rel_r (mP25 hm) ?_
    refine rel_r (mV17 hm hk10) ?_
    refine rel_ii (fun e => ?_) (fun _ => go σ τ h)
    refine rel_l ((oI_k (wt_k hs hk10)).trans (congrArg some (w7 e))) ?_
    refine rel_l ((xI hs).trans (congrArg some hR.2.1.2.1)) ?_
    refine rel_r (mP29 hm) ?_
    refine rel_r (mV21 hm hk10) ?_
    refine rel_r (mI hm) ?_
    refine rel_ii (fun _ => go σ τ h) (fun _ => ?_)
    refine rel_l (sI_k (wt_k hs hk10)) ?_
    refine rel_r (mP25 hm) ?_
    refine rel_r (mS17 hm hk10) ?_
    exact go _ _ ⟨XI_o h1 (by decide) (by decide), MI_wake h2 e, nk, nt, r_wake hR hk10 e⟩
theorem r_busy_L {b c np nw nk nt nl nf : Nat} {σ τ : fr_S} (hs : Sx b σ) (hm : Sm c τ) (hR : RN b c np nw nk nt nl nf σ τ) : ∀ (n k : Nat) (y : Int32), k ≤ nw → nw - k < n → rel (m_FR_countBusy_L4 n b y (nI k) σ) (m_Md_tick_L105 n c y (nI k) τ) (fun r q => r = q.1 ∧ q.2 = τ) := by
  have hnw := hR.1.2.1
  intro n
  induction n with
  | zero => intro k y _ h; omega
  | succ n ih =>
    intro k y hk hn
    unfold m_FR_countBusy_L4 m_Md_tick_L105
    refine rel_l ((xI hs).trans (congrArg some hnw.2.1)) ?_
    refine rel_r ((mI hm).trans (congrArg some hnw.2.2)) ?_
    refine rel_ii (fun _ => rel_some ⟨rfl, rfl⟩) (fun z => ?_)
    rw [nI_leI (by omega) (by omega)] at z
    have hk10 : k < 10 := by omega
    have w3 := (hR.2.2.2.2.2.1 k hk10).2.2.1
    refine rel_l (xp69 hs) ?_
    refine rel_l (xW hs hk10) ?_
    refine rel_l (oK_k (wt_k hs hk10)) ?_
    refine rel_el (r_isBusy hs hk10) (fun r hr => ?_)
    rw [w3] at hr
    refine rel_r (mP25 hm) ?_
    refine rel_r (mV17 hm hk10) ?_
    rw [nI_1]
    rcases hr with ⟨rfl, hr⟩ | ⟨rfl, n1, n2⟩
    · refine rel_ln (by decide) ?_
      refine rel_ir (fun _ => ih (k + 1) _ (by omega) (by omega)) (fun z1 => ?_)
      refine rel_r (mP25 hm) ?_
      refine rel_r (mV17 hm hk10) ?_
      refine rel_ir (fun _ => ih (k + 1) _ (by omega) (by omega)) (fun z2 => ?_)
      rcases hr with hr | hr
      · exact absurd hr z1
      · exact absurd hr z2
    · refine rel_lp rfl (rel_rn n1 ?_)
      refine rel_r (mP25 hm) ?_
      refine rel_r (mV17 hm hk10) ?_
      refine rel_rn n2 ?_
      rw [Int32.add_zero]
      exact ih (k + 1) _ (by omega) (by omega)
/-- the clock, on both sides -/
theorem RN_clock {b c np nw nk nt nl nf : Nat} {σ τ : fr_S} {v : Int32} (h : RN b c np nw nk nt nl nf σ τ) : RN b c np nw nk nt nl nf (pI σ 77 b v) (pI τ 2 c v) := by
  obtain ⟨h_c, h_g, h_h, h_p, h_b, h_w, h_k, h_t, h_l, h_f⟩ := h
  refine ⟨?_, ?_, h_h, ?_, ?_, ?_, ?_, h_t, h_l, h_f⟩
  · simpa [R_c, gI_pIx] using h_c
  · obtain ⟨g1, g2, g3⟩ := h_g
    refine ⟨?_, ?_, ?_⟩
    · rw [gI_pIf (by decide), gI_pIf (by decide)]; exact g1
    · rw [gI_pIs, gI_pIs]
    · rw [gI_pIf (by decide), gI_pIf (by decide)]; exact g3
  · intro i hi
    rw [gI_pIf (by decide), gI_pIf (by decide), gI_pIf (by decide), gI_pIf (by decide), gI_pIf (by decide), gI_pIf (by decide), gI_pIf (by decide), gI_pIf (by decide), gI_pIf (by decide)]
    exact h_p i hi
  · intro i hi
    exact ⟨by rw [gI_pIf (by decide)]; exact (h_b i hi).1, (h_b i hi).2⟩
  · intro i hi
    obtain ⟨g1, g2, g3, g4, g5, g6, g7, g8⟩ := h_w i hi
    refine ⟨?_, ?_, ?_, ?_, g5, fun z => ?_, fun z => ?_, fun z => ⟨?_, (g8 z).2⟩⟩
    · rw [gI_pIf (by decide)]; exact g1
    · rw [gI_pIf (by decide)]; exact g2
    · rw [gI_pIf (by decide)]; exact g3
    · rw [gI_pIf (by decide)]; exact g4
    · rw [gI_pIf (by decide), gI_pIf (by decide)]; exact g6 z
    · rw [gI_pIf (by decide)]; exact g7 z
    · rw [gI_pIf (by decide)]; exact (g8 z).1
  · intro i hi
    exact ⟨(h_k i hi).1, by rw [gI_pIf (by decide)]; exact (h_k i hi).2.1, (h_k i hi).2.2⟩
theorem r_tick_L {b c np nw nl nf q : Nat} (hq : q ≤ 50) : ∀ (n k : Nat) (σ τ : fr_S), RT b c np nw nl nf σ τ → k ≤ q → q - k < n → rel (m_FR_tick_L14 n b (nI q) (nI k) σ) (m_Md_tick_L19 n c (nI q) (nI k) τ) (RS b c) := by
  intro n
  induction n with
  | zero => intro k σ τ _ _ h; omega
  | succ n ih =>
    intro k σ τ h hk hn
    obtain ⟨h1, h2, nk, nt, hR⟩ := id h
    have hs := h1.1
    have hm := h2.1
    have hnw := hR.1.2.1
    unfold m_FR_tick_L14 m_Md_tick_L19
    refine rel_ii (fun _ => ?_) (fun z => ?_)
    · refine rel_l (xK hs) ?_
      have key := r_busy_L hs hm hR 1000 0 0 (by omega) (by omega)
      rw [nI_0] at key
      obtain ⟨r, q', e, e', q1, q2⟩ := key
      refine rel_l (show m_FR_countBusy b σ = some r from e) ?_
      rw [e']
      exact rel_some ⟨q1, np, nw, nk, nt, nl, nf, by rw [q2]; exact hR⟩
    · rw [nI_leI (by omega) (by omega)] at z
      refine rel_l (xK hs) ?_
      unfold m_FR_moveClock
      have key := r_move_L (b := b) (c := c) (nI q) (nI k) 1000 0 (pI σ 77 b (gI τ 2 c + 1)) (pI τ 2 c (gI τ 2 c + 1)) ⟨XI_o h1 (by decide) (by decide), MI_pI h2 (by decide), nk, nt, RN_clock hR⟩ (by omega) (by omega)
      rw [nI_0] at key
      obtain ⟨σ2, τ2, e, e', hq2⟩ := key
      refine rel_l (a := σ2) (obs ((xI hs).trans (congrArg some hR.2.1.2.1)) (obs (sI_k hs.1.1) e)) ?_
      refine rel_r (mI hm) ?_
      refine rel_r (mSI hm) ?_
      refine rel_r e' ?_
      rw [nI_1]
      exact ih (k + 1) σ2 τ2 hq2 (by omega) (by omega)
theorem r_tick {b c : Nat} {σ τ : fr_S} (h : RR b c σ τ) (x : Int32) : rel (m_FR_tick b x σ) (m_Md_tick c x τ) (fun q q' => q.1 = q'.1 ∧ RR b c q.2 q'.2) := by
  obtain ⟨h1, h2, np, nw, nk, nt, nl, nf, hR⟩ := id h
  refine RS_end ?_ (x_tick h1 x) (md_tick h2 x)
  have hM : MI c (pI τ 1 c 0) := M_code h2
  have hR : RN b c np nw nk nt nl nf σ (pI τ 1 c 0) := hR
  have fin : RE b c σ (pI τ 1 c 0) := ⟨np, nw, nk, nt, nl, nf, hR⟩
  unfold m_FR_tick m_Md_tick
  refine rel_r (mSI h2.1) ?_
  refine rel_ii (fun _ => rel_some ⟨rfl, fin⟩) (fun h0 => ?_)
  refine rel_ii (fun h50 => ?_) (fun _ => rel_some ⟨rfl, fin⟩)
  obtain ⟨q, -, hq, rfl⟩ := nI_rng (x := x) (lo := 0) (hi := 50) (by rw [nI_0]; exact h0) (by rw [← nI_lit50]; exact h50) (by decide) (by decide)
  have key := r_tick_L (b := b) (c := c) hq 1000 0 σ (pI τ 1 c 0) ⟨h1, hM, nk, nt, hR⟩ (by omega) (by omega)
  rw [nI_0] at key
  exact key
/-! looks at a want: the reference changes nothing but its code -/
theorem mc_about {c : Nat} {τ : fr_S} (h : MI c τ) (x1 x2 : Int32) : ev (m_Md_about c x1 x2 τ) (fun q => q.2 = pI τ 1 c 0) := by
  unfold m_Md_about
  refine ev_bs (mSI h.1) ?_
  have h := M_code (v := 0) h
  generalize pI τ 1 c 0 = τ at h ⊢
  obtain ⟨hs, np, nw, nk, nt, nl, nf, re, a1, a2, a3, a4, a5, a6, a7, a8, a9, a10, a11, a12, a13, a14, a15, a16, a17, a18⟩ := id h
  refine ev_bs (mK hs) ?_
  refine ev_b (md_isWant hs a2 x1) (fun r hr => ?_)
  refine ev_if (fun _ => ev_some rfl) (fun hr0 => ?_)
  rcases hr with hr | ⟨-, w, hw, rfl⟩
  · exact absurd hr.1 hr0
  have hnw := a2.1
  have s0 : ∀ R : Option (Int32 × fr_S), ev R (fun q => q.2 = τ) → ev R (fun q => q.2 = τ) := fun _ h => h
  have f25 : ev ((oP τ 0 25 c).bind fun q9 => (oV τ 0 q9 (nI w)).bind fun v10 => some (v10, τ)) (fun q => q.2 = τ) := ev_bs (mP25 hs) (ev_bs (mV17 hs (by omega)) (ev_some rfl))
  have f27 : ev ((oP τ 0 27 c).bind fun q9 => (oV τ 0 q9 (nI w)).bind fun v10 => some (v10, τ)) (fun q => q.2 = τ) := ev_bs (mP27 hs) (ev_bs (mV19 hs (by omega)) (ev_some rfl))
  have f29 : ev ((oP τ 0 25 c).bind fun q21 => (oV τ 0 q21 (nI w)).bind fun v22 => if v22 = 2 then (oP τ 0 29 c).bind fun q24 => (oV τ 0 q24 (nI w)).bind fun v25 => some (v25, τ) else some (-1, τ)) (fun q => q.2 = τ) := ev_bs (mP25 hs) (ev_bs (mV17 hs (by omega)) (ev_if (fun _ => ev_bs (mP29 hs) (ev_bs (mV21 hs (by omega)) (ev_some rfl))) (fun _ => ev_some rfl)))
  have f30 : ev ((oP τ 0 30 c).bind fun q9 => (oV τ 0 q9 (nI w)).bind fun v10 => some (v10, τ)) (fun q => q.2 = τ) := ev_bs (mP30 hs) (ev_bs (mV22 hs (by omega)) (ev_some rfl))
  have f24 : (gV τ (c + 17) w = 1 ∨ gV τ (c + 17) w = 2) → ev ((oP τ 0 24 c).bind fun q13 => (oP τ 0 26 c).bind fun q14 => (oV τ 0 q14 (nI w)).bind fun v15 => (oV τ 0 q13 ((6 * nI w) + v15)).bind fun v16 => some (v16, τ)) (fun q => q.2 = τ) := by
    intro hb
    obtain ⟨⟨s, s1, s2, s3⟩, -⟩ := a12 w (by omega)
    have hs12 : s = 1 ∨ s = 2 := by
      rcases hb with hb | hb
      · exact Or.inl (nI_inj (by omega) (by omega) (s2.symm.trans (hb.trans nI_v1.symm)))
      · exact Or.inr (nI_inj (by omega) (by omega) (s2.symm.trans (hb.trans nI_v2.symm)))
    obtain ⟨-, m, a, m6, m1, m2, m3⟩ := s3 hs12
    refine ev_bs (mP24 hs) ?_
    refine ev_bs (mP26 hs) ?_
    refine ev_bs ((mV18 hs (by omega)).trans (congrArg some m2)) ?_
    rw [nI_6]
    refine ev_bs (mV16 hs (by omega)) ?_
    exact ev_some rfl
  refine ev_bs (mP25 hs) ?_
  refine ev_bs (mV17 hs (by omega)) ?_
  refine ev_if (fun hb => ?_) (fun _ => ?_)
  · exact ev_if (fun _ => f25) (fun _ => ev_if (fun _ => f24 (Or.inl hb)) (fun _ => ev_if (fun _ => f27) (fun _ => ev_if (fun _ => f29) (fun _ => ev_if (fun _ => f30) (fun _ => ev_some rfl)))))
  · refine ev_bs (mP25 hs) ?_
    refine ev_bs (mV17 hs (by omega)) ?_
    refine ev_if (fun hb => ?_) (fun _ => ?_)
    · exact ev_if (fun _ => f25) (fun _ => ev_if (fun _ => f24 (Or.inr hb)) (fun _ => ev_if (fun _ => f27) (fun _ => ev_if (fun _ => f29) (fun _ => ev_if (fun _ => f30) (fun _ => ev_some rfl)))))
    · exact ev_if (fun _ => f25) (fun _ => ev_if (fun _ => ev_some rfl) (fun _ => ev_if (fun _ => f27) (fun _ => ev_if (fun _ => f29) (fun _ => ev_if (fun _ => f30) (fun _ => ev_some rfl)))))
theorem r_about {b c : Nat} {σ τ : fr_S} (h : RR b c σ τ) (x y : Int32) : rel (m_FR_about b x y σ) (m_Md_about c x y τ) (fun _ q => RR b c σ q.2) := by
  obtain ⟨h1, h2, np, nw, nk, nt, nl, nf, hR⟩ := id h
  obtain ⟨r, e, -⟩ := x_about h1 x y
  obtain ⟨q, e', eq⟩ := mc_about h2 x y
  exact ⟨r, q, e, e', h1, by rw [eq]; exact M_code h2, np, nw, nk, nt, nl, nf, by rw [eq]; exact hR⟩
theorem mc_byteOf {c : Nat} {τ : fr_S} (h : MI c τ) (x1 x2 : Int32) : ev (m_Md_byteOf c x1 x2 τ) (fun q => q.2 = pI τ 1 c 0) := by
  unfold m_Md_byteOf
  refine ev_bs (mSI h.1) ?_
  have h := M_code (v := 0) h
  generalize pI τ 1 c 0 = τ at h ⊢
  obtain ⟨hs, np, nw, nk, nt, nl, nf, re, a1, a2, a3, a4, a5, a6, a7, a8, a9, a10, a11, a12, a13, a14, a15, a16, a17, a18⟩ := id h
  refine ev_bs (mK hs) ?_
  refine ev_b (md_isWant hs a2 x1) (fun r hr => ?_)
  refine ev_if (fun _ => ev_some rfl) (fun hr0 => ?_)
  rcases hr with hr | ⟨-, j, hj, rfl⟩
  · exact absurd hr.1 hr0
  have hnw := a2.1
  refine ev_if (fun _ => ev_some rfl) (fun h2 => ?_)
  obtain ⟨-, ⟨n, g1, g2⟩, -⟩ := a12 j (by omega)
  refine ev_bs (mP27 hs) ?_
  refine ev_bs ((mV19 hs (by omega)).trans (congrArg some g2)) ?_
  refine ev_if (fun h3 => ?_) (fun _ => ev_some rfl)
  obtain ⟨i, hi, rfl⟩ := nI_get (x := x2) (n := n) (by omega) h2 (Int32.not_le.mpr h3)
  refine ev_bs (mP28 hs) ?_
  rw [nI_100]
  refine ev_bs (mV20 hs (by omega)) ?_
  exact ev_some rfl
theorem r_byteOf {b c : Nat} {σ τ : fr_S} (h : RR b c σ τ) (x y : Int32) : rel (m_FR_byteOf b x y σ) (m_Md_byteOf c x y τ) (fun _ q => RR b c σ q.2) := by
  obtain ⟨h1, h2, np, nw, nk, nt, nl, nf, hR⟩ := id h
  obtain ⟨r, e, -⟩ := x_byteOf h1 x y
  obtain ⟨q, e', eq⟩ := mc_byteOf h2 x y
  exact ⟨r, q, e, e', h1, by rw [eq]; exact M_code h2, np, nw, nk, nt, nl, nf, by rw [eq]; exact hR⟩
