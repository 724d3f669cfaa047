/-- a place more of a want, on both sides -/
theorem RN_add {b c np nw nk nt nl nf j m : Nat} {σ τ : fr_S} {x : Int32} (hj : j < 10) (hm6 : m < 6) (hl : gV τ (c + 15) j = nI m) (h : RN b c np nw nk nt nl nf σ τ) : RN b c np nw nk nt nl nf (pA (pI σ 450 (b + 86 + 4 * j) (nI (m + 1))) (b + 89 + 4 * j) (upd (gV σ (b + 89 + 4 * j)) m x)) (pA (pA τ (c + 16) (upd (gV τ (c + 16)) (6 * j + m) x)) (c + 15) (upd (gV τ (c + 15)) j (nI (m + 1)))) := by
  obtain ⟨h_c, h_g, h_h, h_p, h_b, h_w, h_k, h_t, h_l, h_f⟩ := h
  have hnk := h_c.2.2.1.1
  refine ⟨?_, ?_, ?_, ?_, ?_, ?_, ?_, ?_, ?_, ?_⟩
  · simpa [R_c, gI_pIx, gV_pI, gI_pA, gV_pAx] using h_c
  · simpa [R_g, gI_pIx, gV_pI, gI_pA, gV_pAx] using h_g
  · refine ⟨fun i hi => ?_, fun i hi => ?_⟩
    · rw [gV_pAn (by omega), gV_pI, gV_pAn (by omega), gV_pAn (by omega)]; exact h_h.1 i hi
    · rw [gV_pAn (by omega), gV_pI, gV_pAn (by omega), gV_pAn (by omega)]; exact h_h.2 i hi
  · simpa [R_p, gI_pIx, gV_pI, gI_pA, gV_pAx] using h_p
  · intro i hi
    obtain ⟨g1, g2⟩ := h_b i hi
    refine ⟨?_, fun m k e hm hk => ?_⟩
    · rw [gI_pA, gI_pIf (by decide), gV_pAn (by omega), gV_pAn (by omega)]; exact g1
    · rw [gV_pAn (by omega), gV_pAn (by omega)] at e
      rw [gV_pAn (by omega), gV_pI, gV_pAn (by omega), gV_pAn (by omega)]
      exact g2 m k e hm hk
  · intro i hi
    obtain ⟨g1, g2, g3, g4, g5, g6, g7, g8⟩ := h_w i hi
    refine ⟨by simpa [gI_pIx, gV_pI, gI_pA, gV_pAx] using g1, ?_, by simpa [gI_pIx, gV_pI, gI_pA, gV_pAx] using g3, by simpa [gI_pIx, gV_pI, gI_pA, gV_pAx] using g4, fun m' k e hm hk => ?_, by simpa [gI_pIx, gV_pI, gI_pA, gV_pAx] using g6, by simpa [gI_pIx, gV_pI, gI_pA, gV_pAx] using g7, fun z => ?_⟩
    · by_cases e : i = j
      · subst e
        rw [gI_pA, gI_pIs, gV_pAs, upd_s]
      · rw [gI_pA, gI_pIa (by omega), gV_pAs, upd_n e]; exact g2
    · by_cases ei : i = j
      · subst ei
        rw [gV_pAs, upd_s] at e
        have e2 : m + 1 = m' := nI_inj (by omega) (by omega) e
        rw [gV_pAs, gV_pAn (by omega), gV_pAs]
        by_cases ek : k = m
        · rw [ek, upd_s, upd_s]
        · rw [upd_n ek, upd_n (by omega)]
          exact g5 m k hl (by omega) (by omega)
      · rw [gV_pAs, upd_n ei] at e
        rw [gV_pAn (by omega), gV_pI, gV_pAn (by omega), gV_pAs, upd_n (by omega)]
        exact g5 m' k e hm hk
    · rw [gV_pAn (by omega), gV_pAn (by omega)] at z
      have g8 := g8 z
      refine ⟨?_, fun m k e hm hk => ?_⟩
      · rw [gI_pA, gI_pIf (by decide), gV_pAn (by omega), gV_pAn (by omega)]; exact g8.1
      · rw [gV_pAn (by omega), gV_pAn (by omega)] at e
        rw [gV_pAn (by omega), gV_pI, gV_pAn (by omega), gV_pAn (by omega)]
        exact g8.2 m k e hm hk
  · intro i hi
    obtain ⟨g1, g2⟩ := h_k i hi
    refine ⟨?_, ?_, fun m k e hm hk => ?_⟩
    · rw [gV_pAn (by omega), gV_pI, gV_pAn (by omega), gV_pAn (by omega)]; exact g1
    · rw [gI_pA, gI_pIf (by decide), gV_pAn (by omega), gV_pAn (by omega)]; exact g2.1
    · rw [gV_pAn (by omega), gV_pAn (by omega)] at e
      rw [gV_pAn (by omega), gV_pI, gV_pAn (by omega), gV_pAn (by omega)]
      exact g2.2 m k e hm hk
  · intro i hi
    obtain ⟨g1, g2, g3⟩ := h_t i hi
    refine ⟨?_, ?_, ?_⟩
    · rw [gV_pAn (by omega), gV_pI, gV_pAn (by omega), gV_pAn (by omega)]; exact g1
    · rw [gV_pAn (by omega), gV_pI, gV_pAn (by omega), gV_pAn (by omega)]; exact g2
    · rw [gV_pAn (by omega), gV_pI, gV_pAn (by omega), gV_pAn (by omega)]; exact g3
  · intro i hi
    rw [gV_pAn (by omega), gV_pI, gV_pAn (by omega), gV_pAn (by omega)]; exact h_l i hi
  · intro i hi
    obtain ⟨g1, g2, g3, g4⟩ := h_f i hi
    refine ⟨?_, ?_, ?_, ?_⟩
    · rw [gV_pAn (by omega), gV_pI, gV_pAn (by omega), gV_pAn (by omega)]; exact g1
    · rw [gV_pAn (by omega), gV_pI, gV_pAn (by omega), gV_pAn (by omega)]; exact g2
    · rw [gV_pAn (by omega), gV_pI, gV_pAn (by omega), gV_pAn (by omega)]; exact g3
    · rw [gV_pAn (by omega), gV_pI, gV_pAn (by omega), gV_pAn (by omega)]; exact g4
theorem r_add_L {b c np nw nk nt nl nf j m p : Nat} {σ τ : fr_S} (hs : Sx b σ) (hm : Sm c τ) (hR : RN b c np nw nk nt nl nf σ τ) (hj : j < 10) (hm6 : m < 6) (hl : gV τ (c + 15) j = nI m) : ∀ (n k : Nat), k ≤ m → m - k < n → rel (m_Want_addPlace_L13 n (b + 86 + 4 * j) (nI p) (nI k) σ) (m_Md_from_L45 n c (nI j) (nI p) (nI k) τ) (fun q q' => (q.1 = 0 ∨ q.1 = 1) ∧ RS b c q q') := by
  have hk := wt_k hs hj
  have hv := (hs.2.2.1 j hj).2.2.2.2.2
  have hw := hR.2.2.2.2.2.1 j hj
  have hl1 : gI σ 450 (b + 86 + 4 * j) = nI m := hw.2.1.trans hl
  intro n
  induction n with
  | zero => intro k _ h; omega
  | succ n ih =>
    intro k hkm hn
    unfold m_Want_addPlace_L13 m_Md_from_L45
    refine rel_l ((oI_k hk).trans (congrArg some hl1)) ?_
    refine rel_r (mP23 hm) ?_
    refine rel_r ((mV15 hm hj).trans (congrArg some hl)) ?_
    refine rel_ii (fun _ => ?_) (fun z => ?_)
    · refine rel_l (wt_p hs hj) ?_
      refine rel_l ((oI_k hk).trans (congrArg some hl1)) ?_
      refine rel_l (sI_k hk) ?_
      rw [nI_1]
      refine rel_l (sV_nI (n := 6) (show gK (pI σ 450 (b + 86 + 4 * j) (nI (m + 1))) (b + 89 + 4 * j) = some (.inr (0, 6)) from hv) hm6 (by decide)) ?_
      refine rel_r (mP24 hm) ?_
      refine rel_r (mP23 hm) ?_
      refine rel_r ((mV15 hm hj).trans (congrArg some hl)) ?_
      rw [nI_6]
      refine rel_r (mS16 hm (by omega)) ?_
      have hm2 : Sm c (pA τ (c + 16) (upd (gV τ (c + 16)) (6 * j + m) (nI p))) := hm
      refine rel_r (mP23 hm2) ?_
      refine rel_r (Eq.trans (mV15 hm2 hj) (congrArg some (show _ = nI m by rw [gV_pAn (by omega)]; exact hl))) ?_
      refine rel_r (mS15 hm2 hj) ?_
      rw [nI_1, gV_pAn (show c + 15 ≠ c + 16 by omega)]
      exact rel_some ⟨Or.inr rfl, rfl, np, nw, nk, nt, nl, nf, RN_add hj hm6 hl hR⟩
    · rw [nI_leI (by omega) (by omega)] at z
      refine rel_l (wt_p hs hj) ?_
      refine rel_l (oV_nI hv (by omega) (by decide)) ?_
      refine rel_r (mP24 hm) ?_
      rw [nI_6]
      refine rel_r (mV16 hm (by omega)) ?_
      rw [hw.2.2.2.2.1 m k hl (by omega) (by omega), nI_1]
      exact rel_ii (fun _ => rel_some ⟨Or.inl rfl, rfl, np, nw, nk, nt, nl, nf, hR⟩) (fun _ => ih (k + 1) (by omega) (by omega))
theorem r_from {b c : Nat} {σ τ : fr_S} (h : RR b c σ τ) (x y : Int32) : rel (m_FR_from b x y σ) (m_Md_from c x y τ) (fun q q' => q.1 = q'.1 ∧ RR b c q.2 q'.2) := by
  obtain ⟨h1, h2, np, nw, nk, nt, nl, nf, hR⟩ := id h
  refine RS_end ?_ (x_from h1 x y) (md_from h2 x y)
  have hs := h1.1
  have hm : Sm c (pI τ 1 c 0) := h2.1
  have hR : RN b c np nw nk nt nl nf σ (pI τ 1 c 0) := hR
  have hn := hR.1.1
  have hnw := hR.1.2.1
  have fin : RE b c σ (pI τ 1 c 0) := ⟨np, nw, nk, nt, nl, nf, hR⟩
  unfold m_FR_from m_Md_from
  refine rel_r (mSI h2.1) ?_
  generalize pI τ 1 c 0 = τ1 at hm hR hn hnw fin ⊢
  refine rel_l (xK hs) ?_
  refine rel_r (mK hm) ?_
  refine rel_b (r_isWant hs hm hR x) (fun r r' hr => ?_)
  rcases hr with ⟨rfl, rfl⟩ | ⟨rfl, rfl, j, hj, rfl⟩
  · exact rel_lp rfl (rel_rp rfl (rel_some ⟨rfl, fin⟩))
  refine rel_ln (by decide) (rel_rn (by decide) ?_)
  refine rel_l (xK hs) ?_
  refine rel_r (mK hm) ?_
  refine rel_b (r_isPlace hs hm hR y) (fun r r' hr => ?_)
  rcases hr with ⟨rfl, rfl⟩ | ⟨rfl, rfl, p, hp, rfl⟩
  · exact rel_lp rfl (rel_rp rfl (rel_some ⟨rfl, fin⟩))
  refine rel_ln (by decide) (rel_rn (by decide) ?_)
  have hj10 : j < 10 := by omega
  have hk := wt_k hs hj10
  have hw := hR.2.2.2.2.2.1 j hj10
  refine rel_l (xp69 hs) ?_
  refine rel_l (xW hs hj10) ?_
  refine rel_l ((oI_k hk).trans (congrArg some hw.2.2.1)) ?_
  refine rel_r (mP25 hm) ?_
  refine rel_r (mV17 hm hj10) ?_
  refine rel_ii (fun _ => ?_) (fun _ => rel_some ⟨rfl, fin⟩)
  refine rel_l (xp69 hs) ?_
  refine rel_l (xW hs hj10) ?_
  refine rel_l (oK_k hk) ?_
  obtain ⟨⟨m, m6, hm0, -⟩, -⟩ := xw8 h1 hj10
  have hl : gV τ1 (c + 15) j = nI m := hw.2.1.symm.trans hm0
  refine rel_r (mP23 hm) ?_
  refine rel_r ((mV15 hm hj10).trans (congrArg some hl)) ?_
  have ap : m_Want_addPlace (b + 86 + 4 * j) (nI p) σ = if nI m < 6 then m_Want_addPlace_L13 1000 (b + 86 + 4 * j) (nI p) 0 σ else some (0, σ) := by
    unfold m_Want_addPlace
    rw [(oI_k hk).trans (congrArg some hm0)]
    rfl
  rw [ap]
  by_cases e6 : m = 6
  · subst e6
    refine rel_rp nI_lit6.symm ?_
    rw [if_neg (show ¬ nI 6 < 6 by decide +kernel)]
    exact rel_l (a := (0, σ)) rfl (rel_l (show oZ 0 = some () from if_pos (Or.inl rfl)) (rel_some ⟨rfl, fin⟩))
  · have hlt : m < 6 := by omega
    refine rel_rn (fun z => ?_) ?_
    · rw [nI_lit6] at z
      exact e6 (nI_inj (by omega) (by omega) z)
    have key := r_add_L (p := p) hs hm hR hj10 hlt hl 1000 0 (by omega) (by omega)
    rw [nI_0] at key
    obtain ⟨a, a', e1, e2, hz, hq⟩ := key
    rw [e2, if_pos (show nI m < 6 by rw [nI_lit6, nI_ltI (by omega) (by omega)]; exact hlt), e1]
    exact rel_l (a := a) rfl (rel_l (show oZ a.1 = some () from if_pos hz) (rel_some hq))
