theorem DX_rf {b j : Nat} {σ : fr_S} : DX b j σ σ := ⟨fun _ _ _ _ => rfl, fun _ _ => rfl⟩
theorem DX_w {b j f : Nat} {σ σ' : fr_S} {v : Int32} (h : DX b j σ σ') : DX b j σ (pI σ' f (b + 86 + 4 * j) v) := ⟨fun g a h1 h2 => by rw [gI_pIa h1]; exact h.1 g a h1 h2, h.2⟩
theorem DX_r {b j f : Nat} {σ σ' : fr_S} {v : Int32} (h : DX b j σ σ') : DX b j σ (pI σ' f (b + 87 + 4 * j) v) := ⟨fun g a h1 h2 => by rw [gI_pIa h2]; exact h.1 g a h1 h2, h.2⟩
theorem DX_v {b j : Nat} {σ σ' : fr_S} {u : Nat → Int32} (h : DX b j σ σ') : DX b j σ (pA σ' (b + 88 + 4 * j) u) := ⟨h.1, fun a ha => by rw [gV_pAn ha]; exact h.2 a ha⟩
theorem DM_rf {c j : Nat} {τ : fr_S} : DM c j τ τ := ⟨fun _ _ => rfl, fun _ _ _ => rfl, fun _ _ _ _ => rfl, fun _ _ => rfl⟩
theorem DM_a {c j x : Nat} {τ τ' : fr_S} {v : Int32} (hx : x ∈ wA) (h : DM c j τ τ') : DM c j τ (pA τ' (c + x) (upd (gV τ' (c + x)) j v)) := by
  have hx20 : x ≠ 20 := fun e => by rw [e] at hx; exact absurd hx (by decide)
  refine ⟨h.1, fun a ha h20 => ?_, fun a ha i hi => ?_, fun k hk => ?_⟩
  · have hne : a ≠ x := fun e => ha (e ▸ hx)
    rw [gV_pAn (by omega)]
    exact h.2.1 a ha h20
  · by_cases e : a = x
    · subst e
      rw [gV_pAs, upd_n hi]
      exact h.2.2.1 a ha i hi
    · rw [gV_pAn (by omega)]
      exact h.2.2.1 a ha i hi
  · rw [gV_pAn (by omega)]
    exact h.2.2.2 k hk
theorem DM_b {c j k : Nat} {τ τ' : fr_S} {v : Int32} (hk : 100 * j ≤ k ∧ k < 100 * j + 100) (h : DM c j τ τ') : DM c j τ (pA τ' (c + 20) (upd (gV τ' (c + 20)) k v)) := by
  refine ⟨h.1, fun a ha h20 => ?_, fun a ha i hi => ?_, fun q hq => ?_⟩
  · rw [gV_pAn (by omega)]
    exact h.2.1 a ha h20
  · have : a ≠ 20 := fun e => by rw [e] at ha; exact absurd ha (by decide)
    rw [gV_pAn (by omega)]
    exact h.2.2.1 a ha i hi
  · rw [gV_pAs, upd_n (by omega)]
    exact h.2.2.2 q hq
/-- a want that goes on from a number: what class and reference do -/
theorem r_goOn {b c np nw nk nt nl nf j f : Nat} {σ τ : fr_S} (h1 : XI b σ) (hm : Sm c τ) (hR : RN b c np nw nk nt nl nf σ τ) (hj : j < 10) (hf : f ≤ 6) : rel (m_FR_fetchFrom b (b + 86 + 4 * j) (nI f) σ) (m_Md_goOn c (nI j) (nI f) τ) (fun σ' τ' => RN b c np nw nk nt nl nf σ' τ' ∧ Sx b σ' ∧ Sm c τ') := by
  have hs := h1.1
  have hk := wt_k hs hj
  obtain ⟨⟨m, m6, hm0, hpl⟩, -⟩ := xw8 h1 hj
  obtain ⟨w1, w2, w3, w4, w5, -, -, -⟩ := hR.2.2.2.2.2.1 j hj
  have hl0 : gV τ (c + 15) j = nI m := w2.symm.trans hm0
  have hb : ∀ p, p < 16 → gI σ 201 (b + 38 + 3 * p) = gV τ (c + 13) p := fun p hp => (hR.2.2.2.1 p hp).2.2.2.2.2.2.1
  unfold m_FR_fetchFrom m_Md_goOn
  refine rel_r (mP27 hm) ?_
  refine rel_r (Eq.trans (by rw [← nI_0]; exact mS19 hm hj) rfl) ?_
  rw [nI_0]
  have hm1 : Sm c (pA τ (c + 19) (upd (gV τ (c + 19)) j 0)) := hm
  refine rel_r (mP31 hm1) ?_
  refine rel_r (mS23 hm1 hj) ?_
  have dm : DM c j τ (pA (pA τ (c + 19) (upd (gV τ (c + 19)) j 0)) (c + 23) (upd (gV (pA τ (c + 19) (upd (gV τ (c + 19)) j 0)) (c + 23)) j 0)) := DM_a (by decide) (DM_a (by decide) DM_rf)
  have hm2 : Sm c (pA (pA τ (c + 19) (upd (gV τ (c + 19)) j 0)) (c + 23) (upd (gV (pA τ (c + 19) (upd (gV τ (c + 19)) j 0)) (c + 23)) j 0)) := hm
  have z19 : gV (pA (pA τ (c + 19) (upd (gV τ (c + 19)) j 0)) (c + 23) (upd (gV (pA τ (c + 19) (upd (gV τ (c + 19)) j 0)) (c + 23)) j 0)) (c + 19) j = 0 := by rw [gV_pAn (by omega), gV_pAs, upd_s]
  have z23 : gV (pA (pA τ (c + 19) (upd (gV τ (c + 19)) j 0)) (c + 23) (upd (gV (pA τ (c + 19) (upd (gV τ (c + 19)) j 0)) (c + 23)) j 0)) (c + 23) j = 0 := by rw [gV_pAs, upd_s]
  have z22 : gV (pA (pA τ (c + 19) (upd (gV τ (c + 19)) j 0)) (c + 23) (upd (gV (pA τ (c + 19) (upd (gV τ (c + 19)) j 0)) (c + 23)) j 0)) (c + 22) j = gV τ (c + 22) j := by rw [gV_pAn (by omega), gV_pAn (by omega)]
  generalize pA (pA τ (c + 19) (upd (gV τ (c + 19)) j 0)) (c + 23) (upd (gV (pA τ (c + 19) (upd (gV τ (c + 19)) j 0)) (c + 23)) j 0) = τ1 at dm hm2 z19 z23 z22 ⊢
  have e13 := dm.2.1 13 (by decide) (by decide)
  have e14 := dm.2.1 14 (by decide) (by decide)
  have e15 := dm.2.1 15 (by decide) (by decide)
  have e16 := dm.2.1 16 (by decide) (by decide)
  have hl : gV τ1 (c + 15) j = nI m := by rw [e15]; exact hl0
  have key : ∀ (n f : Nat), f ≤ 6 → 6 - f < n → rel (m_FR_fetchFrom_L2 n b (b + 86 + 4 * j) (nI f) σ) (m_Md_goOn_L16 n c (nI j) (nI f) τ1) (fun σ' τ' => RN b c np nw nk nt nl nf σ' τ' ∧ Sx b σ' ∧ Sm c τ') := by
    intro n
    induction n with
    | zero => intro f _ h; omega
    | succ n ih =>
      intro f hf hn
      unfold m_FR_fetchFrom_L2 m_Md_goOn_L16
      refine rel_l ((oI_k hk).trans (congrArg some hm0)) ?_
      refine rel_r (mP23 hm2) ?_
      refine rel_r ((mV15 hm2 hj).trans (congrArg some hl)) ?_
      have hm3 : Sm c (pA τ1 (c + 18) (upd (gV τ1 (c + 18)) j (nI f))) := hm2
      have hl3 : gV (pA τ1 (c + 18) (upd (gV τ1 (c + 18)) j (nI f))) (c + 15) j = nI m := by rw [gV_pAn (by omega)]; exact hl
      have hm3' : DM c j τ (pA τ1 (c + 18) (upd (gV τ1 (c + 18)) j (nI f))) := DM_a (by decide) dm
      refine rel_ii (fun z => ?_) (fun z => ?_)
      · refine rel_l (sI_k hk) ?_
        refine rel_r (mP26 hm2) ?_
        refine rel_r (mS18 hm2 hj) ?_
        refine rel_r (mP25 hm3) ?_
        refine rel_r (mP23 hm3) ?_
        refine rel_r (Eq.trans (mV15 hm3 hj) (congrArg some hl3)) ?_
        refine rel_rp z ?_
        refine rel_r (mS17 hm3 hj) ?_
        refine rel_some ⟨RN_want hj hR (DX_w DX_rf) (DM_a (by decide) hm3') ?_, hs, hm2⟩
        have st : gV (pA (pA τ1 (c + 18) (upd (gV τ1 (c + 18)) j (nI f))) (c + 17) (upd (gV (pA τ1 (c + 18) (upd (gV τ1 (c + 18)) j (nI f))) (c + 17)) j 4)) (c + 17) j = 4 := by rw [gV_pAs, upd_s]
        refine ⟨?_, ?_, ?_, ?_, fun m' k em h6 hk' => ?_, fun y => ?_, fun y => ?_, fun y => absurd st y⟩
        · rw [gI_pIf (by decide), gV_pAn (by omega), gV_pAn (by omega), e14]; exact w1
        · rw [gI_pIf (by decide), gV_pAn (by omega), gV_pAn (by omega), e15]; exact w2
        · rw [gI_pIs, st]
        · rw [gI_pIf (by decide), gV_pAn (by omega), gV_pAn (by omega), z22]; exact w4
        · rw [gV_pAn (by omega), gV_pAn (by omega), e15] at em
          rw [gV_pI, gV_pAn (by omega), gV_pAn (by omega), e16]
          exact w5 m' k em h6 hk'
        · rw [st] at y
          exact absurd y (by decide)
        · rw [st] at y
          exact absurd y (by decide)
      · have z' := z
        rw [nI_leI (by omega) (by omega)] at z
        obtain ⟨p, hp, hpe⟩ := hpl f (by omega)
        have hpe2 : gV τ1 (c + 16) (6 * j + f) = nI p := by rw [e16, ← w5 m f hl0 m6 (by omega)]; exact hpe
        refine rel_l (xp67 hs) ?_
        refine rel_l (wt_p hs hj) ?_
        refine rel_l ((oV_nI (hs.2.2.1 j hj).2.2.2.2.2 (by omega) (by decide)).trans (congrArg some hpe)) ?_
        refine rel_l (xP hs hp) ?_
        refine rel_l ((oI_k (pl_k hs hp)).trans (congrArg some (hb p hp))) ?_
        refine rel_r (mP21 hm2) ?_
        refine rel_r (mP24 hm2) ?_
        rw [nI_6]
        refine rel_r ((mV16 hm2 (by omega)).trans (congrArg some hpe2)) ?_
        refine rel_r ((mV13 hm2 hp).trans (congrArg some (congrFun e13 p))) ?_
        refine rel_ii (fun _ => ?_) (fun _ => ?_)
        · refine rel_l (oK_k hk) ?_
          refine rel_r (mP26 hm2) ?_
          refine rel_r (mS18 hm2 hj) ?_
          refine rel_r (mP25 hm3) ?_
          refine rel_r (mP23 hm3) ?_
          refine rel_r (Eq.trans (mV15 hm3 hj) (congrArg some hl3)) ?_
          refine rel_rn z' ?_
          refine rel_r (mS17 hm3 hj) ?_
          have st0 : m_Want_startAt (b + 86 + 4 * j) (nI f) σ = some (pI (pI (pI (pI σ 453 (b + 86 + 4 * j) (nI f)) 454 (b + 86 + 4 * j) 0) 257 (b + 87 + 4 * j) 0) 452 (b + 86 + 4 * j) 1) := by
            have r4 := row_k h1 (pr_w hj)
            unfold m_Want_startAt
            rw [sI_k hk]
            show ((sI (pI σ 453 (b + 86 + 4 * j) (nI f)) 7 454 (b + 86 + 4 * j) 0).bind _) = _
            rw [sI_k (show gK (pI σ 453 (b + 86 + 4 * j) (nI f)) (b + 86 + 4 * j) = _ from hk)]
            show ((oP (pI (pI σ 453 (b + 86 + 4 * j) (nI f)) 454 (b + 86 + 4 * j) 0) 7 448 (b + 86 + 4 * j)).bind _) = _
            rw [show oP (pI (pI σ 453 (b + 86 + 4 * j) (nI f)) 454 (b + 86 + 4 * j) 0) 7 448 (b + 86 + 4 * j) = some (b + 87 + 4 * j) from wt_r hs hj]
            show ((sI (pI (pI σ 453 (b + 86 + 4 * j) (nI f)) 454 (b + 86 + 4 * j) 0) 4 257 (b + 87 + 4 * j) 0).bind _) = _
            rw [sI_k (show gK (pI (pI σ 453 (b + 86 + 4 * j) (nI f)) 454 (b + 86 + 4 * j) 0) (b + 87 + 4 * j) = _ from r4)]
            show ((sI (pI (pI (pI σ 453 (b + 86 + 4 * j) (nI f)) 454 (b + 86 + 4 * j) 0) 257 (b + 87 + 4 * j) 0) 7 452 (b + 86 + 4 * j) 1).bind _) = _
            rw [sI_k (show gK (pI (pI (pI σ 453 (b + 86 + 4 * j) (nI f)) 454 (b + 86 + 4 * j) 0) 257 (b + 87 + 4 * j) 0) (b + 86 + 4 * j) = _ from hk)]
            rfl
          refine rel_l st0 ?_
          refine rel_some ⟨RN_want hj hR (DX_w (DX_r (DX_w (DX_w DX_rf)))) (DM_a (by decide) hm3') ?_, hs, hm2⟩
          have st : gV (pA (pA τ1 (c + 18) (upd (gV τ1 (c + 18)) j (nI f))) (c + 17) (upd (gV (pA τ1 (c + 18) (upd (gV τ1 (c + 18)) j (nI f))) (c + 17)) j 1)) (c + 17) j = 1 := by rw [gV_pAs, upd_s]
          refine ⟨?_, ?_, ?_, ?_, fun m' k em h6 hk' => ?_, fun y => ⟨?_, ?_⟩, fun y => ?_, fun y => ⟨?_, fun m' k em h6 hk' => ?_⟩⟩
          · rw [gI_pIf (by decide), gI_pIf (by decide), gI_pIf (by decide), gI_pIf (by decide), gV_pAn (by omega), gV_pAn (by omega), e14]; exact w1
          · rw [gI_pIf (by decide), gI_pIf (by decide), gI_pIf (by decide), gI_pIf (by decide), gV_pAn (by omega), gV_pAn (by omega), e15]; exact w2
          · rw [gI_pIs, st]
          · rw [gI_pIf (by decide), gI_pIf (by decide), gI_pIf (by decide), gI_pIf (by decide), gV_pAn (by omega), gV_pAn (by omega), z22]; exact w4
          · rw [gV_pAn (by omega), gV_pAn (by omega), e15] at em
            rw [gV_pI, gV_pI, gV_pI, gV_pI, gV_pAn (by omega), gV_pAn (by omega), e16]
            exact w5 m' k em h6 hk'
          · rw [gI_pIf (by decide), gI_pIf (by decide), gI_pIf (by decide), gI_pIs, gV_pAn (by omega), gV_pAs, upd_s]
          · rw [gI_pIf (by decide), gI_pIf (by decide), gI_pIs, gV_pAn (by omega), gV_pAn (by omega), z23]
          · rw [st] at y
            exact absurd y (by decide)
          · rw [gI_pIf (by decide), gI_pIs, gV_pAn (by omega), gV_pAn (by omega), z19]
          · rw [gV_pAn (by omega), gV_pAn (by omega), z19, ← nI_0] at em
            have := nI_inj (by omega) (by omega) em
            omega
        · rw [nI_1]
          exact ih (f + 1) (by omega) (by omega)
  exact key 1000 f hf (by omega)
