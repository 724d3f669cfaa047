/-! a whole row looked at -/
def jT (c j : Nat) (y2 : Int32) (σ : fr_S) : Option fr_S :=
  (oP σ 0 22 c).bind fun q4 => (oV σ 0 q4 (nI j)).bind fun v5 =>
  if y2 = v5 then (oK σ 0 c).bind fun _ => (m_Md_keep c (nI j) σ).bind fun σ_29 => some σ_29
  else
    (oP σ 0 24 c).bind fun q7 => (oP σ 0 26 c).bind fun q8 => (oV σ 0 q8 (nI j)).bind fun v9 => (oV σ 0 q7 ((6 * nI j) + v9)).bind fun v10 => (oP σ 0 21 c).bind fun q11 => (sV σ 1 q11 v10 (vp_nar .boolean 1)).bind fun σ_12 => (oP σ_12 0 35 c).bind fun q13 => (oI σ_12 0 9 c).bind fun v14 => (sV σ_12 0 q13 v14 (nI j)).bind fun σ_15 => (oP σ_15 0 36 c).bind fun q16 => (oI σ_15 0 9 c).bind fun v17 => (sV σ_15 0 q16 v17 v10).bind fun σ_18 => (oP σ_18 0 37 c).bind fun q19 => (oI σ_18 0 9 c).bind fun v20 => (sV σ_18 0 q19 v20 y2).bind fun σ_21 => (oI σ_21 0 9 c).bind fun v22 => (sI σ_21 0 9 c (v22 + 1)).bind fun σ_23 => (oP σ_23 0 26 c).bind fun q24 => (oV σ_23 0 q24 (nI j)).bind fun v25 => (oK σ_23 0 c).bind fun _ => (m_Md_goOn c (nI j) ((v25 + 1)) σ_23).bind fun σ_27 => some σ_27
theorem r_dig {b c j m : Nat} {σ τ : fr_S} (h1 : XI b σ) (hm : Sm c τ) (hj : j < 10) (hm1 : m ≤ 100) (h19 : gV τ (c + 19) j = nI m) (hl : gI σ 257 (b + 87 + 4 * j) = nI m) (hv : ∀ k, k < m → gV σ (b + 88 + 4 * j) k = gV τ (c + 20) (100 * j + k)) : ∀ (n k : Nat) (s0 : Int32), k ≤ m → m - k < n → ∃ s, m_Row_computeDigest_L4 n (b + 87 + 4 * j) s0 (nI k) σ = some s ∧ m_Md_judge_L4 n c (nI j) s0 (nI k) τ = jT c j s τ := by
  obtain ⟨⟨k1, k2, k3⟩, -, -⟩ := XI_row h1 (pr_w hj)
  intro n
  induction n with
  | zero => intro k s0 _ h; omega
  | succ n ih =>
    intro k s0 hk hn
    by_cases hx : m ≤ k
    · refine ⟨s0, ?_, ?_⟩
      · unfold m_Row_computeDigest_L4
        exact obs ((oI_k k1).trans (congrArg some hl)) (oif_p (by rw [nI_leI (by omega) (by omega)]; exact hx) rfl)
      · unfold m_Md_judge_L4 jT
        exact obs (mP27 hm) (obs ((mV19 hm hj).trans (congrArg some h19)) (oif_p (by rw [nI_leI (by omega) (by omega)]; exact hx) rfl))
    · obtain ⟨s, e1, e2⟩ := ih (k + 1) ((((s0 ^^^ gV τ (c + 20) (100 * j + k)) <<< (5 &&& 31)) ||| (fr_ushr (s0 ^^^ gV τ (c + 20) (100 * j + k)) 27)) * (-2048144777)) (by omega) (by omega)
      refine ⟨s, ?_, ?_⟩
      · unfold m_Row_computeDigest_L4
        refine obs ((oI_k k1).trans (congrArg some hl)) (oif_n (by rw [nI_leI (by omega) (by omega)]; exact hx) (obs (oP_g k1 k2) (obs ((oV_nI k3 (by omega) (by decide)).trans (congrArg some (hv k (by omega)))) ?_)))
        rw [nI_1]
        exact e1
      · unfold m_Md_judge_L4
        refine obs (mP27 hm) (obs ((mV19 hm hj).trans (congrArg some h19)) (oif_n (by rw [nI_leI (by omega) (by omega)]; exact hx) (obs (mP28 hm) ?_)))
        rw [nI_100]
        refine obs (mV20 hm (by omega)) (obs (show m_Md_next s0 (gV τ (c + 20) (100 * j + k)) τ = some _ from rfl) ?_)
        rw [nI_1]
        exact e2
theorem cur_eq {b j a m p : Nat} {σ : fr_S} (hs : Sx b σ) (hj : j < 10) (h453 : gI σ 453 (b + 86 + 4 * j) = nI a) (h450 : gI σ 450 (b + 86 + 4 * j) = nI m) (ham : a < m) (hm6 : m ≤ 6) (hp : gV σ (b + 89 + 4 * j) a = nI p) : m_Want_currentPlace (b + 86 + 4 * j) σ = some (nI p) := by
  have hk := wt_k hs hj
  have hv := (hs.2.2.1 j hj).2.2.2.2.2
  unfold m_Want_currentPlace
  refine obs ((oI_k hk).trans (congrArg some h453)) (oif_n (nI_pos (by omega)) ?_)
  refine obs ((oI_k hk).trans (congrArg some h453)) (obs ((oI_k hk).trans (congrArg some h450)) (oif_n (by rw [nI_leI (by omega) (by omega)]; omega) ?_))
  exact obs (wt_p hs hj) (obs ((oI_k hk).trans (congrArg some h453)) (obs ((oV_nI hv (by omega) (by decide)).trans (congrArg some hp)) rfl))
theorem isP_eq {b c np nw nk nt nl nf p : Nat} {σ τ : fr_S} (hs : Sx b σ) (hR : RN b c np nw nk nt nl nf σ τ) (hp : p < np) : m_FR_isPlace b (nI p) σ = some 1 := by
  have hn := hR.1.1
  unfold m_FR_isPlace
  refine oif_n (nI_pos (by omega)) (obs ((xI hs).trans (congrArg some hn.2.1)) (oif_n ?_ rfl))
  rw [nI_leI (by omega) (by omega)]
  omega
theorem r_check {b c np nw nk nt nl nf j : Nat} {σ τ : fr_S} (h1 : XI b σ) (h2 : MI c τ) (hR : RN b c np nw nk nt nl nf σ τ) (hj : j < nw) (hb : gV τ (c + 17) j = 1) : rel (m_FR_checkDigest b (nI j) σ) (m_Md_judge c (nI j) τ) (fun σ' τ' => ∃ nk' nt', RN b c np nw nk' nt' nl nf σ' τ') := by
  have hs := h1.1
  have hm := h2.1
  have hnw := hR.1.2.1
  have hnp := hR.1.1
  have hj10 : j < 10 := by omega
  have hk := wt_k hs hj10
  obtain ⟨-, np', nw', nk', nt', nl', nf', re, a1, a2, a3, a4, a5, a6, a7, a8, a9, a10, a11, a12, a13, a14, a15, a16, a17, a18⟩ := id h2
  have enp : np' = np := nI_inj (by omega) (by omega) (a1.2.symm.trans hnp.2.2)
  have enw : nw' = nw := nI_inj (by omega) (by omega) (a2.2.symm.trans hnw.2.2)
  subst enp enw
  have let1 := I_to_le a16 a2.1
  have ent : nt' = nt := nI_inj (by omega) (by have := hR.1.2.2.2.1.1; omega) (a4.symm.trans hR.1.2.2.2.1.2.2)
  subst ent
  obtain ⟨w1, w2, w3, w4, w5, w6, w7, w8⟩ := hR.2.2.2.2.2.1 j hj10
  have w6 := w6 (Or.inl hb)
  have w8 := w8 (by rw [hb]; decide)
  obtain ⟨-, ⟨z, hz1, hz2⟩, -⟩ := a12 j hj10
  obtain ⟨m, a, p, m6, m1, m2, m3, p1, p2⟩ := busy_get a12 a11 hj10 hb
  have key := r_dig h1 hm hj10 hz1 hz2 (w8.1.trans hz2) (fun k hk => w8.2 z k hz2 hz1 hk) 1000 0 0 (by omega) (by omega)
  rw [nI_0] at key
  obtain ⟨s, es, et⟩ := key
  unfold m_FR_checkDigest m_Md_judge
  rw [et]
  refine rel_l (xp69 hs) ?_
  refine rel_l (xW hs hj10) ?_
  refine rel_l (wt_r hs hj10) ?_
  refine rel_l (oK_k (row_k h1 (pr_w hj10))) ?_
  refine rel_l (show m_Row_computeDigest (b + 87 + 4 * j) σ = some s from es) ?_
  refine rel_l ((oI_k hk).trans (congrArg some w1)) ?_
  unfold jT
  refine rel_r (mP22 hm) ?_
  refine rel_r (mV14 hm hj10) ?_
  refine rel_ii (fun e => ?_) (fun e => ?_)
  · refine rel_l (sI_k hk) ?_
    refine rel_l (xp71 (σ := pI σ 452 (b + 86 + 4 * j) 3) hs) ?_
    refine rel_l (wt_r (σ := pI σ 452 (b + 86 + 4 * j) 3) hs hj10) ?_
    refine rel_l (oK_k (σ := pI σ 452 (b + 86 + 4 * j) 3) hs.1.2.2.2.2.2.1.2.1) ?_
    refine rel_r (mK hm) ?_
    refine rel_b (r_keep h1 h2 hR hj hb e) (fun σ' τ' q => ?_)
    obtain ⟨nk2, q⟩ := q
    exact rel_some ⟨nk2, _, q⟩
  · have e453 := w6.1.trans m2
    refine rel_l (oK_k hk) ?_
    refine rel_l (cur_eq hs hj10 e453 (w2.trans m1) m3 m6 ((w5 m a m1 m6 m3).trans p2)) ?_
    refine rel_l (xK hs) ?_
    refine rel_l (isP_eq hs hR p1) ?_
    refine rel_ln (by decide) ?_
    have hp16 : p < 16 := by omega
    refine rel_l (xp67 hs) ?_
    refine rel_l (xP hs hp16) ?_
    refine rel_l (sZ_k (pl_k hs hp16) (Or.inr rfl)) ?_
    refine rel_r (mP24 hm) ?_
    refine rel_r (mP26 hm) ?_
    refine rel_r ((mV18 hm hj10).trans (congrArg some m2)) ?_
    rw [nI_6]
    refine rel_r ((mV16 hm (by omega)).trans (congrArg some p2)) ?_
    refine rel_r (mP21 hm) ?_
    refine rel_r (mS13 hm hp16) ?_
    rw [nar1]
    have lt60 : nt' < 60 := by
      have := I_to_le (I_to_tell a16 hj a2.1 a1.1 hb m6 m1 m2 m3 p1 p2) a2.1
      omega
    have hRb := RN_p201 (j := p) (v := 1) hR
    have h1b : XI b (pI σ 201 (b + 38 + 3 * p) 1) := XI_o h1 (by decide) (by decide)
    have hmb : Sm c (pA τ (c + 13) (upd (gV τ (c + 13)) p 1)) := hm
    have e453b : gI (pI σ 201 (b + 38 + 3 * p) 1) 453 (b + 86 + 4 * j) = nI a := by rw [gI_pIf (by decide)]; exact e453
    have e18b : gV (pA τ (c + 13) (upd (gV τ (c + 13)) p 1)) (c + 18) j = nI a := by rw [gV_pAn (by omega)]; exact m2
    generalize pI σ 201 (b + 38 + 3 * p) 1 = σ1 at hRb h1b e453b ⊢
    generalize pA τ (c + 13) (upd (gV τ (c + 13)) p 1) = τ1 at hRb hmb e18b ⊢
    have hnt := hRb.1.2.2.2.1.2.2
    obtain ⟨σ2, ex, hx2, hfr, hF⟩ := r_tell h1b hRb lt60 (nI j) (nI p) s
    refine rel_l (xp72 h1b.1) ?_
    refine rel_l (oK_k h1b.1.1.2.2.2.2.2.2.1.2.1) ?_
    refine rel_l ex ?_
    refine rel_l (xK hx2.1) ?_
    refine rel_r (mP35 hmb) ?_
    refine rel_r ((mI hmb).trans (congrArg some hnt)) ?_
    refine rel_r (mS27 hmb (by omega)) ?_
    have hmc : Sm c (pA τ1 (c + 27) (upd (gV τ1 (c + 27)) nt' (nI j))) := hmb
    refine rel_r (mP36 hmc) ?_
    refine rel_r (Eq.trans (mI hmc) (congrArg some (show _ = nI nt' from hnt))) ?_
    refine rel_r (mS28 hmc (by omega)) ?_
    have ec : gV (pA τ1 (c + 27) (upd (gV τ1 (c + 27)) nt' (nI j))) (c + 28) = gV τ1 (c + 28) := gV_pAn (by omega)
    rw [ec]
    have hmd : Sm c (pA (pA τ1 (c + 27) (upd (gV τ1 (c + 27)) nt' (nI j))) (c + 28) (upd (gV τ1 (c + 28)) nt' (nI p))) := hmb
    refine rel_r (mP37 hmd) ?_
    refine rel_r (Eq.trans (mI hmd) (congrArg some (show _ = nI nt' from hnt))) ?_
    refine rel_r (mS29 hmd (by omega)) ?_
    have ed : gV (pA (pA τ1 (c + 27) (upd (gV τ1 (c + 27)) nt' (nI j))) (c + 28) (upd (gV τ1 (c + 28)) nt' (nI p))) (c + 29) = gV τ1 (c + 29) := by rw [gV_pAn (by omega), gV_pAn (by omega)]
    rw [ed]
    have hme : Sm c (pA (pA (pA τ1 (c + 27) (upd (gV τ1 (c + 27)) nt' (nI j))) (c + 28) (upd (gV τ1 (c + 28)) nt' (nI p))) (c + 29) (upd (gV τ1 (c + 29)) nt' s)) := hmb
    refine rel_r (Eq.trans (mI hme) (congrArg some (show _ = nI nt' from hnt))) ?_
    refine rel_r (mSI hme) ?_
    rw [nI_1]
    have hmf : Sm c (pI (pA (pA (pA τ1 (c + 27) (upd (gV τ1 (c + 27)) nt' (nI j))) (c + 28) (upd (gV τ1 (c + 28)) nt' (nI p))) (c + 29) (upd (gV τ1 (c + 29)) nt' s)) 9 c (nI (nt' + 1))) := hmb
    have hRf := hF _ hmf (fun f hf => by rw [gI_pIf hf]; rfl) (fun q hq => by rw [gV_pI, gV_pAn (by omega), gV_pAn (by omega), gV_pAn (by omega)]) gI_pIs (by rw [gV_pI, gV_pAn (by omega), gV_pAn (by omega), gV_pAs]) (by rw [gV_pI, gV_pAn (by omega), gV_pAs]) (by rw [gV_pI, gV_pAs])
    have e18f : gV (pI (pA (pA (pA τ1 (c + 27) (upd (gV τ1 (c + 27)) nt' (nI j))) (c + 28) (upd (gV τ1 (c + 28)) nt' (nI p))) (c + 29) (upd (gV τ1 (c + 29)) nt' s)) 9 c (nI (nt' + 1))) (c + 18) j = nI a := by rw [gV_pI, gV_pAn (by omega), gV_pAn (by omega), gV_pAn (by omega)]; exact e18b
    generalize pI (pA (pA (pA τ1 (c + 27) (upd (gV τ1 (c + 27)) nt' (nI j))) (c + 28) (upd (gV τ1 (c + 28)) nt' (nI p))) (c + 29) (upd (gV τ1 (c + 29)) nt' s)) 9 c (nI (nt' + 1)) = τ2 at hmf hRf e18f ⊢
    refine rel_r (mP26 hmf) ?_
    refine rel_r ((mV18 hmf hj10).trans (congrArg some e18f)) ?_
    refine rel_r (mK hmf) ?_
    rw [nI_1]
    exact rel_b (r_giveUp hx2 hmf hRf hj10 (by omega) ((hfr 453 _ (by decide)).trans e453b)) (fun σ' τ' q => rel_some ⟨_, _, q⟩)
theorem MI_wake {c w : Nat} {τ : fr_S} (h : MI c τ) (h2 : gV τ (c + 17) w = 2) : MI c (pA τ (c + 17) (upd (gV τ (c + 17)) w 1)) := by
  obtain ⟨hs, np, nw, nk, nt, nl, nf, re, a1, a2, a3, a4, a5, a6, a7, a8, a9, a10, a11, a12, a13, a14, a15, a16, a17, a18⟩ := id h
  exact ⟨hs, np, nw, nk, nt, nl, nf, re, (by simpa [gV_pI, gV_pAx, gI_pA, gI_pIx] using a1), (by simpa [gV_pI, gV_pAx, gI_pA, gI_pIx] using a2), (by simpa [gV_pI, gV_pAx, gI_pA, gI_pIx] using a3), (by simpa [gV_pI, gV_pAx, gI_pA, gI_pIx] using a4), (by simpa [gV_pI, gV_pAx, gI_pA, gI_pIx] using a5), (by simpa [gV_pI, gV_pAx, gI_pA, gI_pIx] using a6), (by simpa [gV_pI, gV_pAx, gI_pA, gI_pIx] using a7), (by simpa [gV_pI, gV_pAx, gI_pA, gI_pIx] using a8), (by simpa [gV_pI, gV_pAx, gI_pA, gI_pIx] using a9), (by simpa [gV_pI, gV_pAx, gI_pA, gI_pIx] using a10), (by simpa [gV_pI, gV_pAx, gI_pA, gI_pIx] using a11), (by simpa [gV_pAx] using I_ws_wake a12 h2), (by simpa [gV_pI, gV_pAx, gI_pA, gI_pIx] using a13), (by simpa [gV_pI, gV_pAx, gI_pA, gI_pIx] using a14), (by simpa [gV_pI, gV_pAx, gI_pA, gI_pIx] using a15), (by simpa [gV_pAx] using I_to_wait (v := 1) a16 (Or.inr h2)), (by simpa [gV_pI, gV_pAx, gI_pA, gI_pIx] using a17), (by simpa [gV_pI, gV_pAx, gI_pA, gI_pIx] using a18)⟩
