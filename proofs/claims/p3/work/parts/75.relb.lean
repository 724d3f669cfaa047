theorem r_isBusy {b j : Nat} {σ : fr_S} (hs : Sx b σ) (hj : j < 10) : ev (m_Want_isBusy (b + 86 + 4 * j) σ) (fun r => (r = 1 ∧ (gI σ 452 (b + 86 + 4 * j) = 1 ∨ gI σ 452 (b + 86 + 4 * j) = 2)) ∨ (r = 0 ∧ gI σ 452 (b + 86 + 4 * j) ≠ 1 ∧ gI σ 452 (b + 86 + 4 * j) ≠ 2)) := by
  unfold m_Want_isBusy
  refine ev_bs (oI_k (wt_k hs hj)) ?_
  refine ev_if (fun e => ev_some (Or.inl ⟨rfl, Or.inl e⟩)) (fun e => ?_)
  refine ev_bs (oI_k (wt_k hs hj)) ?_
  exact ev_if (fun e2 => ev_some (Or.inl ⟨rfl, Or.inr e2⟩)) (fun e2 => ev_some (Or.inr ⟨rfl, e, e2⟩))
theorem r_copy {b r v r0 v0 n : Nat} {σ : fr_S} (h : XI b σ) (hp : pr b r v) (hp0 : pr b r0 v0) (hl : gI σ 257 r0 = nI n) (hn : n ≤ 100) : m_Row_copyFrom r r0 σ = some (pI (pA σ v (va_cpy (gV σ v0) (gV σ v) 0 0 n)) 257 r (nI n)) := by
  obtain ⟨⟨k1, k2, k3⟩, -, hv⟩ := XI_row h hp
  obtain ⟨⟨q1, q2, q3⟩, -, hv0⟩ := XI_row h hp0
  unfold m_Row_copyFrom
  have hc : sC σ v0 0 v 0 (nI n) = some (pA σ v (va_cpy (gV σ v0) (gV σ v) 0 0 n)) := by
    unfold sC
    rw [q3, k3]
    have e0 : (0 : Int32).toNatClampNeg = 0 := by decide +kernel
    have e1 : (nI n).toNatClampNeg = n := nI_clamp (by omega)
    simp only [e0, e1]
    rw [if_pos ⟨⟨trivial, trivial⟩, ⟨by decide, by decide, nI_pos (by omega)⟩, by omega, by omega⟩]
  have key : ev (((oP σ 4 256 r0).bind fun q1 => (oP σ 4 256 r).bind fun q2 => (oI σ 4 257 r0).bind fun v3 => (sC σ q1 0 q2 0 v3).bind fun σ_4 => (oI σ_4 4 257 r0).bind fun v5 => (sI σ_4 4 257 r v5).bind fun σ_6 => some σ_6)) (fun σ' => σ' = pI (pA σ v (va_cpy (gV σ v0) (gV σ v) 0 0 n)) 257 r (nI n)) := by
    refine ev_bs (oP_g q1 q2) ?_
    refine ev_bs (oP_g k1 k2) ?_
    refine ev_bs ((oI_k q1).trans (congrArg some hl)) ?_
    refine ev_bs hc ?_
    refine ev_bs (Eq.trans (oI_k (show gK (pA σ v (va_cpy (gV σ v0) (gV σ v) 0 0 n)) r0 = some (.inl 4) from q1)) (congrArg some (show gI (pA σ v (va_cpy (gV σ v0) (gV σ v) 0 0 n)) 257 r0 = nI n from hl))) ?_
    refine ev_bs (sI_k (show gK (pA σ v (va_cpy (gV σ v0) (gV σ v) 0 0 n)) r = some (.inl 4) from k1)) ?_
    exact ev_some rfl
  obtain ⟨a, e, rfl⟩ := key
  exact e
/-- the reference's copy of a kept row -/
theorem r_copyM {c j k m : Nat} {τ : fr_S} (hj : j < 10) (hk : k < 10) (hm1 : m ≤ 100) : ∀ (n y : Nat) (τ' : fr_S), Sm c τ' → DM c j τ τ' → gV τ' (c + 19) j = nI m → gV τ' (c + 22) j = gV τ (c + 22) j → (∀ i, i < y → gV τ' (c + 20) (100 * j + i) = gV τ (c + 26) (100 * k + i)) → y ≤ m → m - y < n → ev (m_Md_begin_L65 n c (nI j) (nI k) (nI y) τ') (fun q => q.1 = 3 ∧ DM c j τ q.2 ∧ gV q.2 (c + 17) j = 3 ∧ gV q.2 (c + 19) j = nI m ∧ gV q.2 (c + 22) j = gV τ (c + 22) j ∧ ∀ i, i < m → gV q.2 (c + 20) (100 * j + i) = gV τ (c + 26) (100 * k + i)) := by
  intro n
  induction n with
  | zero => intro y τ' _ _ _ _ _ _ h; omega
  | succ n ih =>
    intro y τ' hm hD h19 h22 hc hy hn
    unfold m_Md_begin_L65
    refine ev_bs (mP27 hm) ?_
    refine ev_bs ((mV19 hm hj).trans (congrArg some h19)) ?_
    refine ev_if (fun z => ?_) (fun z => ?_)
    · rw [nI_leI (by omega) (by omega)] at z
      refine ev_bs (mP25 hm) ?_
      refine ev_bs (mS17 hm hj) ?_
      have hm2 : Sm c (pA τ' (c + 17) (upd (gV τ' (c + 17)) j 3)) := hm
      refine ev_bs (mP25 hm2) ?_
      have st : gV (pA τ' (c + 17) (upd (gV τ' (c + 17)) j 3)) (c + 17) j = 3 := by rw [gV_pAs, upd_s]
      refine ev_bs (Eq.trans (mV17 hm2 hj) (congrArg some st)) ?_
      refine ev_some ⟨rfl, DM_a (by decide) hD, st, ?_, ?_, fun i hi => ?_⟩
      · show gV (pA τ' (c + 17) (upd (gV τ' (c + 17)) j 3)) (c + 19) j = nI m
        rw [gV_pAn (by omega)]; exact h19
      · show gV (pA τ' (c + 17) (upd (gV τ' (c + 17)) j 3)) (c + 22) j = _
        rw [gV_pAn (by omega)]; exact h22
      · show gV (pA τ' (c + 17) (upd (gV τ' (c + 17)) j 3)) (c + 20) (100 * j + i) = _
        rw [gV_pAn (by omega)]; exact hc i (by omega)
    · rw [nI_leI (by omega) (by omega)] at z
      refine ev_bs (mP28 hm) ?_
      refine ev_bs (mP34 hm) ?_
      rw [nI_100, nI_100]
      refine ev_bs (mV26 hm (by omega)) ?_
      refine ev_bs (mS20 hm (by omega)) ?_
      rw [nI_1]
      refine ih (y + 1) _ hm (DM_b (by omega) hD) ?_ ?_ (fun i hi => ?_) (by omega) (by omega)
      · rw [gV_pAn (by omega)]; exact h19
      · rw [gV_pAn (by omega)]; exact h22
      · rw [gV_pAs]
        by_cases e : i = y
        · rw [e, upd_s, hD.2.1 26 (by decide) (by decide)]
        · rw [upd_n (by omega)]; exact hc i (by omega)
