/-! small methods of the class -/
theorem x_isHost (x : Int32) (σ : fr_S) : ev (m_FR_isHost x σ) (fun r => (r = 0 ∧ ¬ (¬ x < 0 ∧ ¬ 8 ≤ x)) ∨ (r = 1 ∧ ¬ x < 0 ∧ ¬ 8 ≤ x ∧ ∃ j, j < 8 ∧ x = nI j)) := by
  unfold m_FR_isHost
  refine ev_if (fun h => ev_some (Or.inl ⟨rfl, fun z => z.1 h⟩)) (fun h => ?_)
  refine ev_if (fun h2 => ev_some (Or.inl ⟨rfl, fun z => z.2 h2⟩)) (fun h2 => ?_)
  exact ev_some (Or.inr ⟨rfl, h, h2, nI_get (n := 8) (by decide) h (by rw [← nI_lit8]; exact h2)⟩)
theorem x_isPlace {b np : Nat} {σ : fr_S} (hs : Sx b σ) (h1 : np ≤ 16 ∧ gI σ 68 b = nI np) (x : Int32) : ev (m_FR_isPlace b x σ) (fun r => r = 0 ∨ (r = 1 ∧ ∃ j, j < np ∧ x = nI j)) := by
  unfold m_FR_isPlace
  refine ev_if (fun h => ev_some (Or.inl rfl)) (fun h => ?_)
  refine ev_bs ((xI hs).trans (congrArg some h1.2)) ?_
  exact ev_if (fun h2 => ev_some (Or.inl rfl)) (fun h2 => ev_some (Or.inr ⟨rfl, nI_get (by omega) h h2⟩))
theorem x_isWant {b nw : Nat} {σ : fr_S} (hs : Sx b σ) (h1 : nw ≤ 10 ∧ gI σ 70 b = nI nw) (x : Int32) : ev (m_FR_isWant b x σ) (fun r => r = 0 ∨ (r = 1 ∧ ∃ j, j < nw ∧ x = nI j)) := by
  unfold m_FR_isWant
  refine ev_if (fun h => ev_some (Or.inl rfl)) (fun h => ?_)
  refine ev_bs ((xI hs).trans (congrArg some h1.2)) ?_
  exact ev_if (fun h2 => ev_some (Or.inl rfl)) (fun h2 => ev_some (Or.inr ⟨rfl, nI_get (by omega) h h2⟩))
theorem x_credential {b : Nat} {σ : fr_S} (h : XI b σ) (x1 x2 : Int32) : ev (m_FR_credential b x1 x2 σ) (fun q => q.1 = (if x1 < 0 then 0 else if x1 < 8 then 1 else 0) ∧ XI b q.2) := by
  unfold m_FR_credential
  refine ev_b (x_isHost x1 σ) (fun r hr => ?_)
  refine ev_if (fun h0 => ?_) (fun h0 => ?_)
  · rcases hr with ⟨-, hr⟩ | ⟨hr, -⟩
    · refine ev_some ⟨?_, h⟩
      by_cases e1 : x1 < 0
      · rw [if_pos e1]
      · rw [if_neg e1]
        by_cases e2 : x1 < 8
        · exact absurd ⟨e1, Int32.not_le.mpr e2⟩ hr
        · rw [if_neg e2]
    · rw [hr] at h0
      exact absurd h0 (by decide)
  · rcases hr with ⟨hr, -⟩ | ⟨-, e1, e2, j, hj, rfl⟩
    · exact absurd hr h0
    · refine ev_bs (xp65 h.1) ?_
      refine ev_bs (sV_nI (n := 8) h.1.1.2.1.2 hj (by decide)) ?_
      refine ev_some ⟨?_, XI_oA h (by omega)⟩
      rw [if_neg e1, if_pos (Int32.not_le.mp e2)]
theorem XI_place {b i hh : Nat} {σ : fr_S} (h : XI b σ) (hh8 : hh < 8) : XI b (pI σ 193 (b + 38 + 3 * i) (nI hh)) := by
  obtain ⟨hs, np, nw, nk, nt, nl, nf, x1, x2, x3, x4, x5, x6, x7, x8, x9⟩ := h
  refine ⟨hs, np, nw, nk, nt, nl, nf, by rw [gI_pIf (by decide)]; exact x1, by rw [gI_pIf (by decide)]; exact x2, by rw [gI_pIf (by decide)]; exact x3, by rw [gI_pIf (by decide)]; exact x4, by rw [gI_pIf (by decide)]; exact x5, by rw [gI_pIf (by decide)]; exact x6, fun k hk => ?_, fun j hj => ?_, fun r v hp => ?_⟩
  · obtain ⟨g1, g2⟩ := x7 k hk
    refine ⟨?_, by rw [gI_pIf (by decide)]; exact g2⟩
    by_cases e : b + 38 + 3 * k = b + 38 + 3 * i
    · rw [e, gI_pIs]; exact ⟨hh, hh8, rfl⟩
    · rw [gI_pIa e]; exact g1
  · rw [gI_pIf (by decide), gI_pIf (by decide)]; exact x8 j hj
  · exact ⟨by rw [gI_pIf (by decide)]; exact (x9 r v hp).1, (x9 r v hp).2⟩
theorem XI_lead {b i : Nat} {σ : fr_S} {v : Int32} (h : XI b σ) (hv : v = -1 ∨ ∃ j, j < 16 ∧ v = nI j) : XI b (pI σ 195 (b + 38 + 3 * i) v) := by
  obtain ⟨hs, np, nw, nk, nt, nl, nf, x1, x2, x3, x4, x5, x6, x7, x8, x9⟩ := h
  refine ⟨hs, np, nw, nk, nt, nl, nf, by rw [gI_pIf (by decide)]; exact x1, by rw [gI_pIf (by decide)]; exact x2, by rw [gI_pIf (by decide)]; exact x3, by rw [gI_pIf (by decide)]; exact x4, by rw [gI_pIf (by decide)]; exact x5, by rw [gI_pIf (by decide)]; exact x6, fun k hk => ?_, fun j hj => ?_, fun r v hp => ?_⟩
  · obtain ⟨g1, g2⟩ := x7 k hk
    refine ⟨by rw [gI_pIf (by decide)]; exact g1, ?_⟩
    by_cases e : b + 38 + 3 * k = b + 38 + 3 * i
    · rw [e, gI_pIs]; exact hv
    · rw [gI_pIa e]; exact g2
  · rw [gI_pIf (by decide), gI_pIf (by decide)]; exact x8 j hj
  · exact ⟨by rw [gI_pIf (by decide)]; exact (x9 r v hp).1, (x9 r v hp).2⟩
/-- a count of its own -/
theorem XI_cnt {b f a n : Nat} {σ : fr_S} (h : XI b σ) (hf : (f = 68 ∧ a = b ∧ n ≤ 16) ∨ (f = 70 ∧ a = b ∧ n ≤ 10) ∨ (f = 322 ∧ a = b + 5 ∧ n ≤ 10) ∨ (f = 387 ∧ a = b + 28 ∧ n ≤ 60) ∨ (f = 74 ∧ a = b ∧ n ≤ 10) ∨ (f = 132 ∧ a = b + 33 ∧ n ≤ 33)) : XI b (pI σ f a (nI n)) := by
  obtain ⟨hs, np, nw, nk, nt, nl, nf, x1, x2, x3, x4, x5, x6, x7, x8, x9⟩ := h
  rcases hf with ⟨rfl, rfl, hn⟩ | ⟨rfl, rfl, hn⟩ | ⟨rfl, rfl, hn⟩ | ⟨rfl, rfl, hn⟩ | ⟨rfl, rfl, hn⟩ | ⟨rfl, rfl, hn⟩
  · exact ⟨hs, n, nw, nk, nt, nl, nf, ⟨hn, gI_pIs⟩, by rw [gI_pIf (by decide)]; exact x2, by rw [gI_pIf (by decide)]; exact x3, by rw [gI_pIf (by decide)]; exact x4, by rw [gI_pIf (by decide)]; exact x5, by rw [gI_pIf (by decide)]; exact x6, fun k hk => by rw [gI_pIf (by decide), gI_pIf (by decide)]; exact x7 k hk, fun j hj => by rw [gI_pIf (by decide), gI_pIf (by decide)]; exact x8 j hj, fun r v hp => ⟨by rw [gI_pIf (by decide)]; exact (x9 r v hp).1, (x9 r v hp).2⟩⟩
  · exact ⟨hs, np, n, nk, nt, nl, nf, by rw [gI_pIf (by decide)]; exact x1, ⟨hn, gI_pIs⟩, by rw [gI_pIf (by decide)]; exact x3, by rw [gI_pIf (by decide)]; exact x4, by rw [gI_pIf (by decide)]; exact x5, by rw [gI_pIf (by decide)]; exact x6, fun k hk => by rw [gI_pIf (by decide), gI_pIf (by decide)]; exact x7 k hk, fun j hj => by rw [gI_pIf (by decide), gI_pIf (by decide)]; exact x8 j hj, fun r v hp => ⟨by rw [gI_pIf (by decide)]; exact (x9 r v hp).1, (x9 r v hp).2⟩⟩
  · exact ⟨hs, np, nw, n, nt, nl, nf, by rw [gI_pIf (by decide)]; exact x1, by rw [gI_pIf (by decide)]; exact x2, ⟨hn, gI_pIs⟩, by rw [gI_pIf (by decide)]; exact x4, by rw [gI_pIf (by decide)]; exact x5, by rw [gI_pIf (by decide)]; exact x6, fun k hk => by rw [gI_pIf (by decide), gI_pIf (by decide)]; exact x7 k hk, fun j hj => by rw [gI_pIf (by decide), gI_pIf (by decide)]; exact x8 j hj, fun r v hp => ⟨by rw [gI_pIf (by decide)]; exact (x9 r v hp).1, (x9 r v hp).2⟩⟩
  · exact ⟨hs, np, nw, nk, n, nl, nf, by rw [gI_pIf (by decide)]; exact x1, by rw [gI_pIf (by decide)]; exact x2, by rw [gI_pIf (by decide)]; exact x3, ⟨hn, gI_pIs⟩, by rw [gI_pIf (by decide)]; exact x5, by rw [gI_pIf (by decide)]; exact x6, fun k hk => by rw [gI_pIf (by decide), gI_pIf (by decide)]; exact x7 k hk, fun j hj => by rw [gI_pIf (by decide), gI_pIf (by decide)]; exact x8 j hj, fun r v hp => ⟨by rw [gI_pIf (by decide)]; exact (x9 r v hp).1, (x9 r v hp).2⟩⟩
  · exact ⟨hs, np, nw, nk, nt, n, nf, by rw [gI_pIf (by decide)]; exact x1, by rw [gI_pIf (by decide)]; exact x2, by rw [gI_pIf (by decide)]; exact x3, by rw [gI_pIf (by decide)]; exact x4, ⟨hn, gI_pIs⟩, by rw [gI_pIf (by decide)]; exact x6, fun k hk => by rw [gI_pIf (by decide), gI_pIf (by decide)]; exact x7 k hk, fun j hj => by rw [gI_pIf (by decide), gI_pIf (by decide)]; exact x8 j hj, fun r v hp => ⟨by rw [gI_pIf (by decide)]; exact (x9 r v hp).1, (x9 r v hp).2⟩⟩
  · exact ⟨hs, np, nw, nk, nt, nl, n, by rw [gI_pIf (by decide)]; exact x1, by rw [gI_pIf (by decide)]; exact x2, by rw [gI_pIf (by decide)]; exact x3, by rw [gI_pIf (by decide)]; exact x4, by rw [gI_pIf (by decide)]; exact x5, ⟨hn, gI_pIs⟩, fun k hk => by rw [gI_pIf (by decide), gI_pIf (by decide)]; exact x7 k hk, fun j hj => by rw [gI_pIf (by decide), gI_pIf (by decide)]; exact x8 j hj, fun r v hp => ⟨by rw [gI_pIf (by decide)]; exact (x9 r v hp).1, (x9 r v hp).2⟩⟩
theorem XI_cur {b j a : Nat} {σ : fr_S} (h : XI b σ) (ha : a ≤ 5) : XI b (pI σ 453 (b + 86 + 4 * j) (nI a)) := by
  obtain ⟨hs, np, nw, nk, nt, nl, nf, x1, x2, x3, x4, x5, x6, x7, x8, x9⟩ := h
  refine ⟨hs, np, nw, nk, nt, nl, nf, by rw [gI_pIf (by decide)]; exact x1, by rw [gI_pIf (by decide)]; exact x2, by rw [gI_pIf (by decide)]; exact x3, by rw [gI_pIf (by decide)]; exact x4, by rw [gI_pIf (by decide)]; exact x5, by rw [gI_pIf (by decide)]; exact x6, fun k hk => by rw [gI_pIf (by decide), gI_pIf (by decide)]; exact x7 k hk, fun i hi => ?_, fun r v hp => ⟨by rw [gI_pIf (by decide)]; exact (x9 r v hp).1, (x9 r v hp).2⟩⟩
  obtain ⟨g1, g2⟩ := x8 i hi
  refine ⟨by rw [gI_pIf (by decide)]; exact g1, ?_⟩
  by_cases e : b + 86 + 4 * i = b + 86 + 4 * j
  · rw [e, gI_pIs]; exact ⟨a, ha, rfl⟩
  · rw [gI_pIa e]; exact g2
theorem XI_add {b j m p : Nat} {σ : fr_S} (h : XI b σ) (hj : j < 10) (hm : gI σ 450 (b + 86 + 4 * j) = nI m) (hm6 : m < 6) (hp : p < 16) : XI b (pA (pI σ 450 (b + 86 + 4 * j) (nI (m + 1))) (b + 89 + 4 * j) (upd (gV σ (b + 89 + 4 * j)) m (nI p))) := by
  obtain ⟨hs, np, nw, nk, nt, nl, nf, x1, x2, x3, x4, x5, x6, x7, x8, x9⟩ := h
  refine ⟨hs, np, nw, nk, nt, nl, nf, by rw [gI_pA, gI_pIf (by decide)]; exact x1, by rw [gI_pA, gI_pIf (by decide)]; exact x2, by rw [gI_pA, gI_pIf (by decide)]; exact x3, by rw [gI_pA, gI_pIf (by decide)]; exact x4, by rw [gI_pA, gI_pIf (by decide)]; exact x5, by rw [gI_pA, gI_pIf (by decide)]; exact x6, fun k hk => by rw [gI_pA, gI_pA, gI_pIf (by decide), gI_pIf (by decide)]; exact x7 k hk, fun i hi => ?_, fun r v hpr => ?_⟩
  · obtain ⟨⟨m', g1, g2, g3⟩, g4⟩ := x8 i hi
    refine ⟨?_, by rw [gI_pA, gI_pIf (by decide)]; exact g4⟩
    by_cases e : i = j
    · subst e
      have hmm : m' = m := nI_inj (by omega) (by omega) (g2.symm.trans hm)
      subst hmm
      refine ⟨m' + 1, by omega, by rw [gI_pA, gI_pIs], fun k hk => ?_⟩
      rw [gV_pAs]
      by_cases ek : k = m'
      · rw [ek, upd_s]; exact ⟨p, hp, rfl⟩
      · rw [upd_n ek]; exact g3 k (by omega)
    · refine ⟨m', g1, by rw [gI_pA, gI_pIa (by omega)]; exact g2, fun k hk => ?_⟩
      rw [gV_pAn (by omega), gV_pI]
      exact g3 k hk
  · refine ⟨by rw [gI_pA, gI_pIf (by decide)]; exact (x9 r v hpr).1, fun k hk => ?_⟩
    rw [gV_pAn (Ne.symm (pr_ne hpr j hj)), gV_pI]
    exact (x9 r v hpr).2 k hk
