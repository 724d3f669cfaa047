/-! no more of a kind than there are places for them -/
theorem pigeon : ∀ (m n : Nat) (f : Nat → Nat), (∀ i, i < n → f i < m) → (∀ i j, i < j → j < n → f i ≠ f j) → n ≤ m := by
  intro m
  induction m with
  | zero =>
    intro n f h1 h2
    cases n with
    | zero => exact Nat.le_refl 0
    | succ n => exact absurd (h1 0 (Nat.succ_pos n)) (Nat.not_lt_zero _)
  | succ m ih =>
    intro n f h1 h2
    by_cases hex : ∃ i, i < n ∧ f i = m
    · obtain ⟨i0, hi0, hf0⟩ := hex
      have key : n - 1 ≤ m := by
        refine ih (n - 1) (fun j => if j < i0 then f j else f (j + 1)) (fun j hj => ?_) (fun i j hij hj => ?_)
        · by_cases hlt : j < i0
          · simp only [hlt, if_true]
            have g1 := h1 j (by omega)
            have g2 := h2 j i0 hlt hi0
            omega
          · simp only [hlt, if_false]
            have g1 := h1 (j + 1) (by omega)
            have g2 := h2 i0 (j + 1) (by omega) (by omega)
            omega
        · by_cases hi : i < i0
          · by_cases hjl : j < i0
            · simp only [hi, hjl, if_true]
              exact h2 i j hij (by omega)
            · simp only [hi, hjl, if_true, if_false]
              exact h2 i (j + 1) (by omega) (by omega)
          · have hjl : ¬ j < i0 := by omega
            simp only [hi, hjl, if_false]
            exact h2 (i + 1) (j + 1) (by omega) (by omega)
      omega
    · have key : n ≤ m := by
        refine ih n f (fun i hi => ?_) h2
        have g1 := h1 i hi
        have g2 : f i ≠ m := fun z => hex ⟨i, hi, z⟩
        omega
      omega
theorem nI_inj {a b : Nat} (ha : a < 2 ^ 31) (hb : b < 2 ^ 31) (h : nI a = nI b) : a = b := (nI_eq ha hb).mp h
theorem I_la_le {nw nl : Nat} {la : Nat → Int32} (h : I_la nw nl la) : nl ≤ nw := by
  obtain ⟨f, hf⟩ := Classical.skolem.mp (fun k : Nat => show ∃ w : Nat, k < nl → w < nw ∧ la k = nI w by
    by_cases hk : k < nl
    · obtain ⟨w, h1⟩ := h.1 k hk
      exact ⟨w, fun _ => h1⟩
    · exact ⟨0, fun z => absurd z hk⟩)
  refine pigeon nw nl f (fun i hi => (hf i hi).1) (fun i j hij hj hfe => ?_)
  exact h.2 i j hij hj (by rw [(hf i (by omega)).2, (hf j hj).2, hfe])
theorem I_la_add {nw nl w : Nat} {la : Nat → Int32} (h : I_la nw nl la) (hw : w < nw) (hn : ∀ k, k < nl → la k ≠ nI w) : I_la nw (nl + 1) (upd la nl (nI w)) := by
  refine ⟨fun k hk => ?_, fun k k' hkk hk' => ?_⟩
  · by_cases hkn : k = nl
    · subst hkn
      exact ⟨w, hw, upd_s⟩
    · rw [upd_n hkn]
      exact h.1 k (by omega)
  · rw [upd_n (show k ≠ nl by omega)]
    by_cases hkn : k' = nl
    · subst hkn
      rw [upd_s]
      exact hn k hkk
    · rw [upd_n hkn]
      exact h.2 k k' hkk (by omega)
theorem I_ke_le {nw nk : Nat} {go ke ks : Nat → Int32} (h : I_ke nw nk go ke ks) : nk ≤ nw := by
  obtain ⟨f, hf⟩ := Classical.skolem.mp (fun k : Nat => show ∃ w : Nat, k < nk → w < nw ∧ ke k = go w by
    by_cases hk : k < nk
    · obtain ⟨⟨w, h1⟩, -⟩ := h.1 k hk
      exact ⟨w, fun _ => h1⟩
    · exact ⟨0, fun z => absurd z hk⟩)
  refine pigeon nw nk f (fun i hi => (hf i hi).1) (fun i j hij hj hfe => ?_)
  exact h.2 i j hij hj (by rw [(hf i (by omega)).2, (hf j hj).2, hfe])
theorem I_ke_add {nw nk w n : Nat} {go ke ks : Nat → Int32} (h : I_ke nw nk go ke ks) (hw : w < nw) (hn : n ≤ 100) (hne : ∀ k, k < nk → ke k ≠ go w) : I_ke nw (nk + 1) go (upd ke nk (go w)) (upd ks nk (nI n)) := by
  refine ⟨fun k hk => ?_, fun k k' hkk hk' => ?_⟩
  · by_cases hkn : k = nk
    · subst hkn
      exact ⟨⟨w, hw, upd_s⟩, ⟨n, hn, upd_s⟩⟩
    · rw [upd_n hkn, upd_n hkn]
      exact h.1 k (by omega)
  · rw [upd_n (show k ≠ nk by omega)]
    by_cases hkn : k' = nk
    · subst hkn
      rw [upd_s]
      exact hne k hkk
    · rw [upd_n hkn]
      exact h.2 k k' hkk (by omega)
theorem I_to_le {np nw nt : Nat} {ba pm po st at_ tw tp : Nat → Int32} (h : I_to np nw nt ba pm po st at_ tw tp) (hw : nw ≤ 10) : nt ≤ 60 := by
  obtain ⟨f, hf⟩ := Classical.skolem.mp (fun i : Nat => show ∃ q : Nat, i < nt → ∃ w k, q = 6 * w + k ∧ k < 6 ∧ w < 10 ∧ tw i = nI w ∧ tp i = po (6 * w + k) by
    by_cases hi : i < nt
    · obtain ⟨w, k, m, p, g1, g2, g3, g4, g5, g6, g7, g8, -⟩ := h.1 i hi
      exact ⟨6 * w + k, fun _ => ⟨w, k, rfl, by omega, by omega, g7, by rw [g8, g6]⟩⟩
    · exact ⟨0, fun z => absurd z hi⟩)
  refine pigeon 60 nt f (fun i hi => ?_) (fun i j hij hj hfe => ?_)
  · obtain ⟨w, k, g1, g2, g3, -⟩ := hf i hi
    omega
  · obtain ⟨w, k, g1, g2, g3, g4, g5⟩ := hf i (by omega)
    obtain ⟨w', k', g1', g2', g3', g4', g5'⟩ := hf j hj
    have hw' : w = w' := by omega
    have hk' : k = k' := by omega
    subst hw'
    subst hk'
    exact h.2 i j hij hj ⟨by rw [g4, g4'], by rw [g5, g5']⟩
/-! reads: they change nothing but the code -/
theorem md_sent {c : Nat} {τ : fr_S} (h : MI c τ) (x1 : Int32) : ev (m_Md_sent c x1 τ) (fun q => MI c q.2) := by
  unfold m_Md_sent
  refine ev_bs (mSI h.1) ?_
  have h := M_code (v := 0) h
  generalize pI τ 1 c 0 = τ at h ⊢
  refine ev_if (fun _ => ev_some h) (fun h1 => ?_)
  refine ev_if (fun h2 => ?_) (fun _ => ev_some h)
  obtain ⟨i, hi, rfl⟩ := nI_get (x := x1) (n := 8) (by decide) h1 (by rw [← nI_lit8]; exact Int32.not_le.mpr h2)
  refine ev_bs (mP5 h.1) ?_
  refine ev_bs (mV2 h.1 hi) ?_
  exact ev_some h
theorem md_lacks {c : Nat} {τ : fr_S} (h : MI c τ) (x1 : Int32) : ev (m_Md_lacks c x1 τ) (fun q => MI c q.2) := by
  unfold m_Md_lacks
  refine ev_bs (mSI h.1) ?_
  have h := M_code (v := 0) h
  generalize pI τ 1 c 0 = τ at h ⊢
  obtain ⟨hs, np, nw, nk, nt, nl, nf, re, a1, a2, a3, a4, a5, a6, a7, a8, a9, a10, a11, a12, a13, a14, a15, a16, a17, a18⟩ := id h
  have hb := I_la_le a17
  have hw := a2.1
  refine ev_if (fun _ => ev_some h) (fun h1 => ?_)
  refine ev_bs ((mI hs).trans (congrArg some a5)) ?_
  refine ev_if (fun h2 => ?_) (fun _ => ev_some h)
  obtain ⟨i, hi, rfl⟩ := nI_get (x := x1) (n := nl) (by omega) h1 (Int32.not_le.mpr h2)
  refine ev_bs (mP38 hs) ?_
  refine ev_bs (mV30 hs (by omega)) ?_
  exact ev_some h
theorem md_came {c : Nat} {τ : fr_S} (h : MI c τ) (x1 : Int32) : ev (m_Md_came c x1 τ) (fun q => MI c q.2) := by
  unfold m_Md_came
  refine ev_bs (mSI h.1) ?_
  have h := M_code (v := 0) h
  generalize pI τ 1 c 0 = τ at h ⊢
  obtain ⟨hs, np, nw, nk, nt, nl, nf, re, a1, a2, a3, a4, a5, a6, a7, a8, a9, a10, a11, a12, a13, a14, a15, a16, a17, a18⟩ := id h
  have hb := I_to_le a16 a2.1
  refine ev_if (fun _ => ev_some h) (fun h1 => ?_)
  refine ev_bs ((mI hs).trans (congrArg some a4)) ?_
  refine ev_if (fun h2 => ?_) (fun _ => ev_some h)
  obtain ⟨i, hi, rfl⟩ := nI_get (x := x1) (n := nt) (by omega) h1 (Int32.not_le.mpr h2)
  refine ev_bs (mP37 hs) ?_
  refine ev_bs (mV29 hs (by omega)) ?_
  exact ev_some h
theorem md_barred {c : Nat} {τ : fr_S} (h : MI c τ) (x1 x2 : Int32) : ev (m_Md_barred c x1 x2 τ) (fun q => MI c q.2) := by
  unfold m_Md_barred
  refine ev_bs (mSI h.1) ?_
  have h := M_code (v := 0) h
  generalize pI τ 1 c 0 = τ at h ⊢
  obtain ⟨hs, np, nw, nk, nt, nl, nf, re, a1, a2, a3, a4, a5, a6, a7, a8, a9, a10, a11, a12, a13, a14, a15, a16, a17, a18⟩ := id h
  have hb := I_to_le a16 a2.1
  refine ev_if (fun _ => ev_some h) (fun h1 => ?_)
  refine ev_bs ((mI hs).trans (congrArg some a4)) ?_
  refine ev_if (fun h2 => ?_) (fun _ => ev_some h)
  obtain ⟨i, hi, rfl⟩ := nI_get (x := x1) (n := nt) (by omega) h1 (Int32.not_le.mpr h2)
  refine ev_if (fun _ => ?_) (fun _ => ?_)
  · refine ev_bs (mP35 hs) ?_
    refine ev_bs (mV27 hs (by omega)) ?_
    exact ev_some h
  · refine ev_if (fun _ => ?_) (fun _ => ev_some h)
    refine ev_bs (mP36 hs) ?_
    refine ev_bs (mV28 hs (by omega)) ?_
    exact ev_some h
