theorem x_sent {b : Nat} {σ : fr_S} (h : XI b σ) (x1 : Int32) : ev (m_FR_sent b x1 σ) (fun _ => True) := by
  unfold m_FR_sent
  refine ev_b (x_isHost x1 σ) (fun r hr => ?_)
  refine ev_if (fun _ => ev_some trivial) (fun h0 => ?_)
  rcases hr with ⟨hr, -⟩ | ⟨-, -, -, j, hj, rfl⟩
  · exact absurd hr h0
  refine ev_bs (xp66 h.1) ?_
  refine ev_bs (oV_nI (n := 8) h.1.1.2.2.1.2 hj (by decide)) ?_
  exact ev_some trivial
theorem x_lacks {b : Nat} {σ : fr_S} (h : XI b σ) (x1 : Int32) : ev (m_FR_lacks b x1 σ) (fun _ => True) := by
  obtain ⟨hs, np, nw, nk, nt, nl, nf, y1, y2, y3, y4, y5, y6, -⟩ := id h
  unfold m_FR_lacks
  refine ev_if (fun _ => ev_some trivial) (fun h0 => ?_)
  refine ev_bs ((xI hs).trans (congrArg some y5.2)) ?_
  refine ev_if (fun _ => ev_some trivial) (fun h1 => ?_)
  have := y5.1
  obtain ⟨i, hi, rfl⟩ := nI_get (by omega) h0 h1
  refine ev_bs (xp73 hs) ?_
  refine ev_bs (oV_nI (n := 10) hs.1.2.2.2.2.2.2.2.1.2 (by omega) (by decide)) ?_
  exact ev_some trivial
theorem x_thas {b nt : Nat} {σ : fr_S} (hs : Sx b σ) (h4 : nt ≤ 60 ∧ gI σ 387 (b + 28) = nI nt) (x : Int32) : ev (m_Tellings_has (b + 28) x σ) (fun r => r = 0 ∨ ∃ j, j < nt ∧ x = nI j) := by
  unfold m_Tellings_has
  refine ev_if (fun h => ev_some (Or.inl rfl)) (fun h => ?_)
  refine ev_bs ((oI_k hs.1.2.2.2.2.2.2.1.2.1).trans (congrArg some h4.2)) ?_
  exact ev_if (fun h2 => ev_some (Or.inl rfl)) (fun h2 => ev_some (Or.inr (nI_get (by omega) h h2)))
theorem x_came {b : Nat} {σ : fr_S} (h : XI b σ) (x1 : Int32) : ev (m_FR_came b x1 σ) (fun _ => True) := by
  obtain ⟨hs, np, nw, nk, nt, nl, nf, y1, y2, y3, y4, y5, y6, -⟩ := id h
  have hT := hs.1.2.2.2.2.2.2.1
  have := y4.1
  unfold m_FR_came
  refine ev_bs (xp72 hs) ?_
  refine ev_bs (oK_k hT.2.1) ?_
  refine ev_b (x_thas hs y4 x1) (fun r hr => ?_)
  refine ev_if (fun _ => ev_some trivial) (fun h0 => ?_)
  rcases hr with hr | ⟨i, hi, rfl⟩
  · exact absurd hr h0
  refine ev_bs (xp72 hs) ?_
  refine ev_bs (oP_g hT.2.1 hT.2.2.2.2.2.2.1) ?_
  refine ev_bs (oV_nI (n := 60) hT.2.2.2.2.2.2.2 (by omega) (by decide)) ?_
  exact ev_some trivial
theorem x_barred {b : Nat} {σ : fr_S} (h : XI b σ) (x1 x2 : Int32) : ev (m_FR_barred b x1 x2 σ) (fun _ => True) := by
  obtain ⟨hs, np, nw, nk, nt, nl, nf, y1, y2, y3, y4, y5, y6, -⟩ := id h
  have hT := hs.1.2.2.2.2.2.2.1
  have := y4.1
  unfold m_FR_barred
  refine ev_bs (xp72 hs) ?_
  refine ev_bs (oK_k hT.2.1) ?_
  refine ev_b (x_thas hs y4 x1) (fun r hr => ?_)
  refine ev_if (fun _ => ev_some trivial) (fun h0 => ?_)
  rcases hr with hr | ⟨i, hi, rfl⟩
  · exact absurd hr h0
  refine ev_if (fun _ => ?_) (fun _ => ?_)
  · refine ev_bs (xp72 hs) ?_
    refine ev_bs (oP_g hT.2.1 hT.2.2.1) ?_
    refine ev_bs (oV_nI (n := 60) hT.2.2.2.1 (by omega) (by decide)) ?_
    exact ev_some trivial
  refine ev_if (fun _ => ?_) (fun _ => ev_some trivial)
  refine ev_bs (xp72 hs) ?_
  refine ev_bs (oP_g hT.2.1 hT.2.2.2.2.1) ?_
  refine ev_bs (oV_nI (n := 60) hT.2.2.2.2.2.1 (by omega) (by decide)) ?_
  exact ev_some trivial
theorem x_file {b : Nat} {σ : fr_S} (h : XI b σ) (x1 x2 : Int32) : ev (m_FR_file b x1 x2 σ) (fun _ => True) := by
  obtain ⟨hs, np, nw, nk, nt, nl, nf, y1, y2, y3, y4, y5, y6, -⟩ := id h
  have hF := hs.1.2.2.2.2.2.2.2.2
  have := y6.1
  unfold m_FR_file
  refine ev_bs (xp75 hs) ?_
  refine ev_bs (oK_k hF.2.1) ?_
  have key : ev (m_Files_has (b + 33) x1 σ) (fun r => r = 0 ∨ ∃ j, j < nf ∧ x1 = nI j) := by
    unfold m_Files_has
    refine ev_if (fun h => ev_some (Or.inl rfl)) (fun h => ?_)
    refine ev_bs ((oI_k hF.2.1).trans (congrArg some y6.2)) ?_
    exact ev_if (fun h2 => ev_some (Or.inl rfl)) (fun h2 => ev_some (Or.inr (nI_get (by omega) h h2)))
  refine ev_b key (fun r hr => ?_)
  refine ev_if (fun _ => ev_some trivial) (fun h0 => ?_)
  rcases hr with hr | ⟨i, hi, rfl⟩
  · exact absurd hr h0
  refine ev_if (fun _ => ?_) (fun _ => ?_)
  · exact ev_bs (xp75 hs) (ev_bs (oP_g hF.2.1 hF.2.2.1) (ev_bs (oV_nI (n := 33) hF.2.2.2.1 (by omega) (by decide)) (ev_some trivial)))
  refine ev_if (fun _ => ?_) (fun _ => ?_)
  · exact ev_bs (xp75 hs) (ev_bs (oP_g hF.2.1 hF.2.2.2.2.1) (ev_bs (oV_nI (n := 33) hF.2.2.2.2.2.1 (by omega) (by decide)) (ev_some trivial)))
  refine ev_if (fun _ => ?_) (fun _ => ?_)
  · exact ev_bs (xp75 hs) (ev_bs (oP_g hF.2.1 hF.2.2.2.2.2.2.1) (ev_bs (oV_nI (n := 33) hF.2.2.2.2.2.2.2.1 (by omega) (by decide)) (ev_some trivial)))
  refine ev_if (fun _ => ?_) (fun _ => ev_some trivial)
  exact ev_bs (xp75 hs) (ev_bs (oP_g hF.2.1 hF.2.2.2.2.2.2.2.2.1) (ev_bs (oV_nI (n := 33) hF.2.2.2.2.2.2.2.2.2 (by omega) (by decide)) (ev_some trivial)))
theorem x_byteOf {b : Nat} {σ : fr_S} (h : XI b σ) (x1 x2 : Int32) : ev (m_FR_byteOf b x1 x2 σ) (fun _ => True) := by
  obtain ⟨nw, hw⟩ := xnw h
  have hs := h.1
  unfold m_FR_byteOf
  refine ev_bs (xK hs) ?_
  refine ev_b (x_isWant hs hw x1) (fun r hr => ?_)
  refine ev_if (fun _ => ev_some trivial) (fun h0 => ?_)
  rcases hr with hr | ⟨-, j, hj, rfl⟩
  · exact absurd hr h0
  refine ev_bs (xp69 hs) ?_
  refine ev_bs (xW hs (by omega)) ?_
  refine ev_bs (wt_r hs (by omega)) ?_
  refine ev_bs (oK_k (row_k h (pr_w (by omega)))) ?_
  exact ev_b (x_at h (pr_w (by omega)) x2) (fun _ _ => ev_some trivial)
theorem x_about {b : Nat} {σ : fr_S} (h : XI b σ) (x1 x2 : Int32) : ev (m_FR_about b x1 x2 σ) (fun _ => True) := by
  obtain ⟨nw, hw⟩ := xnw h
  have hs := h.1
  unfold m_FR_about
  refine ev_bs (xK hs) ?_
  refine ev_b (x_isWant hs hw x1) (fun r hr => ?_)
  refine ev_if (fun _ => ev_some trivial) (fun h0 => ?_)
  rcases hr with hr | ⟨-, j, hj, rfl⟩
  · exact absurd hr h0
  have hk := wt_k hs (show j < 10 by omega)
  refine ev_bs (xp69 hs) ?_
  refine ev_bs (xW hs (by omega)) ?_
  refine ev_if (fun _ => ev_bs (oI_k hk) (ev_some trivial)) (fun _ => ?_)
  refine ev_if (fun _ => ?_) (fun _ => ?_)
  · refine ev_bs (oK_k hk) ?_
    refine ev_b (x_isBusy hs (by omega)) (fun _ _ => ?_)
    refine ev_if (fun _ => ev_some trivial) (fun _ => ?_)
    refine ev_bs (oK_k hk) ?_
    exact ev_b (x_cur h (by omega)) (fun _ _ => ev_some trivial)
  refine ev_if (fun _ => ?_) (fun _ => ?_)
  · refine ev_bs (wt_r hs (by omega)) ?_
    exact ev_bs (oI_k (row_k h (pr_w (by omega)))) (ev_some trivial)
  refine ev_if (fun _ => ?_) (fun _ => ?_)
  · refine ev_bs (oI_k hk) ?_
    exact ev_if (fun _ => ev_bs (oI_k hk) (ev_some trivial)) (fun _ => ev_some trivial)
  exact ev_if (fun _ => ev_bs (oI_k hk) (ev_some trivial)) (fun _ => ev_some trivial)
theorem x_find {b nk : Nat} {σ : fr_S} (hs : Sx b σ) (h3 : nk ≤ 10 ∧ gI σ 322 (b + 5) = nI nk) (x : Int32) : ev (m_Store_find (b + 5) x σ) (fun r => r = -1 ∨ ∃ k, k < nk ∧ r = nI k) := by
  have hT := hs.1.2.2.2.2.2.1
  have key : ∀ (n k : Nat), k ≤ nk → nk - k < n → ev (m_Store_find_L2 n (b + 5) x (nI k) σ) (fun r => r = -1 ∨ ∃ k, k < nk ∧ r = nI k) := by
    intro n
    induction n with
    | zero => intro k _ h; omega
    | succ n ih =>
      intro k hk hn
      unfold m_Store_find_L2
      refine ev_bs ((oI_k hT.2.1).trans (congrArg some h3.2)) ?_
      refine ev_if (fun _ => ev_some (Or.inl rfl)) (fun z => ?_)
      rw [nI_leI (by omega) (by omega)] at z
      refine ev_bs (oP_g hT.2.1 hT.2.2.1) ?_
      refine ev_bs (oV_nI (n := 10) hT.2.2.2.1 (by omega) (by decide)) ?_
      refine ev_if (fun _ => ev_some (Or.inr ⟨k, by omega, rfl⟩)) (fun _ => ?_)
      rw [nI_1]
      exact ih (k + 1) (by omega) (by omega)
  unfold m_Store_find
  have k0 := key 1000 0 (by omega) (by omega)
  rw [nI_0] at k0
  exact k0
theorem x_keep {b r v : Nat} {σ : fr_S} (h : XI b σ) (hp : pr b r v) (x : Int32) : ev (m_Store_keep (b + 5) x r σ) (XI b) := by
  obtain ⟨hs, np, nw, nk, nt, nl, nf, y1, y2, y3, y4, y5, y6, -⟩ := id h
  have hT := hs.1.2.2.2.2.2.1
  unfold m_Store_keep
  refine ev_bs (oK_k hT.2.1) ?_
  refine ev_b (x_find hs y3 x) (fun r2 _ => ?_)
  refine ev_if (fun _ => ?_) (fun _ => ev_some h)
  refine ev_bs ((oI_k hT.2.1).trans (congrArg some y3.2)) ?_
  refine ev_if (fun h10 => ?_) (fun _ => ev_some h)
  have := y3.1
  rw [nI_lit10, nI_ltI (by omega) (by omega)] at h10
  refine ev_bs (oP_g hT.2.1 hT.2.2.1) ?_
  refine ev_bs ((oI_k hT.2.1).trans (congrArg some y3.2)) ?_
  refine ev_bs (sV_nI (n := 10) hT.2.2.2.1 h10 (by decide)) ?_
  have h2 : XI b (pA σ (b + 6) (upd (gV σ (b + 6)) nk x)) := XI_oA h (by omega)
  have y3' : gI (pA σ (b + 6) (upd (gV σ (b + 6)) nk x)) 322 (b + 5) = nI nk := y3.2
  generalize pA σ (b + 6) (upd (gV σ (b + 6)) nk x) = σ2 at h2 y3' ⊢
  have hs2 := h2.1
  have hT2 := hs2.1.2.2.2.2.2.1
  refine ev_bs (oP_g hT2.2.1 hT2.2.2.2.2.1) ?_
  refine ev_bs ((oI_k hT2.2.1).trans (congrArg some y3')) ?_
  refine ev_bs (oQ_nI (n := 10) hT2.2.2.2.2.2 h10 (by decide) (hs2.2.2.2 nk h10).1) ?_
  refine ev_bs (oK_k (row_k h2 (pr_k h10))) ?_
  refine ev_b (x_copy h2 (pr_k h10) hp) (fun σ' h' => ?_)
  have hT3 := h'.1.1.1.2.2.2.2.2.1
  refine ev_bs ((oI_k hT3.2.1).trans (congrArg some ((h'.2 322 (by decide) (b + 5)).trans y3'))) ?_
  refine ev_bs (sI_k hT3.2.1) ?_
  rw [nI_1]
  exact ev_some (XI_cnt h'.1 (Or.inr (Or.inr (Or.inl ⟨rfl, rfl, by omega⟩))))
theorem x_tell {b : Nat} {σ : fr_S} (h : XI b σ) (x1 x2 x3 : Int32) : ev (m_Tellings_tell (b + 28) x1 x2 x3 σ) (XI b) := by
  obtain ⟨hs, np, nw, nk, nt, nl, nf, y1, y2, y3, y4, y5, y6, -⟩ := id h
  have hT := hs.1.2.2.2.2.2.2.1
  unfold m_Tellings_tell
  refine ev_bs ((oI_k hT.2.1).trans (congrArg some y4.2)) ?_
  refine ev_if (fun h60 => ?_) (fun _ => ev_some h)
  have := y4.1
  have h60 : nt < 60 := by
    have e : (60 : Int32) = nI 60 := by decide +kernel
    rw [e, nI_ltI (by omega) (by omega)] at h60
    exact h60
  refine ev_bs (oP_g hT.2.1 hT.2.2.1) ?_
  refine ev_bs ((oI_k hT.2.1).trans (congrArg some y4.2)) ?_
  refine ev_bs (sV_nI (n := 60) hT.2.2.2.1 h60 (by decide)) ?_
  have h2 : XI b (pA σ (b + 29) (upd (gV σ (b + 29)) nt x1)) := XI_oA h (by omega)
  have e2 : gI (pA σ (b + 29) (upd (gV σ (b + 29)) nt x1)) 387 (b + 28) = nI nt := y4.2
  generalize pA σ (b + 29) (upd (gV σ (b + 29)) nt x1) = σ2 at h2 e2 ⊢
  have hT2 := h2.1.1.2.2.2.2.2.2.1
  refine ev_bs (oP_g hT2.2.1 hT2.2.2.2.2.1) ?_
  refine ev_bs ((oI_k hT2.2.1).trans (congrArg some e2)) ?_
  refine ev_bs (sV_nI (n := 60) hT2.2.2.2.2.2.1 h60 (by decide)) ?_
  have h3 : XI b (pA σ2 (b + 30) (upd (gV σ2 (b + 30)) nt x2)) := XI_oA h2 (by omega)
  have e3 : gI (pA σ2 (b + 30) (upd (gV σ2 (b + 30)) nt x2)) 387 (b + 28) = nI nt := e2
  generalize pA σ2 (b + 30) (upd (gV σ2 (b + 30)) nt x2) = σ3 at h3 e3 ⊢
  have hT3 := h3.1.1.2.2.2.2.2.2.1
  refine ev_bs (oP_g hT3.2.1 hT3.2.2.2.2.2.2.1) ?_
  refine ev_bs ((oI_k hT3.2.1).trans (congrArg some e3)) ?_
  refine ev_bs (sV_nI (n := 60) hT3.2.2.2.2.2.2.2 h60 (by decide)) ?_
  have h4 : XI b (pA σ3 (b + 31) (upd (gV σ3 (b + 31)) nt x3)) := XI_oA h3 (by omega)
  have e4 : gI (pA σ3 (b + 31) (upd (gV σ3 (b + 31)) nt x3)) 387 (b + 28) = nI nt := e3
  generalize pA σ3 (b + 31) (upd (gV σ3 (b + 31)) nt x3) = σ4 at h4 e4 ⊢
  have hT4 := h4.1.1.2.2.2.2.2.2.1
  refine ev_bs ((oI_k hT4.2.1).trans (congrArg some e4)) ?_
  refine ev_bs (sI_k hT4.2.1) ?_
  rw [nI_1]
  exact ev_some (XI_cnt h4 (Or.inr (Or.inr (Or.inr (Or.inl ⟨rfl, rfl, by omega⟩)))))
theorem x_note {b : Nat} {σ : fr_S} (h : XI b σ) (x : Int32) : ev (m_FR_noteLacking b x σ) (fun σ' => XI b σ' ∧ ∀ f, f ≠ 74 → ∀ a, gI σ' f a = gI σ f a) := by
  obtain ⟨hs, np, nw, nk, nt, nl, nf, y1, y2, y3, y4, y5, y6, -⟩ := id h
  have hT := hs.1.2.2.2.2.2.2.2.1
  have := y5.1
  have key : ∀ (n k : Nat), k ≤ nl → nl - k < n → ev (m_FR_noteLacking_L2 n b x (nI k) σ) (fun σ' => XI b σ' ∧ ∀ f, f ≠ 74 → ∀ a, gI σ' f a = gI σ f a) := by
    intro n
    induction n with
    | zero => intro k _ h; omega
    | succ n ih =>
      intro k hk hn
      unfold m_FR_noteLacking_L2
      refine ev_bs ((xI hs).trans (congrArg some y5.2)) ?_
      refine ev_if (fun _ => ?_) (fun z => ?_)
      · refine ev_bs ((xI hs).trans (congrArg some y5.2)) ?_
        refine ev_if (fun _ => ev_some ⟨h, fun _ _ _ => rfl⟩) (fun h10 => ?_)
        rw [nI_lit10, nI_leI (by omega) (by omega)] at h10
        refine ev_bs (xp73 hs) ?_
        refine ev_bs ((xI hs).trans (congrArg some y5.2)) ?_
        refine ev_bs (sI_k hs.1.1) ?_
        rw [nI_1]
        refine ev_bs (sV_nI (n := 10) (show gK (pI σ 74 b (nI (nl + 1))) (b + 32) = some (.inr (0, 10)) from hT.2) (by omega) (by decide)) ?_
        exact ev_some ⟨XI_oA (XI_cnt h (Or.inr (Or.inr (Or.inr (Or.inr (Or.inl ⟨rfl, rfl, by omega⟩)))))) (by omega), fun f hf a => gI_pIf hf⟩
      · rw [nI_leI (by omega) (by omega)] at z
        refine ev_bs (xp73 hs) ?_
        refine ev_bs (oV_nI (n := 10) hT.2 (by omega) (by decide)) ?_
        refine ev_if (fun _ => ev_some ⟨h, fun _ _ _ => rfl⟩) (fun _ => ?_)
        rw [nI_1]
        exact ih (k + 1) (by omega) (by omega)
  unfold m_FR_noteLacking
  have k0 := key 1000 0 (by omega) (by omega)
  rw [nI_0] at k0
  exact k0
