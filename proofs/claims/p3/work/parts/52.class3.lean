theorem pl_k {b i : Nat} {σ : fr_S} (h : Sx b σ) (hi : i < 16) : gK σ (b + 38 + 3 * i) = some (.inl 3) := (h.2.1 i hi).2.1
theorem pl_r {b i : Nat} {σ : fr_S} (h : Sx b σ) (hi : i < 16) : oP σ 3 192 (b + 38 + 3 * i) = some (b + 39 + 3 * i) := oP_g (h.2.1 i hi).2.1 (h.2.1 i hi).2.2.1
theorem wt_k {b j : Nat} {σ : fr_S} (h : Sx b σ) (hj : j < 10) : gK σ (b + 86 + 4 * j) = some (.inl 7) := (h.2.2.1 j hj).2.1
theorem wt_r {b j : Nat} {σ : fr_S} (h : Sx b σ) (hj : j < 10) : oP σ 7 448 (b + 86 + 4 * j) = some (b + 87 + 4 * j) := oP_g (h.2.2.1 j hj).2.1 (h.2.2.1 j hj).2.2.1
theorem wt_p {b j : Nat} {σ : fr_S} (h : Sx b σ) (hj : j < 10) : oP σ 7 449 (b + 86 + 4 * j) = some (b + 89 + 4 * j) := oP_g (h.2.2.1 j hj).2.1 (h.2.2.1 j hj).2.2.2.2.1
theorem pr_p {b i : Nat} (hi : i < 16) : pr b (b + 39 + 3 * i) (b + 40 + 3 * i) := Or.inl ⟨i, hi, rfl, rfl⟩
theorem pr_w {b j : Nat} (hj : j < 10) : pr b (b + 87 + 4 * j) (b + 88 + 4 * j) := Or.inr (Or.inl ⟨j, hj, rfl, rfl⟩)
theorem pr_k {b i : Nat} (hi : i < 10) : pr b (b + 8 + 2 * i) (b + 9 + 2 * i) := Or.inr (Or.inr ⟨i, hi, rfl, rfl⟩)
theorem row_k {b r v : Nat} {σ : fr_S} (h : XI b σ) (hp : pr b r v) : gK σ r = some (.inl 4) := (XI_row h hp).1.1
theorem xnp {b : Nat} {σ : fr_S} (h : XI b σ) : ∃ np, np ≤ 16 ∧ gI σ 68 b = nI np := by
  obtain ⟨-, np, nw, nk, nt, nl, nf, x1, -⟩ := h
  exact ⟨np, x1⟩
theorem xnw {b : Nat} {σ : fr_S} (h : XI b σ) : ∃ nw, nw ≤ 10 ∧ gI σ 70 b = nI nw := by
  obtain ⟨-, np, nw, nk, nt, nl, nf, x1, x2, -⟩ := h
  exact ⟨nw, x2⟩
theorem x_place {b : Nat} {σ : fr_S} (h : XI b σ) (x1 x2 : Int32) : ev (m_FR_place b x1 x2 σ) (fun q => XI b q.2) := by
  obtain ⟨np, hn⟩ := xnp h
  have hs := h.1
  unfold m_FR_place
  refine ev_bs ((xI hs).trans (congrArg some hn.2)) ?_
  refine ev_if (fun _ => ev_some h) (fun h16 => ?_)
  have hnp : np < 16 := by
    rw [nI_lit16, nI_leI (by omega) (by omega)] at h16
    omega
  refine ev_b (x_isHost x1 σ) (fun r hr => ?_)
  refine ev_if (fun _ => ev_some h) (fun h0 => ?_)
  rcases hr with ⟨hr, -⟩ | ⟨-, -, -, j, hj, rfl⟩
  · exact absurd hr h0
  refine ev_if (fun _ => ev_some h) (fun _ => ?_)
  refine ev_if (fun _ => ?_) (fun _ => ev_some h)
  refine ev_bs (xp67 hs) ?_
  refine ev_bs ((xI hs).trans (congrArg some hn.2)) ?_
  refine ev_bs (xP hs hnp) ?_
  refine ev_bs (sI_k (pl_k hs hnp)) ?_
  refine ev_bs (sI_k (pl_k (σ := pI σ 193 (b + 38 + 3 * np) (nI j)) hs hnp)) ?_
  have h2 : XI b (pI (pI σ 193 (b + 38 + 3 * np) (nI j)) 194 (b + 38 + 3 * np) x2) := XI_o (XI_place h hj) (by decide) (by decide)
  refine ev_bs (Eq.trans (xI h2.1) (congrArg some (show _ = nI np by rw [gI_pIf (by decide), gI_pIf (by decide)]; exact hn.2))) ?_
  refine ev_bs (sI_k h2.1.1.1) ?_
  rw [nI_1]
  exact ev_some (XI_cnt h2 (Or.inl ⟨rfl, rfl, by omega⟩))
theorem and255 (x : Int32) : ∃ y, y < 256 ∧ (x &&& 255) = nI y := by
  obtain ⟨j, hj, he⟩ := pk_andE x (m := 255) 8 (by decide +kernel)
  exact ⟨j, hj, he⟩
theorem x_content_L {b r v : Nat} (hp : pr b r v) (w : Int64) : ∀ (n q : Nat) (σ : fr_S), XI b σ → q < n → ev (m_FR_content_L55 n w r (nI q + (-1)) σ) (fun z => XI b z.2) := by
  intro n
  induction n with
  | zero => intro q σ _ h; omega
  | succ n ih =>
    intro q σ h hn
    unfold m_FR_content_L55
    cases q with
    | zero => exact ev_if (fun _ => ev_some h) (fun z => absurd (by rw [nI_0]; decide) z)
    | succ q =>
      rw [pk_m1 q]
      refine ev_if (fun _ => ev_some h) (fun _ => ?_)
      refine ev_bs (oK_k (row_k h hp)) ?_
      obtain ⟨y, hy, hye⟩ := and255 (fr_lushr w (8 * nI q)).toInt32
      rw [hye]
      refine ev_b (x_append h hp hy) (fun σ' h' => ?_)
      exact ih q σ' h'.1 (by omega)
theorem x_content {b : Nat} {σ : fr_S} (h : XI b σ) (x1 : Int32) (x2 : Int64) (x4 : Int32) : ev (m_FR_content b x1 x2 x4 σ) (fun q => XI b q.2) := by
  obtain ⟨np, hn⟩ := xnp h
  have hs := h.1
  unfold m_FR_content
  refine ev_bs (xK hs) ?_
  refine ev_b (x_isPlace hs hn x1) (fun r hr => ?_)
  refine ev_if (fun _ => ev_some h) (fun h0 => ?_)
  rcases hr with hr | ⟨-, i, hi, rfl⟩
  · exact absurd hr h0
  refine ev_if (fun _ => ev_some h) (fun h1 => ?_)
  refine ev_if (fun h8 => ?_) (fun _ => ev_some h)
  obtain ⟨q, hq1, hq8, rfl⟩ := nI_rng (x := x4) (lo := 1) (hi := 8) (by rw [← nI_lit1]; exact h1) (by rw [← nI_lit8]; exact h8) (by decide) (by decide)
  refine ev_bs (xp67 hs) ?_
  refine ev_bs (xP hs (by omega)) ?_
  refine ev_bs (pl_r hs (by omega)) ?_
  refine ev_bs (oI_k (row_k h (pr_p (by omega)))) ?_
  refine ev_if (fun _ => ?_) (fun _ => ev_some h)
  have e1 : nI q - 1 = nI q + (-1) := by
    rw [nI_r (by omega), nI_sm (by omega)]
  rw [e1]
  exact x_content_L (pr_p (by omega)) x2 1000 q σ h (by omega)
theorem x_does {b : Nat} {σ : fr_S} (h : XI b σ) (x1 x2 x3 : Int32) : ev (m_FR_does b x1 x2 x3 σ) (fun q => XI b q.2) := by
  obtain ⟨np, hn⟩ := xnp h
  have hs := h.1
  unfold m_FR_does
  refine ev_bs (xK hs) ?_
  refine ev_b (x_isPlace hs hn x1) (fun r hr => ?_)
  refine ev_if (fun _ => ev_some h) (fun h0 => ?_)
  rcases hr with hr | ⟨-, i, hi, rfl⟩
  · exact absurd hr h0
  have hk := pl_k hs (show i < 16 by omega)
  have fl : ∀ f v, f ∉ xF → f ≠ 257 → (v = 0 ∨ v = 1) → ev ((sZ σ 3 f (b + 38 + 3 * i) v).bind fun σ_8 => some ((1 : Int32), σ_8)) (fun q => XI b q.2) := fun f v hf hf2 hv => ev_bs (sZ_k hk hv) (ev_some (XI_o h hf hf2))
  refine ev_bs (xp67 hs) ?_
  refine ev_bs (xP hs (by omega)) ?_
  refine ev_if (fun _ => ?_) (fun _ => ?_)
  · exact ev_if (fun _ => fl 198 0 (by decide) (by decide) (Or.inl rfl)) (fun _ => fl 198 1 (by decide) (by decide) (Or.inr rfl))
  refine ev_if (fun _ => ?_) (fun _ => ?_)
  · refine ev_if (fun e => ?_) (fun _ => ?_)
    · exact ev_bs (sI_k hk) (ev_some (XI_lead h (Or.inl e)))
    · refine ev_bs (xK hs) ?_
      refine ev_b (x_isPlace hs hn x3) (fun r2 hr2 => ?_)
      refine ev_if (fun _ => ev_some h) (fun h02 => ?_)
      rcases hr2 with hr2 | ⟨-, j, hj, rfl⟩
      · exact absurd hr2 h02
      exact ev_bs (sI_k hk) (ev_some (XI_lead h (Or.inr ⟨j, by omega, rfl⟩)))
  refine ev_if (fun _ => ?_) (fun _ => ?_)
  · exact ev_if (fun _ => fl 199 0 (by decide) (by decide) (Or.inl rfl)) (fun _ => fl 199 1 (by decide) (by decide) (Or.inr rfl))
  refine ev_if (fun _ => ?_) (fun _ => ev_some h)
  exact ev_if (fun _ => fl 200 0 (by decide) (by decide) (Or.inl rfl)) (fun _ => fl 200 1 (by decide) (by decide) (Or.inr rfl))
theorem x_cut {b : Nat} {σ : fr_S} (h : XI b σ) (x1 x2 x3 : Int32) : ev (m_FR_cut b x1 x2 x3 σ) (fun q => XI b q.2) := by
  obtain ⟨np, hn⟩ := xnp h
  have hs := h.1
  unfold m_FR_cut
  refine ev_bs (xK hs) ?_
  refine ev_b (x_isPlace hs hn x1) (fun r hr => ?_)
  refine ev_if (fun _ => ev_some h) (fun h0 => ?_)
  rcases hr with hr | ⟨-, i, hi, rfl⟩
  · exact absurd hr h0
  refine ev_if (fun _ => ev_some h) (fun _ => ?_)
  refine ev_if (fun _ => ev_some h) (fun _ => ?_)
  refine ev_if (fun _ => ev_some h) (fun _ => ?_)
  refine ev_if (fun _ => ?_) (fun _ => ev_some h)
  refine ev_bs (xp67 hs) ?_
  refine ev_bs (xP hs (by omega)) ?_
  refine ev_bs (sI_k (pl_k hs (by omega))) ?_
  have h2 : XI b (pI σ 196 (b + 38 + 3 * i) x2) := XI_o h (by decide) (by decide)
  refine ev_bs (xp67 h2.1) ?_
  refine ev_bs (xP h2.1 (by omega)) ?_
  refine ev_bs (sI_k (pl_k h2.1 (by omega))) ?_
  exact ev_some (XI_o h2 (by decide) (by decide))
theorem x_digestF {b : Nat} {σ : fr_S} (h : XI b σ) (x1 : Int32) : ev (m_FR_digest b x1 σ) (fun _ => True) := by
  obtain ⟨np, hn⟩ := xnp h
  have hs := h.1
  unfold m_FR_digest
  refine ev_bs (xK hs) ?_
  refine ev_b (x_isPlace hs hn x1) (fun r hr => ?_)
  refine ev_if (fun _ => ev_some trivial) (fun h0 => ?_)
  rcases hr with hr | ⟨-, i, hi, rfl⟩
  · exact absurd hr h0
  refine ev_bs (xp67 hs) ?_
  refine ev_bs (xP hs (by omega)) ?_
  refine ev_bs (pl_r hs (by omega)) ?_
  refine ev_bs (oK_k (row_k h (pr_p (by omega)))) ?_
  exact ev_b (x_digest h (pr_p (by omega))) (fun _ _ => ev_some trivial)
theorem x_want {b : Nat} {σ : fr_S} (h : XI b σ) (x1 : Int32) : ev (m_FR_want b x1 σ) (fun q => XI b q.2) := by
  obtain ⟨nw, hn⟩ := xnw h
  have hs := h.1
  unfold m_FR_want
  refine ev_bs ((xI hs).trans (congrArg some hn.2)) ?_
  refine ev_if (fun h10 => ?_) (fun _ => ev_some h)
  have hnw : nw < 10 := by
    rw [nI_lit10, nI_ltI (by omega) (by omega)] at h10
    exact h10
  refine ev_bs (xp69 hs) ?_
  refine ev_bs ((xI hs).trans (congrArg some hn.2)) ?_
  refine ev_bs (xW hs hnw) ?_
  refine ev_bs (sI_k (wt_k hs hnw)) ?_
  have h2 : XI b (pI σ 451 (b + 86 + 4 * nw) x1) := XI_o h (by decide) (by decide)
  refine ev_bs (Eq.trans (xI h2.1) (congrArg some (show _ = nI nw by rw [gI_pIf (by decide)]; exact hn.2))) ?_
  refine ev_bs (sI_k h2.1.1.1) ?_
  rw [nI_1]
  exact ev_some (XI_cnt h2 (Or.inr (Or.inl ⟨rfl, rfl, by omega⟩)))
theorem xw8 {b j : Nat} {σ : fr_S} (h : XI b σ) (hj : j < 10) : (∃ m, m ≤ 6 ∧ gI σ 450 (b + 86 + 4 * j) = nI m ∧ ∀ k, k < m → ∃ p, p < 16 ∧ gV σ (b + 89 + 4 * j) k = nI p) ∧ ∃ a, a ≤ 5 ∧ gI σ 453 (b + 86 + 4 * j) = nI a := by
  obtain ⟨-, np, nw, nk, nt, nl, nf, x1, x2, x3, x4, x5, x6, x7, x8, -⟩ := h
  exact x8 j hj
theorem x_add_L {b j p m : Nat} {σ : fr_S} (h : XI b σ) (hj : j < 10) (hm : gI σ 450 (b + 86 + 4 * j) = nI m) (hm6 : m < 6) (hp : p < 16) : ∀ (n k : Nat), k ≤ m → m - k < n → ev (m_Want_addPlace_L13 n (b + 86 + 4 * j) (nI p) (nI k) σ) (fun q => XI b q.2 ∧ (q.1 = 0 ∨ q.1 = 1)) := by
  have hs := h.1
  have hk := wt_k hs hj
  have hv := (hs.2.2.1 j hj).2.2.2.2.2
  intro n
  induction n with
  | zero => intro k _ h; omega
  | succ n ih =>
    intro k hkm hn
    unfold m_Want_addPlace_L13
    refine ev_bs ((oI_k hk).trans (congrArg some hm)) ?_
    refine ev_if (fun _ => ?_) (fun z => ?_)
    · refine ev_bs (wt_p hs hj) ?_
      refine ev_bs ((oI_k hk).trans (congrArg some hm)) ?_
      refine ev_bs (sI_k hk) ?_
      rw [nI_1]
      refine ev_bs (sV_nI (n := 6) (show gK (pI σ 450 (b + 86 + 4 * j) (nI (m + 1))) (b + 89 + 4 * j) = some (.inr (0, 6)) from hv) hm6 (by decide)) ?_
      exact ev_some ⟨XI_add h hj hm hm6 hp, Or.inr rfl⟩
    · rw [nI_leI (by omega) (by omega)] at z
      refine ev_bs (wt_p hs hj) ?_
      refine ev_bs (oV_nI hv (by omega) (by decide)) ?_
      refine ev_if (fun _ => ev_some ⟨h, Or.inl rfl⟩) (fun _ => ?_)
      rw [nI_1]
      exact ih (k + 1) (by omega) (by omega)
theorem x_from {b : Nat} {σ : fr_S} (h : XI b σ) (x1 x2 : Int32) : ev (m_FR_from b x1 x2 σ) (fun q => XI b q.2) := by
  obtain ⟨np, hn⟩ := xnp h
  obtain ⟨nw, hw⟩ := xnw h
  have hs := h.1
  unfold m_FR_from
  refine ev_bs (xK hs) ?_
  refine ev_b (x_isWant hs hw x1) (fun r hr => ?_)
  refine ev_if (fun _ => ev_some h) (fun h0 => ?_)
  rcases hr with hr | ⟨-, j, hj, rfl⟩
  · exact absurd hr h0
  refine ev_bs (xK hs) ?_
  refine ev_b (x_isPlace hs hn x2) (fun r hr => ?_)
  refine ev_if (fun _ => ev_some h) (fun h0 => ?_)
  rcases hr with hr | ⟨-, p, hp, rfl⟩
  · exact absurd hr h0
  refine ev_bs (xp69 hs) ?_
  refine ev_bs (xW hs (by omega)) ?_
  refine ev_bs (oI_k (wt_k hs (by omega))) ?_
  refine ev_if (fun _ => ?_) (fun _ => ev_some h)
  refine ev_bs (xp69 hs) ?_
  refine ev_bs (xW hs (by omega)) ?_
  refine ev_bs (oK_k (wt_k hs (by omega))) ?_
  obtain ⟨⟨m, m6, hm, -⟩, -⟩ := xw8 h (show j < 10 by omega)
  have key : ev (m_Want_addPlace (b + 86 + 4 * j) (nI p) σ) (fun q => XI b q.2 ∧ (q.1 = 0 ∨ q.1 = 1)) := by
    unfold m_Want_addPlace
    refine ev_bs ((oI_k (wt_k hs (by omega))).trans (congrArg some hm)) ?_
    refine ev_if (fun h6 => ?_) (fun _ => ev_some ⟨h, Or.inl rfl⟩)
    rw [nI_lit6, nI_ltI (by omega) (by omega)] at h6
    have key := x_add_L (p := p) h (by omega) hm h6 (by omega) 1000 0 (by omega) (by omega)
    rw [nI_0] at key
    exact key
  refine ev_b key (fun q hq => ?_)
  refine ev_bs (show oZ q.1 = some () from if_pos hq.2) ?_
  exact ev_some hq.1
theorem x_offLine {b : Nat} {σ : fr_S} (h : XI b σ) (x1 : Int32) (hz : x1 = 0 ∨ x1 = 1) : ev (m_FR_offLine b x1 σ) (fun q => XI b q) := by
  unfold m_FR_offLine
  refine ev_bs (sZ_k h.1.1.1 hz) ?_
  have h2 : XI b (pI σ 76 b x1) := XI_o h (by decide) (by decide)
  refine ev_bs (sI_k h2.1.1.1) ?_
  have key := XI_cnt (n := 0) h2 (Or.inr (Or.inr (Or.inr (Or.inr (Or.inl ⟨rfl, rfl, by omega⟩)))))
  rw [nI_0] at key
  exact ev_some key
theorem x_isBusy {b j : Nat} {σ : fr_S} (hs : Sx b σ) (hj : j < 10) : ev (m_Want_isBusy (b + 86 + 4 * j) σ) (fun _ => True) := by
  unfold m_Want_isBusy
  refine ev_bs (oI_k (wt_k hs hj)) ?_
  refine ev_if (fun _ => ev_some trivial) (fun _ => ?_)
  refine ev_bs (oI_k (wt_k hs hj)) ?_
  exact ev_if (fun _ => ev_some trivial) (fun _ => ev_some trivial)
theorem x_cur {b j : Nat} {σ : fr_S} (h : XI b σ) (hj : j < 10) : ev (m_Want_currentPlace (b + 86 + 4 * j) σ) (fun x => x = -1 ∨ ∃ p, p < 16 ∧ x = nI p) := by
  have hs := h.1
  have hk := wt_k hs hj
  obtain ⟨⟨m, m6, hm, hpl⟩, a, a5, ha⟩ := xw8 h hj
  unfold m_Want_currentPlace
  refine ev_bs ((oI_k hk).trans (congrArg some ha)) ?_
  refine ev_if (fun _ => ev_some (Or.inl rfl)) (fun _ => ?_)
  refine ev_bs ((oI_k hk).trans (congrArg some ha)) ?_
  refine ev_bs ((oI_k hk).trans (congrArg some hm)) ?_
  refine ev_if (fun _ => ev_some (Or.inl rfl)) (fun z => ?_)
  rw [nI_leI (by omega) (by omega)] at z
  obtain ⟨p, hp, hpe⟩ := hpl a (by omega)
  refine ev_bs (wt_p hs hj) ?_
  refine ev_bs ((oI_k hk).trans (congrArg some ha)) ?_
  refine ev_bs ((oV_nI (hs.2.2.1 j hj).2.2.2.2.2 (by omega) (by decide)).trans (congrArg some hpe)) ?_
  exact ev_some (Or.inr ⟨p, hp, rfl⟩)
