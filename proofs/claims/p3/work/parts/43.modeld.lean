/-! the archive: where the reference reads -/
theorem md_isSign (x : Int32) (τ : fr_S) : ev (m_Md_isSign x τ) (fun _ => True) := by
  unfold m_Md_isSign
  repeat' first
    | exact ev_some trivial
    | refine ev_if (fun _ => ?_) (fun _ => ?_)
theorem md_isRight_L {c to_ : Nat} {τ : fr_S} (hs : Sm c τ) (ht : to_ ≤ 1000) : ∀ (n k : Nat) (y3 y4 : Int32), k ≤ to_ + 1 → to_ + 1 - k < n → ev (m_Md_isRight_L8 n c (nI to_) y3 y4 (nI k) τ) (fun _ => True) := by
  intro n
  induction n with
  | zero => intro k y3 y4 _ h; omega
  | succ n ih =>
    intro k y3 y4 hk hn
    unfold m_Md_isRight_L8
    refine ev_if (fun _ => ev_some trivial) (fun z => ?_)
    rw [nI_ltI (by omega) (by omega)] at z
    have go : ∀ a b : Int32, ev (m_Md_isRight_L8 n c (nI to_) a b (nI k + 1) τ) (fun _ => True) := by
      intro a b
      rw [nI_1]
      exact ih (k + 1) a b (by omega) (by omega)
    have sl : ev (if y3 = 0 then some 0 else if y3 = y4 then if 3 ≤ y3 then m_Md_isRight_L8 n c (nI to_) 0 0 (nI k + 1) τ else some 0 else m_Md_isRight_L8 n c (nI to_) 0 0 (nI k + 1) τ) (fun _ => True) := ev_if (fun _ => ev_some trivial) (fun _ => ev_if (fun _ => ev_if (fun _ => go 0 0) (fun _ => ev_some trivial)) (fun _ => go 0 0))
    refine ev_if (fun _ => ?_) (fun z2 => ?_)
    · refine ev_b (md_isSign _ τ) (fun r _ => ?_)
      exact ev_if (fun _ => ev_some trivial) (fun _ => sl)
    · rw [nI_leI (by omega) (by omega)] at z2
      refine ev_bs (mP28 hs) ?_
      refine ev_bs (mV20 hs (by omega)) ?_
      refine ev_b (md_isSign _ τ) (fun r _ => ?_)
      refine ev_if (fun _ => ev_some trivial) (fun _ => ?_)
      refine ev_if (fun _ => sl) (fun _ => ?_)
      exact ev_if (fun _ => go _ _) (fun _ => go _ _)
theorem md_strip_L {c to_ : Nat} {τ : fr_S} (hs : Sm c τ) (ht : to_ ≤ 1000) : ∀ (n k l : Nat), k ≤ to_ → l ≤ 5 → to_ - k < n → ev (m_Md_strip_L6 n c (nI to_) (nI l) (nI k) τ) (fun r => ∃ j, k ≤ j ∧ j ≤ to_ ∧ r = nI j) := by
  intro n
  induction n with
  | zero => intro k l _ _ h; omega
  | succ n ih =>
    intro k l hk hl hn
    unfold m_Md_strip_L6
    have ret : ev (if nI l ≤ 0 then some (nI k) else some (nI to_)) (fun r => ∃ j, k ≤ j ∧ j ≤ to_ ∧ r = nI j) := ev_if (fun _ => ev_some ⟨k, Nat.le_refl k, hk, rfl⟩) (fun _ => ev_some ⟨to_, hk, Nat.le_refl _, rfl⟩)
    refine ev_if (fun _ => ret) (fun hl0 => ?_)
    refine ev_if (fun _ => ret) (fun z => ?_)
    rw [nI_leI (by omega) (by omega)] at z
    have hlp : 0 < l := by
      rcases Nat.eq_zero_or_pos l with e | e
      · exact absurd (by rw [e, nI_0]; exact Int32.le_refl 0) hl0
      · exact e
    refine ev_bs (mP28 hs) ?_
    refine ev_bs (mV20 hs (by omega)) ?_
    refine ev_if (fun _ => ?_) (fun _ => ?_)
    · rw [nI_sm hlp, nI_1]
      refine ev_mono (ih (k + 1) (l - 1) (by omega) (by omega) (by omega)) (fun r hr => ?_)
      obtain ⟨j, j1, j2, j3⟩ := hr
      exact ⟨j, by omega, j2, j3⟩
    · rw [nI_s0, nI_1]
      refine ev_mono (ih (k + 1) l (by omega) (by omega) (by omega)) (fun r hr => ?_)
      obtain ⟨j, j1, j2, j3⟩ := hr
      exact ⟨j, by omega, j2, j3⟩
theorem md_same_L {c a n b : Nat} {τ : fr_S} (hs : Sm c τ) (ha : a + n ≤ 1000) (hb : b + n ≤ 1000) : ∀ (q k : Nat) (y : Int32), (y = 0 ∨ y = 1) → k ≤ n → n - k < q → ev (m_Md_isSamePath_L16 q c (nI a) (nI n) (nI b) y (nI k) τ) (fun _ => True) := by
  intro q
  induction q with
  | zero => intro k y _ _ h; omega
  | succ q ih =>
    intro k y hy hk hq
    unfold m_Md_isSamePath_L16
    have oz : oZ y = some () := if_pos hy
    refine ev_if (fun _ => ev_bs oz (ev_some trivial)) (fun z => ?_)
    rw [nI_leI (by omega) (by omega)] at z
    refine ev_if (fun _ => ev_bs oz (ev_some trivial)) (fun _ => ?_)
    refine ev_bs (mP28 hs) ?_
    rw [nI_add, nI_add]
    refine ev_bs (mV20 hs (by omega)) ?_
    refine ev_bs (mP28 hs) ?_
    refine ev_bs (mV20 hs (by omega)) ?_
    rw [nI_1]
    exact ev_if (fun _ => ih (k + 1) 1 (Or.inr rfl) (by omega) (by omega)) (fun _ => ih (k + 1) 0 (Or.inl rfl) (by omega) (by omega))
theorem md_same {c a n b m : Nat} {τ : fr_S} (hs : Sm c τ) (ha : a + n ≤ 1000) (hb : b + m ≤ 1000) (hn : n ≤ 100) (hm : m ≤ 1000) : ev (m_Md_isSamePath c (nI a) (nI n) (nI b) (nI m) τ) (fun _ => True) := by
  unfold m_Md_isSamePath
  refine ev_if (fun he => ?_) (fun _ => ?_)
  · have hnm : n = m := nI_inj (by omega) (by omega) he
    subst hnm
    have key := md_same_L (c := c) (a := a) (n := n) (b := b) hs ha hb 1000 0 1 (Or.inr rfl) (by omega) (by omega)
    rw [nI_0] at key
    exact key
  · unfold m_Md_isSamePath_L16
    have oz : oZ 0 = some () := if_pos (Or.inl rfl)
    exact ev_if (fun _ => ev_bs oz (ev_some trivial)) (fun _ => ev_if (fun _ => ev_bs oz (ev_some trivial)) (fun z => absurd rfl z))
