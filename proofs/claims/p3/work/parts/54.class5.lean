theorem x_startAt {b j a : Nat} {σ : fr_S} (h : XI b σ) (hj : j < 10) (ha : a ≤ 5) : ev (m_Want_startAt (b + 86 + 4 * j) (nI a) σ) (XI b) := by
  unfold m_Want_startAt
  refine ev_bs (sI_k (wt_k h.1 hj)) ?_
  have h1 : XI b (pI σ 453 (b + 86 + 4 * j) (nI a)) := XI_cur h ha
  generalize pI σ 453 (b + 86 + 4 * j) (nI a) = σ1 at h1 ⊢
  refine ev_bs (sI_k (wt_k h1.1 hj)) ?_
  have h2 : XI b (pI σ1 454 (b + 86 + 4 * j) 0) := XI_o h1 (by decide) (by decide)
  generalize pI σ1 454 (b + 86 + 4 * j) 0 = σ2 at h2 ⊢
  refine ev_bs (wt_r h2.1 hj) ?_
  refine ev_bs (sI_k (row_k h2 (pr_w hj))) ?_
  have h3 : XI b (pI σ2 257 (b + 87 + 4 * j) 0) := by
    have := XI_len (r := b + 87 + 4 * j) (n := 0) h2 (by omega)
    rw [nI_0] at this
    exact this
  generalize pI σ2 257 (b + 87 + 4 * j) 0 = σ3 at h3 ⊢
  refine ev_bs (sI_k (wt_k h3.1 hj)) ?_
  exact ev_some (XI_o h3 (by decide) (by decide))
theorem x_fetchFrom {b j f : Nat} {σ : fr_S} (h : XI b σ) (hj : j < 10) (hf : f ≤ 6) : ev (m_FR_fetchFrom b (b + 86 + 4 * j) (nI f) σ) (XI b) := by
  have hs := h.1
  have hk := wt_k hs hj
  obtain ⟨⟨m, m6, hm, hpl⟩, -⟩ := xw8 h hj
  have key : ∀ (n f : Nat), f ≤ 6 → 6 - f < n → ev (m_FR_fetchFrom_L2 n b (b + 86 + 4 * j) (nI f) σ) (XI b) := by
    intro n
    induction n with
    | zero => intro f _ h; omega
    | succ n ih =>
      intro f hf hn
      unfold m_FR_fetchFrom_L2
      refine ev_bs ((oI_k hk).trans (congrArg some hm)) ?_
      refine ev_if (fun _ => ?_) (fun z => ?_)
      · refine ev_bs (sI_k hk) ?_
        exact ev_some (XI_o h (by decide) (by decide))
      · rw [nI_leI (by omega) (by omega)] at z
        obtain ⟨p, hp, hpe⟩ := hpl f (by omega)
        refine ev_bs (xp67 hs) ?_
        refine ev_bs (wt_p hs hj) ?_
        refine ev_bs ((oV_nI (hs.2.2.1 j hj).2.2.2.2.2 (by omega) (by decide)).trans (congrArg some hpe)) ?_
        refine ev_bs (xP hs hp) ?_
        refine ev_bs (oI_k (pl_k hs hp)) ?_
        refine ev_if (fun _ => ?_) (fun _ => ?_)
        · refine ev_bs (oK_k hk) ?_
          exact ev_b (x_startAt h hj (by omega)) (fun σ' h' => ev_some h')
        · rw [nI_1]
          exact ih (f + 1) (by omega) (by omega)
  unfold m_FR_fetchFrom
  exact key 1000 f hf (by omega)
theorem x_giveUp {b j : Nat} {σ : fr_S} (h : XI b σ) (hj : j < 10) : ev (m_FR_giveUp b (b + 86 + 4 * j) σ) (XI b) := by
  obtain ⟨-, a, a5, ha⟩ := xw8 h hj
  unfold m_FR_giveUp
  refine ev_bs ((oI_k (wt_k h.1 hj)).trans (congrArg some ha)) ?_
  refine ev_bs (xK h.1) ?_
  rw [nI_1]
  exact ev_b (x_fetchFrom h hj (by omega)) (fun σ' h' => ev_some h')
theorem x_falter {b j : Nat} {σ : fr_S} (h : XI b σ) (hj : j < 10) : ev (m_FR_falter b (b + 86 + 4 * j) σ) (XI b) := by
  have hk := wt_k h.1 hj
  unfold m_FR_falter
  refine ev_bs (oI_k hk) ?_
  refine ev_bs (xI h.1) ?_
  refine ev_if (fun _ => ?_) (fun _ => ?_)
  · refine ev_bs (xI h.1) ?_
    refine ev_bs (oI_k hk) ?_
    refine ev_bs (sI_k hk) ?_
    generalize gI σ 77 b + (1 <<< (gI σ 454 (b + 86 + 4 * j) &&& 31)) = v1
    have h1 : XI b (pI σ 455 (b + 86 + 4 * j) v1) := XI_o h (by decide) (by decide)
    generalize pI σ 455 (b + 86 + 4 * j) v1 = σ1 at h1 ⊢
    refine ev_bs (oI_k (wt_k h1.1 hj)) ?_
    refine ev_bs (sI_k (wt_k h1.1 hj)) ?_
    generalize gI σ1 454 (b + 86 + 4 * j) + 1 = v2
    have h2 : XI b (pI σ1 454 (b + 86 + 4 * j) v2) := XI_o h1 (by decide) (by decide)
    generalize pI σ1 454 (b + 86 + 4 * j) v2 = σ2 at h2 ⊢
    refine ev_bs (sI_k (wt_k h2.1 hj)) ?_
    exact ev_some (XI_o h2 (by decide) (by decide))
  · refine ev_bs (xK h.1) ?_
    exact ev_b (x_giveUp h hj) (fun σ' h' => ev_some h')
theorem xpl {b i : Nat} {σ : fr_S} (h : XI b σ) (hi : i < 16) : (∃ h, h < 8 ∧ gI σ 193 (b + 38 + 3 * i) = nI h) ∧ (gI σ 195 (b + 38 + 3 * i) = -1 ∨ ∃ j, j < 16 ∧ gI σ 195 (b + 38 + 3 * i) = nI j) := by
  obtain ⟨-, np, nw, nk, nt, nl, nf, x1, x2, x3, x4, x5, x6, x7, -⟩ := h
  exact x7 i hi
theorem x_countSent {b i : Nat} {σ : fr_S} (h : XI b σ) (hi : i < 16) (x : Int32) : ev (m_FR_countSent b (nI i) x σ) (fun σ' => XI b σ' ∧ ∀ f a, gI σ' f a = gI σ f a) := by
  have hs := h.1
  unfold m_FR_countSent
  refine ev_if (fun _ => ev_some ⟨h, fun _ _ => rfl⟩) (fun _ => ?_)
  obtain ⟨⟨g, hg, hge⟩, -⟩ := xpl h hi
  refine ev_bs (xp66 hs) ?_
  refine ev_bs (xp67 hs) ?_
  refine ev_bs (xP hs hi) ?_
  refine ev_bs ((oI_k (pl_k hs hi)).trans (congrArg some hge)) ?_
  refine ev_bs (oV_nI (n := 8) hs.1.2.2.1.2 hg (by decide)) ?_
  refine ev_bs (sV_nI (n := 8) hs.1.2.2.1.2 hg (by decide)) ?_
  exact ev_some ⟨XI_oA h (by omega), fun _ _ => rfl⟩
theorem x_leads {b i : Nat} {σ : fr_S} (h : XI b σ) (hi : i < 16) : ev (m_Place_leadsOn (b + 38 + 3 * i) σ) (fun r => r = 0 ∨ ∃ j, j < 16 ∧ gI σ 195 (b + 38 + 3 * i) = nI j) := by
  have hk := pl_k h.1 hi
  obtain ⟨-, hl⟩ := xpl h hi
  unfold m_Place_leadsOn
  refine ev_bs (oI_k hk) ?_
  refine ev_if (fun _ => ?_) (fun _ => ev_some (Or.inl rfl))
  refine ev_bs (oI_k hk) ?_
  refine ev_if (fun _ => ev_some (Or.inl rfl)) (fun z => ev_some (Or.inr ?_))
  rcases hl with hl | hl
  · exact absurd hl z
  · exact hl
theorem x_gives {b i : Nat} {σ : fr_S} (h : XI b σ) (hi : i < 16) (x : Int32) : ev (m_Place_gives (b + 38 + 3 * i) x σ) (fun _ => True) := by
  have hk := pl_k h.1 hi
  unfold m_Place_gives
  refine ev_bs (oI_k hk) ?_
  refine ev_if (fun _ => ?_) (fun _ => ev_some trivial)
  refine ev_bs (oI_k hk) ?_
  refine ev_if (fun _ => ?_) (fun _ => ev_some trivial)
  refine ev_if (fun _ => ?_) (fun _ => ev_some trivial)
  refine ev_bs (oI_k hk) ?_
  exact ev_if (fun _ => ev_some trivial) (fun _ => ev_some trivial)
theorem x_ask_L {b : Nat} : ∀ (n k i : Nat) (y3 : Int32) (σ : fr_S), XI b σ → i < 16 → k ≤ 3 → 3 - k < n → ev (m_FR_ask_L36 n b (nI i) y3 (nI k) σ) (fun q => XI b q.2 ∧ (q.1 = -1 ∨ ∃ j, j < 16 ∧ q.1 = nI j)) := by
  intro n
  induction n with
  | zero => intro k i y3 σ _ _ _ h; omega
  | succ n ih =>
    intro k i y3 σ h hi hk hn
    have hs := h.1
    unfold m_FR_ask_L36
    have fin : ev ((oP σ 1 67 b).bind fun q12 => (oQ σ 2 q12 (nI i)).bind fun q13 => (oK σ 3 q13).bind fun _ => (m_Place_gives q13 y3 σ).bind fun r15 => if r15 = 0 then some ((-1 : Int32), σ) else some (nI i, σ)) (fun q => XI b q.2 ∧ (q.1 = -1 ∨ ∃ j, j < 16 ∧ q.1 = nI j)) := by
      refine ev_bs (xp67 hs) ?_
      refine ev_bs (xP hs hi) ?_
      refine ev_bs (oK_k (pl_k hs hi)) ?_
      refine ev_b (x_gives h hi y3) (fun r _ => ?_)
      exact ev_if (fun _ => ev_some ⟨h, Or.inl rfl⟩) (fun _ => ev_some ⟨h, Or.inr ⟨i, hi, rfl⟩⟩)
    refine ev_if (fun _ => fin) (fun z => ?_)
    have hk3 : k < 3 := by
      rw [← nI_v3, nI_leI (by omega) (by omega)] at z
      omega
    refine ev_bs (xp67 hs) ?_
    refine ev_bs (xP hs hi) ?_
    refine ev_bs (oK_k (pl_k hs hi)) ?_
    refine ev_b (x_leads h hi) (fun r hr => ?_)
    refine ev_if (fun _ => fin) (fun h0 => ?_)
    rcases hr with hr | ⟨j, hj, hje⟩
    · exact absurd hr h0
    refine ev_bs (xp67 hs) ?_
    refine ev_bs (xP hs hi) ?_
    refine ev_bs ((oI_k (pl_k hs hi)).trans (congrArg some hje)) ?_
    have go : ∀ y : Int32, ev ((oK σ 1 b).bind fun _ => (m_FR_countSent b (nI j) y σ).bind fun σ_32 => m_FR_ask_L36 n b (nI j) y (nI k + 1) σ_32) (fun q => XI b q.2 ∧ (q.1 = -1 ∨ ∃ j, j < 16 ∧ q.1 = nI j)) := by
      intro y
      refine ev_bs (xK hs) ?_
      refine ev_b (x_countSent h hj y) (fun σ' h' => ?_)
      rw [nI_1]
      exact ih (k + 1) j y σ' h'.1 hj (by omega) (by omega)
    refine ev_if (fun _ => go 0) (fun _ => ?_)
    refine ev_bs (xp67 hs) ?_
    refine ev_bs (xP hs hj) ?_
    refine ev_bs (oI_k (pl_k hs hj)) ?_
    refine ev_bs (xp67 hs) ?_
    refine ev_bs (xP hs hi) ?_
    refine ev_bs (oI_k (pl_k hs hi)) ?_
    exact ev_if (fun _ => go 1) (fun _ => go 0)
theorem x_ask {b : Nat} {σ : fr_S} (h : XI b σ) (x : Int32) : ev (m_FR_ask b x σ) (fun q => XI b q.2 ∧ (q.1 = -1 ∨ ∃ j, j < 16 ∧ q.1 = nI j)) := by
  obtain ⟨np, hn⟩ := xnp h
  have hs := h.1
  unfold m_FR_ask
  refine ev_bs (xK hs) ?_
  refine ev_b (x_isPlace hs hn x) (fun r hr => ?_)
  refine ev_if (fun _ => ev_some ⟨h, Or.inl rfl⟩) (fun h0 => ?_)
  rcases hr with hr | ⟨-, i, hi, rfl⟩
  · exact absurd hr h0
  have hi16 : i < 16 := by omega
  obtain ⟨⟨g, hg, hge⟩, -⟩ := xpl h hi16
  refine ev_bs (xp65 hs) ?_
  refine ev_bs (xp67 hs) ?_
  refine ev_bs (xP hs hi16) ?_
  refine ev_bs ((oI_k (pl_k hs hi16)).trans (congrArg some hge)) ?_
  refine ev_bs (oV_nI (n := 8) hs.1.2.1.2 hg (by decide)) ?_
  refine ev_bs (xK hs) ?_
  refine ev_b (x_countSent h hi16 _) (fun σ' h' => ?_)
  have key := x_ask_L 1000 0 i (gV σ (b + 1) g) σ' h'.1 hi16 (by omega) (by omega)
  rw [nI_0] at key
  exact key
theorem x_givenByte {b i k n : Nat} {σ : fr_S} (h : XI b σ) (hi : i < 16) (hl : gI σ 257 (b + 39 + 3 * i) = nI n) (hn : n ≤ 100) (hk : k < n) : ev (m_Place_givenByte (b + 38 + 3 * i) (nI k) σ) (fun x => ∃ y, y < 256 ∧ x = nI y) := by
  have hs := h.1
  have hr := row_k h (pr_p hi)
  unfold m_Place_givenByte
  have pl : ev ((oP σ 3 192 (b + 38 + 3 * i)).bind fun q2 => (oK σ 4 q2).bind fun _ => (m_Row_at q2 (nI k) σ).bind fun r4 => some r4) (fun x => ∃ y, y < 256 ∧ x = nI y) := by
    refine ev_bs (pl_r hs hi) ?_
    refine ev_bs (oK_k hr) ?_
    exact ev_b (x_at_in h (pr_p hi) hl hn hk) (fun r hr => ev_some hr)
  refine ev_if (fun _ => ?_) (fun _ => pl)
  refine ev_bs (oI_k (pl_k hs hi)) ?_
  refine ev_if (fun _ => pl) (fun _ => ?_)
  refine ev_bs (pl_r hs hi) ?_
  refine ev_bs (oK_k hr) ?_
  refine ev_b (x_at_in h (pr_p hi) hl hn hk) (fun r hr => ?_)
  obtain ⟨y, hy, rfl⟩ := hr
  exact ev_some (xor1 hy)
theorem x_giveTo_L {b i j p : Nat} (hi : i < 16) (hj : j < 10) (hp : p ≤ 100) (y2 y4 : Int32) (h2 : y2 = 0 ∨ y2 = 1) (h4 : y4 ≤ nI p) : ∀ (n k : Nat) (σ : fr_S), XI b σ → gI σ 257 (b + 39 + 3 * i) = nI p → k ≤ 100 → 100 - k < n → ev (m_Place_giveTo_L65 n (b + 38 + 3 * i) (b + 87 + 4 * j) y2 y4 (nI k) σ) (fun q => XI b q.2) := by
  intro n
  induction n with
  | zero => intro k σ _ _ _ h; omega
  | succ n ih =>
    intro k σ h hl hk hn
    unfold m_Place_giveTo_L65
    refine ev_if (fun _ => ?_) (fun z => ?_)
    · exact ev_bs (show oZ y2 = some () from if_pos h2) (ev_some h)
    · have hkp : k < p := by
        have z2 : ¬ nI p ≤ nI k := fun q => z (Int32.le_trans h4 q)
        rw [nI_leI (by omega) (by omega)] at z2
        omega
      refine ev_bs (oK_k (pl_k h.1 hi)) ?_
      refine ev_b (x_givenByte h hi hl hp hkp) (fun r hr => ?_)
      obtain ⟨y, hy, rfl⟩ := hr
      refine ev_bs (oK_k (row_k h (pr_w hj))) ?_
      refine ev_b (x_append h (pr_w hj) hy) (fun σ' h' => ?_)
      rw [nI_1]
      exact ih (k + 1) σ' h'.1 ((h'.2.1 _ (by omega)).trans hl) (by omega) (by omega)
theorem min_le_r (a c : Int32) : (if a < c then a else c) ≤ c := by
  by_cases e : a < c
  · rw [if_pos e]
    exact Int32.le_of_lt e
  · rw [if_neg e]
    exact Int32.le_refl c
theorem x_giveTo {b i j : Nat} {σ : fr_S} (h : XI b σ) (hi : i < 16) (hj : j < 10) : ev (m_Place_giveTo (b + 38 + 3 * i) (b + 87 + 4 * j) σ) (fun q => XI b q.2) := by
  have hs := h.1
  have hk := pl_k hs hi
  obtain ⟨p, hp, hpl⟩ := (XI_row h (pr_p hi)).2.1
  obtain ⟨r, hr, hrl⟩ := (XI_row h (pr_w hj)).2.1
  unfold m_Place_giveTo
  refine ev_bs (oI_k hk) ?_
  refine ev_if (fun _ => ?_) (fun _ => ?_)
  · refine ev_bs (oI_k hk) ?_
    refine ev_bs (pl_r hs hi) ?_
    refine ev_bs ((oI_k (row_k h (pr_p hi))).trans (congrArg some hpl)) ?_
    refine ev_bs ((oI_k (row_k h (pr_w hj))).trans (congrArg some hrl)) ?_
    refine ev_bs ((oI_k (row_k h (pr_w hj))).trans (congrArg some hrl)) ?_
    exact x_giveTo_L hi hj hp _ _ (Or.inl rfl) (min_le_r _ _) 1000 r σ h hpl hr (by omega)
  · refine ev_bs (oI_k hk) ?_
    refine ev_bs (oI_k hk) ?_
    refine ev_bs (sI_k hk) ?_
    generalize gI σ 196 (b + 38 + 3 * i) - 1 = v1
    have h1 : XI b (pI σ 196 (b + 38 + 3 * i) v1) := XI_o h (by decide) (by decide)
    have hpl1 : gI (pI σ 196 (b + 38 + 3 * i) v1) 257 (b + 39 + 3 * i) = nI p := by rw [gI_pIf (by decide)]; exact hpl
    have hrl1 : gI (pI σ 196 (b + 38 + 3 * i) v1) 257 (b + 87 + 4 * j) = nI r := by rw [gI_pIf (by decide)]; exact hrl
    generalize pI σ 196 (b + 38 + 3 * i) v1 = σ1 at h1 hpl1 hrl1 ⊢
    refine ev_bs (oI_k (pl_k h1.1 hi)) ?_
    refine ev_bs (pl_r h1.1 hi) ?_
    refine ev_bs ((oI_k (row_k h1 (pr_p hi))).trans (congrArg some hpl1)) ?_
    refine ev_bs ((oI_k (row_k h1 (pr_w hj))).trans (congrArg some hrl1)) ?_
    refine ev_bs ((oI_k (row_k h1 (pr_w hj))).trans (congrArg some hrl1)) ?_
    exact x_giveTo_L hi hj hp _ _ (Or.inr rfl) (min_le_r _ _) 1000 r σ1 h1 hpl1 hr (by omega)
theorem x_check {b j : Nat} {σ : fr_S} (h : XI b σ) (hj : j < 10) : ev (m_FR_checkDigest b (nI j) σ) (XI b) := by
  have hs := h.1
  have hk := wt_k hs hj
  unfold m_FR_checkDigest
  refine ev_bs (xp69 hs) ?_
  refine ev_bs (xW hs hj) ?_
  refine ev_bs (wt_r hs hj) ?_
  refine ev_bs (oK_k (row_k h (pr_w hj))) ?_
  refine ev_b (x_digest h (pr_w hj)) (fun d _ => ?_)
  refine ev_bs (oI_k hk) ?_
  refine ev_if (fun _ => ?_) (fun _ => ?_)
  · refine ev_bs (sI_k hk) ?_
    have h1 : XI b (pI σ 452 (b + 86 + 4 * j) 3) := XI_o h (by decide) (by decide)
    generalize pI σ 452 (b + 86 + 4 * j) 3 = σ1 at h1 ⊢
    refine ev_bs (xp71 h1.1) ?_
    refine ev_bs (wt_r h1.1 hj) ?_
    refine ev_bs (oK_k h1.1.1.2.2.2.2.2.1.2.1) ?_
    exact ev_b (x_keep h1 (pr_w hj) d) (fun σ' h' => ev_some h')
  · refine ev_bs (oK_k hk) ?_
    refine ev_b (x_cur h hj) (fun c hc => ?_)
    refine ev_bs (xK hs) ?_
    obtain ⟨np, hn⟩ := xnp h
    refine ev_b (x_isPlace hs hn c) (fun r hr => ?_)
    refine ev_if (fun _ => ?_) (fun h0 => ?_)
    · refine ev_bs (xK hs) ?_
      exact ev_b (x_giveUp h hj) (fun σ' h' => ev_some h')
    · rcases hr with hr | ⟨-, i, hi, rfl⟩
      · exact absurd hr h0
      refine ev_bs (xp67 hs) ?_
      refine ev_bs (xP hs (by omega)) ?_
      refine ev_bs (sZ_k (pl_k hs (by omega)) (Or.inr rfl)) ?_
      have h1 : XI b (pI σ 201 (b + 38 + 3 * i) 1) := XI_o h (by decide) (by decide)
      generalize pI σ 201 (b + 38 + 3 * i) 1 = σ1 at h1 ⊢
      refine ev_bs (xp72 h1.1) ?_
      refine ev_bs (oK_k h1.1.1.2.2.2.2.2.2.1.2.1) ?_
      refine ev_b (x_tell h1 _ _ _) (fun σ2 h2 => ?_)
      refine ev_bs (xK h2.1) ?_
      exact ev_b (x_giveUp h2 hj) (fun σ' h' => ev_some h')
theorem x_turn {b j : Nat} {σ : fr_S} (h : XI b σ) (hj : j < 10) : ev (m_FR_takeTurn b (nI j) σ) (XI b) := by
  have hs := h.1
  have hk := wt_k hs hj
  unfold m_FR_takeTurn
  refine ev_bs (xp69 hs) ?_
  refine ev_bs (xW hs hj) ?_
  refine ev_bs (oI_k hk) ?_
  refine ev_bs (sI_k hk) ?_
  generalize gI σ 456 (b + 86 + 4 * j) + 1 = v1
  have h1 : XI b (pI σ 456 (b + 86 + 4 * j) v1) := XI_o h (by decide) (by decide)
  generalize pI σ 456 (b + 86 + 4 * j) v1 = σ1 at h1 ⊢
  refine ev_bs (oK_k (wt_k h1.1 hj)) ?_
  refine ev_b (x_cur h1 hj) (fun c _ => ?_)
  refine ev_bs (xK h1.1) ?_
  refine ev_b (x_ask h1 c) (fun q hq => ?_)
  obtain ⟨g, σ2⟩ := q
  obtain ⟨h2, hg⟩ := hq
  have h2 : XI b σ2 := h2
  have hg : g = -1 ∨ ∃ j, j < 16 ∧ g = nI j := hg
  refine ev_if (fun _ => ?_) (fun hne => ?_)
  · refine ev_bs (xK h2.1) ?_
    exact ev_b (x_giveUp h2 hj) (fun σ' h' => ev_some h')
  · rcases hg with hg | ⟨i, hi, rfl⟩
    · exact absurd hg hne
    refine ev_bs (xp67 h2.1) ?_
    refine ev_bs (xP h2.1 hi) ?_
    refine ev_bs (wt_r h2.1 hj) ?_
    refine ev_bs (oK_k (pl_k h2.1 hi)) ?_
    refine ev_b (x_giveTo h2 hi hj) (fun q hq => ?_)
    obtain ⟨cu, σ3⟩ := q
    have h3 : XI b σ3 := hq
    refine ev_bs (wt_r h3.1 hj) ?_
    refine ev_bs (oI_k (row_k h3 (pr_w hj))) ?_
    refine ev_bs (pl_r h3.1 hi) ?_
    refine ev_bs (oI_k (row_k h3 (pr_p hi))) ?_
    refine ev_if (fun _ => ?_) (fun _ => ?_)
    · refine ev_if (fun _ => ev_some h3) (fun _ => ?_)
      refine ev_bs (xK h3.1) ?_
      exact ev_b (x_falter h3 hj) (fun σ' h' => ev_some h')
    · refine ev_bs (xK h3.1) ?_
      exact ev_b (x_check h3 hj) (fun σ' h' => ev_some h')
theorem x_move_L {b : Nat} : ∀ (n k : Nat) (σ : fr_S), XI b σ → k ≤ 10 → 10 - k < n → ev (m_FR_moveClock_L12 n b (nI k) σ) (XI b) := by
  intro n
  induction n with
  | zero => intro k σ _ _ h; omega
  | succ n ih =>
    intro k σ h hk hn
    obtain ⟨nw, hw⟩ := xnw h
    have hs := h.1
    unfold m_FR_moveClock_L12
    refine ev_bs ((xI hs).trans (congrArg some hw.2)) ?_
    refine ev_if (fun _ => ev_some h) (fun z => ?_)
    rw [nI_leI (by omega) (by omega)] at z
    have hk10 : k < 10 := by omega
    have hkk := wt_k hs hk10
    have go : ∀ σ' : fr_S, XI b σ' → ev ((oI σ' 7 452 (b + 86 + 4 * k)).bind fun v9 => if v9 = 1 then (oK σ' 1 b).bind fun _ => (m_FR_takeTurn b (nI k) σ').bind fun σ_12 => m_FR_moveClock_L12 n b (nI k + 1) σ_12 else m_FR_moveClock_L12 n b (nI k + 1) σ') (XI b) := by
      intro σ' h'
      refine ev_bs (oI_k (wt_k h'.1 hk10)) ?_
      refine ev_if (fun _ => ?_) (fun _ => ?_)
      · refine ev_bs (xK h'.1) ?_
        refine ev_b (x_turn h' hk10) (fun σ2 h2 => ?_)
        rw [nI_1]
        exact ih (k + 1) σ2 h2 (by omega) (by omega)
      · rw [nI_1]
        exact ih (k + 1) σ' h' (by omega) (by omega)
    refine ev_bs (xp69 hs) ?_
    refine ev_bs (xW hs hk10) ?_
    refine ev_bs (oI_k hkk) ?_
    refine ev_if (fun _ => ?_) (fun _ => go σ h)
    refine ev_bs (oI_k hkk) ?_
    refine ev_bs (xI hs) ?_
    refine ev_if (fun _ => go σ h) (fun _ => ?_)
    refine ev_bs (sI_k hkk) ?_
    exact go _ (XI_o h (by decide) (by decide))
theorem x_move {b : Nat} {σ : fr_S} (h : XI b σ) : ev (m_FR_moveClock b σ) (XI b) := by
  unfold m_FR_moveClock
  refine ev_bs (xI h.1) ?_
  refine ev_bs (sI_k h.1.1.1) ?_
  have key := x_move_L 1000 0 (pI σ 77 b (gI σ 77 b + 1)) (XI_o h (by decide) (by decide)) (by omega) (by omega)
  rw [nI_0] at key
  exact key
theorem x_busy {b : Nat} {σ : fr_S} (h : XI b σ) : ev (m_FR_countBusy b σ) (fun _ => True) := by
  obtain ⟨nw, hw⟩ := xnw h
  have hs := h.1
  have key : ∀ (n k : Nat) (y : Int32), k ≤ 10 → 10 - k < n → ev (m_FR_countBusy_L4 n b y (nI k) σ) (fun _ => True) := by
    intro n
    induction n with
    | zero => intro k y _ h; omega
    | succ n ih =>
      intro k y hk hn
      unfold m_FR_countBusy_L4
      refine ev_bs ((xI hs).trans (congrArg some hw.2)) ?_
      refine ev_if (fun _ => ev_some trivial) (fun z => ?_)
      rw [nI_leI (by omega) (by omega)] at z
      refine ev_bs (xp69 hs) ?_
      refine ev_bs (xW hs (by omega)) ?_
      refine ev_bs (oK_k (wt_k hs (by omega))) ?_
      refine ev_b (x_isBusy hs (by omega)) (fun r _ => ?_)
      rw [nI_1]
      exact ev_if (fun _ => ih (k + 1) _ (by omega) (by omega)) (fun _ => ih (k + 1) _ (by omega) (by omega))
  unfold m_FR_countBusy
  have k0 := key 1000 0 0 (by omega) (by omega)
  rw [nI_0] at k0
  exact k0
theorem x_tick_L {b q : Nat} (hq : q ≤ 50) : ∀ (n k : Nat) (σ : fr_S), XI b σ → k ≤ q → q - k < n → ev (m_FR_tick_L14 n b (nI q) (nI k) σ) (fun z => XI b z.2) := by
  intro n
  induction n with
  | zero => intro k σ _ _ h; omega
  | succ n ih =>
    intro k σ h hk hn
    unfold m_FR_tick_L14
    refine ev_if (fun _ => ?_) (fun z => ?_)
    · refine ev_bs (xK h.1) ?_
      exact ev_b (x_busy h) (fun _ _ => ev_some h)
    · rw [nI_leI (by omega) (by omega)] at z
      refine ev_bs (xK h.1) ?_
      refine ev_b (x_move h) (fun σ' h' => ?_)
      rw [nI_1]
      exact ih (k + 1) σ' h' (by omega) (by omega)
theorem x_tick {b : Nat} {σ : fr_S} (h : XI b σ) (x : Int32) : ev (m_FR_tick b x σ) (fun z => XI b z.2) := by
  unfold m_FR_tick
  refine ev_if (fun _ => ev_some h) (fun h0 => ?_)
  refine ev_if (fun h1 => ?_) (fun _ => ev_some h)
  obtain ⟨q, -, hq, rfl⟩ := nI_rng (x := x) (lo := 0) (hi := 50) (by rw [nI_0]; exact h0) (by rw [← nI_lit50]; exact h1) (by decide) (by decide)
  have key := x_tick_L hq 1000 0 σ h (by omega) (by omega)
  rw [nI_0] at key
  exact key
theorem x_begin {b : Nat} {σ : fr_S} (h : XI b σ) (x : Int32) : ev (m_FR_begin b x σ) (fun z => XI b z.2) := by
  obtain ⟨hs, np, nw, nk, nt, nl, nf, y1, hw, y3, -⟩ := id h
  unfold m_FR_begin
  refine ev_bs (xK hs) ?_
  refine ev_b (x_isWant hs hw x) (fun r hr => ?_)
  refine ev_if (fun _ => ev_some h) (fun h0 => ?_)
  rcases hr with hr | ⟨-, j, hj, rfl⟩
  · exact absurd hr h0
  have hj10 : j < 10 := by omega
  have hk := wt_k hs hj10
  refine ev_bs (xp69 hs) ?_
  refine ev_bs (xW hs hj10) ?_
  refine ev_bs (oK_k hk) ?_
  refine ev_b (x_isBusy hs hj10) (fun r _ => ?_)
  refine ev_if (fun _ => ?_) (fun _ => ev_some h)
  refine ev_bs (xp69 hs) ?_
  refine ev_bs (xW hs hj10) ?_
  refine ev_bs (xp71 hs) ?_
  refine ev_bs (oI_k hk) ?_
  have hT := hs.1.2.2.2.2.2.1
  refine ev_bs (oK_k hT.2.1) ?_
  refine ev_b (x_find hs y3 _) (fun r hr => ?_)
  refine ev_if (fun _ => ?_) (fun hne => ?_)
  · refine ev_bs (xI hs) ?_
    refine ev_if (fun _ => ?_) (fun _ => ?_)
    · refine ev_bs (xK hs) ?_
      have key := x_fetchFrom (f := 0) h hj10 (by omega)
      rw [nI_0] at key
      refine ev_b key (fun σ' h' => ?_)
      exact ev_bs (oI_k (wt_k h'.1 hj10)) (ev_some h')
    · refine ev_bs (sI_k hk) ?_
      have h1 : XI b (pI σ 452 (b + 86 + 4 * j) 4) := XI_o h (by decide) (by decide)
      generalize pI σ 452 (b + 86 + 4 * j) 4 = σ1 at h1 ⊢
      refine ev_bs (xK h1.1) ?_
      refine ev_b (x_note h1 _) (fun σ' h' => ?_)
      exact ev_bs (oI_k (wt_k h'.1.1 hj10)) (ev_some h'.1)
  · rcases hr with hr | ⟨k, hkk, rfl⟩
    · exact absurd hr hne
    have hk10 : k < 10 := by omega
    refine ev_bs (wt_r hs hj10) ?_
    refine ev_bs (xp71 hs) ?_
    refine ev_bs (oP_g hT.2.1 hT.2.2.2.2.1) ?_
    refine ev_bs (oQ_nI (n := 10) hT.2.2.2.2.2 hk10 (by decide) (hs.2.2.2 k hk10).1) ?_
    refine ev_bs (oK_k (row_k h (pr_w hj10))) ?_
    refine ev_b (x_copy h (pr_w hj10) (pr_k hk10)) (fun σ' h' => ?_)
    refine ev_bs (sI_k (wt_k h'.1.1 hj10)) ?_
    have h2 : XI b (pI σ' 452 (b + 86 + 4 * j) 3) := XI_o h'.1 (by decide) (by decide)
    exact ev_bs (oI_k (wt_k h2.1 hj10)) (ev_some h2)
