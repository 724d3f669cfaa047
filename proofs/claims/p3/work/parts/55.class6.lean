theorem x_at_b {b r v : Nat} {σ : fr_S} (h : XI b σ) (hp : pr b r v) (i : Int32) (e : Nat) : ev (m_Row_at r i σ) (fun x => ∃ y, e ≤ y ∧ y ≤ e + 256 ∧ (nI e + 1) + x = nI y) := by
  refine ev_mono (x_at h hp i) (fun x hx => ?_)
  rw [nI_1]
  rcases hx with rfl | ⟨y, hy, rfl⟩
  · exact ⟨e, by omega, by omega, by rw [nI_r (by omega)]; rfl⟩
  · exact ⟨e + 1 + y, by omega, by omega, nI_add _ _⟩
theorem x_pathEnd {b r v e : Nat} {σ : fr_S} (h : XI b σ) (hp : pr b r v) : ev (m_Archive_pathEnd r (nI e) σ) (fun x => ∃ y, e ≤ y ∧ y ≤ e + 256 ∧ x = nI y) := by
  unfold m_Archive_pathEnd
  refine ev_bs (oK_k (row_k h hp)) ?_
  exact ev_b (x_at_b h hp (nI e) e) (fun x hx => ev_some hx)
theorem x_entryEnd {b r v e : Nat} {σ : fr_S} (h : XI b σ) (hp : pr b r v) : ev (m_Archive_entryEnd r (nI e) σ) (fun x => ∃ y, y ≤ e + 512 ∧ x = nI y) := by
  unfold m_Archive_entryEnd
  refine ev_b (x_pathEnd h hp) (fun x hx => ?_)
  obtain ⟨y, -, hy, rfl⟩ := hx
  refine ev_bs (oK_k (row_k h hp)) ?_
  refine ev_b (x_at_b h hp (nI y) y) (fun x hx => ?_)
  obtain ⟨z, -, hz, hze⟩ := hx
  exact ev_some ⟨z, by omega, hze⟩
theorem x_seg {b r v : Nat} {σ : fr_S} (h : XI b σ) (hp : pr b r v) (x1 x2 : Int32) : ev (m_Archive_isRightSegment r x1 x2 σ) (fun q => q = 0 ∨ q = 1) := by
  unfold m_Archive_isRightSegment
  refine ev_if (fun _ => ?_) (fun _ => ev_some (Or.inl rfl))
  refine ev_if (fun _ => ev_some (Or.inr rfl)) (fun _ => ?_)
  refine ev_bs (oK_k (row_k h hp)) ?_
  refine ev_b (x_at h hp x1) (fun _ _ => ?_)
  refine ev_if (fun _ => ?_) (fun _ => ev_some (Or.inr rfl))
  refine ev_bs (oK_k (row_k h hp)) ?_
  refine ev_b (x_at h hp _) (fun _ _ => ?_)
  exact ev_if (fun _ => ev_some (Or.inl rfl)) (fun _ => ev_some (Or.inr rfl))
theorem x_char (x : Int32) (σ : fr_S) : ev (m_Archive_isPathCharacter x σ) (fun _ => True) := by
  unfold m_Archive_isPathCharacter
  have e1 : ev (if x = 46 then some (1 : Int32) else some 0) (fun _ => True) := ev_if (fun _ => ev_some trivial) (fun _ => ev_some trivial)
  have e2 : ev (if x ≤ 57 then some (1 : Int32) else if x = 46 then some 1 else some 0) (fun _ => True) := ev_if (fun _ => ev_some trivial) (fun _ => e1)
  have e3 : ev (if x < 48 then if x = 46 then some (1 : Int32) else some 0 else if x ≤ 57 then some 1 else if x = 46 then some 1 else some 0) (fun _ => True) := ev_if (fun _ => e1) (fun _ => e2)
  exact ev_if (fun _ => e3) (fun _ => ev_if (fun _ => ev_some trivial) (fun _ => e3))
theorem x_rightPath_L {b r v t : Nat} {σ : fr_S} (h : XI b σ) (hp : pr b r v) (ht : t ≤ 700) : ∀ (n k : Nat) (y3 : Int32), k ≤ 701 → 701 - k < n → ev (m_Archive_isRightPath_L5 n r (nI t) y3 (nI k) σ) (fun _ => True) := by
  intro n
  induction n with
  | zero => intro k y3 _ h; omega
  | succ n ih =>
    intro k y3 hk hn
    unfold m_Archive_isRightPath_L5
    refine ev_if (fun _ => ?_) (fun z => ?_)
    · refine ev_b (x_seg h hp _ _) (fun q hq => ?_)
      exact ev_bs (show oZ q = some () from if_pos hq) (ev_some trivial)
    · rw [nI_leI (by omega) (by omega)] at z
      refine ev_bs (oK_k (row_k h hp)) ?_
      refine ev_b (x_at h hp _) (fun _ _ => ?_)
      rw [nI_1]
      refine ev_if (fun _ => ?_) (fun _ => ?_)
      · refine ev_b (x_seg h hp _ _) (fun q hq => ?_)
        exact ev_if (fun _ => ev_some trivial) (fun _ => ih (k + 1) _ (by omega) (by omega))
      · refine ev_b (x_char _ σ) (fun q hq => ?_)
        exact ev_if (fun _ => ev_some trivial) (fun _ => ih (k + 1) _ (by omega) (by omega))
theorem x_illE {b r v e : Nat} {σ : fr_S} (h : XI b σ) (hp : pr b r v) (he : e ≤ 100) : ev (m_Archive_findIllOfEntry r (nI e) σ) (fun _ => True) := by
  have hk := row_k h hp
  unfold m_Archive_findIllOfEntry
  refine ev_bs (oK_k hk) ?_
  refine ev_b (x_at h hp _) (fun _ _ => ?_)
  refine ev_if (fun _ => ev_some trivial) (fun _ => ?_)
  refine ev_if (fun _ => ?_) (fun _ => ev_some trivial)
  refine ev_b (x_pathEnd h hp) (fun _ _ => ?_)
  refine ev_bs (oI_k hk) ?_
  refine ev_if (fun _ => ?_) (fun _ => ev_bs (oI_k hk) (ev_some trivial))
  refine ev_b (x_pathEnd h hp) (fun x hx => ?_)
  obtain ⟨t, -, ht, rfl⟩ := hx
  rw [nI_1]
  unfold m_Archive_isRightPath
  refine ev_b (x_rightPath_L h hp (by omega) 1000 (e + 1) _ (by omega) (by omega)) (fun _ _ => ?_)
  refine ev_if (fun _ => ev_some trivial) (fun _ => ?_)
  refine ev_b (x_entryEnd h hp) (fun _ _ => ?_)
  refine ev_bs (oI_k hk) ?_
  exact ev_if (fun _ => ev_some trivial) (fun _ => ev_bs (oI_k hk) (ev_some trivial))
theorem x_ill {b r v : Nat} {σ : fr_S} (h : XI b σ) (hp : pr b r v) : ev (m_Archive_findIll r σ) (fun _ => True) := by
  have hk := row_k h hp
  obtain ⟨m, hm, hml⟩ := (XI_row h hp).2.1
  have key : ∀ (n e k : Nat), e ≤ 700 → k ≤ 100 → 100 - k < n → ev (m_Archive_findIll_L4 n r (nI e) (nI k) σ) (fun _ => True) := by
    intro n
    induction n with
    | zero => intro e k _ _ h; omega
    | succ n ih =>
      intro e k he hk2 hn
      unfold m_Archive_findIll_L4
      refine ev_if (fun _ => ev_some trivial) (fun z1 => ?_)
      rw [nI_lit100, nI_leI (by omega) (by omega)] at z1
      refine ev_bs ((oI_k hk).trans (congrArg some hml)) ?_
      refine ev_if (fun _ => ev_some trivial) (fun z2 => ?_)
      rw [nI_leI (by omega) (by omega)] at z2
      refine ev_b (x_illE h hp (by omega)) (fun _ _ => ?_)
      refine ev_if (fun _ => ?_) (fun _ => ev_some trivial)
      refine ev_b (x_entryEnd h hp) (fun x hx => ?_)
      obtain ⟨e2, he2, rfl⟩ := hx
      rw [nI_1]
      exact ih e2 (k + 1) (by omega) (by omega) (by omega)
  unfold m_Archive_findIll
  have k0 := key 1000 0 0 (by omega) (by omega) (by omega)
  rw [nI_0] at k0
  exact k0
theorem x_strip {b r v t s : Nat} {σ : fr_S} (h : XI b σ) (hp : pr b r v) (ht : t ≤ 700) (hs : s ≤ 700) (x3 : Int32) : ev (m_Archive_strippedStart r (nI s) (nI t) x3 σ) (fun x => ∃ y, y ≤ 701 ∧ x = nI y) := by
  have key : ∀ (n k g : Nat) (y5 : Int32), k ≤ 701 → g ≤ 701 → 701 - k < n → ev (m_Archive_strippedStart_L9 n r (nI t) (nI g) y5 (nI k) σ) (fun x => ∃ y, y ≤ 701 ∧ x = nI y) := by
    intro n
    induction n with
    | zero => intro k g y5 _ _ h; omega
    | succ n ih =>
      intro k g y5 hk hg hn
      unfold m_Archive_strippedStart_L9
      have fin : ev (if y5 ≤ 0 then some (nI g) else some (nI t)) (fun x => ∃ y, y ≤ 701 ∧ x = nI y) := ev_if (fun _ => ev_some ⟨g, by omega, rfl⟩) (fun _ => ev_some ⟨t, by omega, rfl⟩)
      refine ev_if (fun _ => fin) (fun z => ?_)
      rw [nI_leI (by omega) (by omega)] at z
      refine ev_if (fun _ => fin) (fun _ => ?_)
      refine ev_bs (oK_k (row_k h hp)) ?_
      refine ev_b (x_at h hp _) (fun _ _ => ?_)
      rw [nI_1]
      exact ev_if (fun _ => ih (k + 1) (k + 1) _ (by omega) (by omega) (by omega)) (fun _ => ih (k + 1) g _ (by omega) (by omega) (by omega))
  unfold m_Archive_strippedStart
  exact key 1000 s s x3 (by omega) (by omega) (by omega)
theorem x_same {b r v c : Nat} {σ : fr_S} (h : XI b σ) (hp : pr b r v) (hc : c ≤ 701) (x1 x2 : Int32) : ev (m_Row_hasSame r x1 x2 (nI c) σ) (fun _ => True) := by
  have key : ∀ (n k : Nat), k ≤ 701 → 701 - k < n → ev (m_Row_hasSame_L3 n r x1 x2 (nI c) (nI k) σ) (fun _ => True) := by
    intro n
    induction n with
    | zero => intro k _ h; omega
    | succ n ih =>
      intro k hk hn
      unfold m_Row_hasSame_L3
      refine ev_if (fun _ => ev_some trivial) (fun z => ?_)
      rw [nI_leI (by omega) (by omega)] at z
      refine ev_bs (oK_k (row_k h hp)) ?_
      refine ev_b (x_at h hp _) (fun _ _ => ?_)
      refine ev_bs (oK_k (row_k h hp)) ?_
      refine ev_b (x_at h hp _) (fun _ _ => ?_)
      rw [nI_1]
      exact ev_if (fun _ => ih (k + 1) (by omega) (by omega)) (fun _ => ev_some trivial)
  unfold m_Row_hasSame
  have k0 := key 1000 0 (by omega) (by omega)
  rw [nI_0] at k0
  exact k0
theorem xnf {b : Nat} {σ : fr_S} (h : XI b σ) : ∃ nf, nf ≤ 33 ∧ gI σ 132 (b + 33) = nI nf := by
  obtain ⟨-, np, nw, nk, nt, nl, nf, x1, x2, x3, x4, x5, x6, -⟩ := h
  exact ⟨nf, x6⟩
theorem x_findPath {b r v c nf : Nat} {σ : fr_S} (h : XI b σ) (hp : pr b r v) (hc : c ≤ 701) (hf : nf ≤ 33 ∧ gI σ 132 (b + 33) = nI nf) (x2 : Int32) : ev (m_Files_findPath (b + 33) r x2 (nI c) σ) (fun x => ∃ k, k ≤ nf ∧ x = nI k) := by
  have hF := h.1.1.2.2.2.2.2.2.2.2
  have hf1 := hf.1
  have key : ∀ (n k : Nat), k ≤ nf → nf - k < n → ev (m_Files_findPath_L3 n (b + 33) r x2 (nI c) (nI k) σ) (fun x => ∃ k, k ≤ nf ∧ x = nI k) := by
    intro n
    induction n with
    | zero => intro k _ h; omega
    | succ n ih =>
      intro k hk hn
      unfold m_Files_findPath_L3
      refine ev_bs ((oI_k hF.2.1).trans (congrArg some hf.2)) ?_
      refine ev_if (fun _ => ?_) (fun z => ?_)
      · exact ev_bs ((oI_k hF.2.1).trans (congrArg some hf.2)) (ev_some ⟨nf, by omega, rfl⟩)
      rw [nI_leI (by omega) (by omega)] at z
      refine ev_bs (oP_g hF.2.1 hF.2.2.2.2.2.2.2.2.1) ?_
      refine ev_bs (oV_nI (n := 33) hF.2.2.2.2.2.2.2.2.2 (by omega) (by decide)) ?_
      rw [nI_1]
      refine ev_if (fun _ => ?_) (fun _ => ih (k + 1) (by omega) (by omega))
      refine ev_bs (oP_g hF.2.1 hF.2.2.2.2.2.2.1) ?_
      refine ev_bs (oV_nI (n := 33) hF.2.2.2.2.2.2.2.1 (by omega) (by decide)) ?_
      refine ev_bs (oK_k (row_k h hp)) ?_
      refine ev_b (x_same h hp hc _ _) (fun _ _ => ?_)
      exact ev_if (fun _ => ih (k + 1) (by omega) (by omega)) (fun _ => ev_some ⟨k, hk, rfl⟩)
  unfold m_Files_findPath
  have k0 := key 1000 0 (by omega) (by omega)
  rw [nI_0] at k0
  exact k0
theorem x_put2 {b r v k : Nat} {σ : fr_S} (h : XI b σ) (hp : pr b r v) (hk : k < 33) (x3 : Int32) : ev ((oP σ 2 128 (b + 33)).bind fun q6 => (sV σ 0 q6 (nI k) (x3 + 1)).bind fun σ_7 => (oP σ_7 2 129 (b + 33)).bind fun q8 => (oK σ_7 4 r).bind fun _ => (m_Row_at r x3 σ_7).bind fun r10 => (sV σ_7 0 q8 (nI k) r10).bind fun σ_11 => some σ_11) (XI b) := by
  have hF := h.1.1.2.2.2.2.2.2.2.2
  refine ev_bs (oP_g hF.2.1 hF.2.2.1) ?_
  refine ev_bs (sV_nI (n := 33) hF.2.2.2.1 hk (by decide)) ?_
  have h2 : XI b (pA σ (b + 34) (upd (gV σ (b + 34)) k (x3 + 1))) := XI_oA h (by omega)
  generalize pA σ (b + 34) (upd (gV σ (b + 34)) k (x3 + 1)) = σ2 at h2 ⊢
  have hF2 := h2.1.1.2.2.2.2.2.2.2.2
  refine ev_bs (oP_g hF2.2.1 hF2.2.2.2.2.1) ?_
  refine ev_bs (oK_k (row_k h2 hp)) ?_
  refine ev_b (x_at h2 hp _) (fun q _ => ?_)
  refine ev_bs (sV_nI (n := 33) hF2.2.2.2.2.2.1 hk (by decide)) ?_
  exact ev_some (XI_oA h2 (by omega))
theorem x_put {b r v s t : Nat} {σ : fr_S} (h : XI b σ) (hp : pr b r v) (hs : s ≤ t) (ht : t ≤ 700) : ev (m_Files_put (b + 33) r (nI s) (nI t) σ) (XI b) := by
  have hF := h.1.1.2.2.2.2.2.2.2.2
  obtain ⟨nf, hf1, hf2⟩ := xnf h
  unfold m_Files_put
  refine ev_bs (oK_k hF.2.1) ?_
  rw [pk_sub hs]
  refine ev_b (x_findPath h hp (by omega) ⟨hf1, hf2⟩ _) (fun x hx => ?_)
  obtain ⟨k, hk, rfl⟩ := hx
  refine ev_if (fun z => ?_) (fun _ => ev_some h)
  have e33 : (33 : Int32) = nI 33 := by decide +kernel
  rw [e33, nI_ltI (by omega) (by omega)] at z
  refine ev_bs ((oI_k hF.2.1).trans (congrArg some hf2)) ?_
  refine ev_if (fun e => ?_) (fun _ => x_put2 h hp z (nI t))
  have e2 : k = nf := nI_inj (by omega) (by omega) e
  refine ev_bs (oP_g hF.2.1 hF.2.2.2.2.2.2.1) ?_
  refine ev_bs (sV_nI (n := 33) hF.2.2.2.2.2.2.2.1 z (by decide)) ?_
  have h2 : XI b (pA σ (b + 36) (upd (gV σ (b + 36)) k (nI s))) := XI_oA h (by omega)
  have f2 : gI (pA σ (b + 36) (upd (gV σ (b + 36)) k (nI s))) 132 (b + 33) = nI nf := hf2
  generalize pA σ (b + 36) (upd (gV σ (b + 36)) k (nI s)) = σ2 at h2 f2 ⊢
  have hF2 := h2.1.1.2.2.2.2.2.2.2.2
  refine ev_bs (oP_g hF2.2.1 hF2.2.2.2.2.2.2.2.2.1) ?_
  refine ev_bs (sV_nI (n := 33) hF2.2.2.2.2.2.2.2.2.2 z (by decide)) ?_
  have h3 : XI b (pA σ2 (b + 37) (upd (gV σ2 (b + 37)) k (nI (t - s)))) := XI_oA h2 (by omega)
  have f3 : gI (pA σ2 (b + 37) (upd (gV σ2 (b + 37)) k (nI (t - s)))) 132 (b + 33) = nI nf := f2
  generalize pA σ2 (b + 37) (upd (gV σ2 (b + 37)) k (nI (t - s))) = σ3 at h3 f3 ⊢
  have hF3 := h3.1.1.2.2.2.2.2.2.2.2
  refine ev_bs ((oI_k hF3.2.1).trans (congrArg some f3)) ?_
  refine ev_bs (sI_k hF3.2.1) ?_
  rw [nI_1]
  have h4 : XI b (pI σ3 132 (b + 33) (nI (nf + 1))) := XI_cnt h3 (Or.inr (Or.inr (Or.inr (Or.inr (Or.inr ⟨rfl, rfl, by omega⟩)))))
  generalize pI σ3 132 (b + 33) (nI (nf + 1)) = σ4 at h4 ⊢
  exact x_put2 h4 hp z (nI t)
theorem x_fill_L {b r v : Nat} (hp : pr b r v) (x2 : Int32) : ∀ (n e k : Nat) (σ : fr_S), XI b σ → e ≤ 700 → k ≤ 33 → 33 - k < n → ev (m_Files_fill_L10 n (b + 33) r x2 (nI e) (nI k) σ) (XI b) := by
  intro n
  induction n with
  | zero => intro e k σ _ _ _ h; omega
  | succ n ih =>
    intro e k σ h he hk2 hn
    have hk := row_k h hp
    obtain ⟨m, hm, hml⟩ := (XI_row h hp).2.1
    unfold m_Files_fill_L10
    refine ev_if (fun _ => ev_some h) (fun z1 => ?_)
    have e33 : (33 : Int32) = nI 33 := by decide +kernel
    rw [e33, nI_leI (by omega) (by omega)] at z1
    refine ev_bs ((oI_k hk).trans (congrArg some hml)) ?_
    refine ev_if (fun _ => ev_some h) (fun z2 => ?_)
    rw [nI_leI (by omega) (by omega)] at z2
    refine ev_b (x_pathEnd h hp) (fun x hx => ?_)
    obtain ⟨t, -, ht, rfl⟩ := hx
    rw [nI_1, nI_1]
    refine ev_b (x_strip h hp (by omega) (by omega) x2) (fun x hx => ?_)
    obtain ⟨s, hs, rfl⟩ := hx
    refine ev_if (fun _ => ?_) (fun z3 => ?_)
    · refine ev_b (x_entryEnd h hp) (fun x hx => ?_)
      obtain ⟨e2, he2, rfl⟩ := hx
      exact ih e2 (k + 1) σ h (by omega) (by omega) (by omega)
    · rw [nI_leI (by omega) (by omega)] at z3
      refine ev_bs (oK_k h.1.1.2.2.2.2.2.2.2.2.2.1) ?_
      refine ev_b (x_put h hp (by omega) (by omega)) (fun σ' h' => ?_)
      refine ev_b (x_entryEnd h' hp) (fun x hx => ?_)
      obtain ⟨e2, he2, rfl⟩ := hx
      exact ih e2 (k + 1) σ' h' (by omega) (by omega) (by omega)
theorem x_unpack {b : Nat} {σ : fr_S} (h : XI b σ) (x1 x2 : Int32) : ev (m_FR_unpack b x1 x2 σ) (fun z => XI b z.2) := by
  obtain ⟨nw, hw⟩ := xnw h
  have hs := h.1
  unfold m_FR_unpack
  refine ev_bs (xK hs) ?_
  refine ev_b (x_isWant hs hw x1) (fun r hr => ?_)
  refine ev_if (fun _ => ev_some h) (fun h0 => ?_)
  rcases hr with hr | ⟨-, j, hj, rfl⟩
  · exact absurd hr h0
  have hj10 : j < 10 := by omega
  refine ev_bs (xp69 hs) ?_
  refine ev_bs (xW hs hj10) ?_
  refine ev_bs (oI_k (wt_k hs hj10)) ?_
  refine ev_if (fun _ => ?_) (fun _ => ev_some h)
  refine ev_if (fun _ => ev_some h) (fun _ => ?_)
  refine ev_if (fun _ => ?_) (fun _ => ev_some h)
  refine ev_bs (xp69 hs) ?_
  refine ev_bs (xW hs hj10) ?_
  refine ev_bs (wt_r hs hj10) ?_
  refine ev_b (x_ill h (pr_w hj10)) (fun i _ => ?_)
  refine ev_if (fun _ => ?_) (fun _ => ev_some h)
  refine ev_bs (xp75 hs) ?_
  have hF := hs.1.2.2.2.2.2.2.2.2
  refine ev_bs (oK_k hF.2.1) ?_
  have key : ev (m_Files_fill (b + 33) (b + 87 + 4 * j) x2 σ) (XI b) := by
    unfold m_Files_fill
    refine ev_bs (sI_k hF.2.1) ?_
    have h2 : XI b (pI σ 132 (b + 33) 0) := by
      have := XI_cnt (n := 0) h (Or.inr (Or.inr (Or.inr (Or.inr (Or.inr ⟨rfl, rfl, by omega⟩)))))
      rw [nI_0] at this
      exact this
    have key := x_fill_L (pr_w hj10) x2 1000 0 0 _ h2 (by omega) (by omega) (by omega)
    rw [nI_0] at key
    exact key
  refine ev_b key (fun σ' h' => ?_)
  refine ev_bs (xp75 h'.1) ?_
  exact ev_bs (oI_k h'.1.1.2.2.2.2.2.2.2.2.2.1) (ev_some h')
