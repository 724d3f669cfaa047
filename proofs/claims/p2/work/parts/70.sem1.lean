/-! THE LAW, purely: the class within its ranges, the reference within its invariant -/
theorem oS_nI {xs : Nat → Int32} {L k : Nat} (hk : k < L) (hL : L ≤ 2561) : oS xs L (nI k) = some (xs k) := by
  unfold oS
  have h1 : (nI k).toNatClampNeg = k := nI_clamp (by omega)
  have h2 : ¬ (nI k < 0 ∨ L ≤ (nI k).toNatClampNeg) := nI_in hk (by omega)
  rw [if_pos h2, h1]
theorem oS_1 {xs : Nat → Int32} {L k : Nat} (hk : k + 4 < L) (hL : L ≤ 2561) : oS xs L (nI k + 1) = some (xs (k + 1)) := by rw [nI_1]; exact oS_nI (by omega) hL
theorem oS_2 {xs : Nat → Int32} {L k : Nat} (hk : k + 4 < L) (hL : L ≤ 2561) : oS xs L (nI k + 2) = some (xs (k + 2)) := by rw [← nI_v2, nI_add]; exact oS_nI (by omega) hL
theorem oS_3 {xs : Nat → Int32} {L k : Nat} (hk : k + 4 < L) (hL : L ≤ 2561) : oS xs L (nI k + 3) = some (xs (k + 3)) := by rw [← nI_v3, nI_add]; exact oS_nI (by omega) hL
theorem oS_4 {xs : Nat → Int32} {L k : Nat} (hk : k + 4 < L) (hL : L ≤ 2561) : oS xs L (nI k + 4) = some (xs (k + 4)) := by rw [← nI_v4, nI_add]; exact oS_nI (by omega) hL
theorem s_C0 {xs : Nat → Int32} {L k b c : Nat} {σ τ : fr_S} (h : XI b σ) (g : MI c τ) (hk : k + 4 < L) (hL : L ≤ 2561) : ev (m_law_C0 xs L b c (nI k) σ τ) (fun z => XI b z.1 ∧ MI c z.2) := by
  unfold m_law_C0
  have fin : ∀ (x2 y2 : Int32), ev ((oK σ 1 b).bind fun _ => (m_FR_credential b (xs (k + 1)) x2 σ).bind fun w5 => (oS xs L (nI k + 1)).bind fun v6 => (oS xs L (nI k + 2)).bind fun v7 => if v7 = 0 then (oK τ 0 c).bind fun _ => (m_Md_credential c v6 0 τ).bind fun w10 => if w5.1 = w10.1 then some (w5.2, w10.2) else none else (oK τ 0 c).bind fun _ => (m_Md_credential c v6 1 τ).bind fun w13 => if w5.1 = w13.1 then some (w5.2, w13.2) else none) (fun z => XI b z.1 ∧ MI c z.2) := by
    intro x2 y2
    refine ev_bs (xK h.1) ?_
    refine ev_b (x_credential h _ _) (fun w hw => ?_)
    refine ev_bs (oS_1 hk hL) ?_
    refine ev_bs (oS_2 hk hL) ?_
    refine ev_if (fun _ => ?_) (fun _ => ?_)
    · refine ev_bs (mK g.1) ?_
      refine ev_b (md_credential g _ _) (fun v hv => ?_)
      exact ev_if (fun _ => ev_some ⟨hw.2, hv.2⟩) (fun z => absurd (hw.1.trans hv.1.symm) z)
    · refine ev_bs (mK g.1) ?_
      refine ev_b (md_credential g _ _) (fun v hv => ?_)
      exact ev_if (fun _ => ev_some ⟨hw.2, hv.2⟩) (fun z => absurd (hw.1.trans hv.1.symm) z)
  refine ev_bs (oS_1 hk hL) ?_
  refine ev_bs (oS_2 hk hL) ?_
  exact ev_if (fun _ => fin 0 0) (fun _ => fin 1 1)
theorem s_C1 {xs : Nat → Int32} {L k b c : Nat} {σ τ : fr_S} (h : XI b σ) (g : MI c τ) (hk : k + 4 < L) (hL : L ≤ 2561) : ev (m_law_C1 xs L b c (nI k) σ τ) (fun z => XI b z.1 ∧ MI c z.2) := by
  unfold m_law_C1
  refine ev_bs (oS_1 hk hL) ?_
  refine ev_bs (oS_2 hk hL) ?_
  refine ev_bs (xK h.1) ?_
  refine ev_b (x_place h _ _) (fun w hw => ?_)
  refine ev_bs (oS_1 hk hL) ?_
  refine ev_bs (oS_2 hk hL) ?_
  refine ev_bs (mK g.1) ?_
  exact ev_b (md_place g _ _) (fun v hv => ev_some ⟨hw, hv⟩)
theorem s_C2 {xs : Nat → Int32} {L k b c : Nat} {σ τ : fr_S} (h : XI b σ) (g : MI c τ) (hk : k + 4 < L) (hL : L ≤ 2561) : ev (m_law_C2 xs L b c (nI k) σ τ) (fun z => XI b z.1 ∧ MI c z.2) := by
  unfold m_law_C2
  refine ev_bs (oS_1 hk hL) ?_
  refine ev_bs (oS_2 hk hL) ?_
  refine ev_bs (oS_3 hk hL) ?_
  refine ev_bs (oS_4 hk hL) ?_
  refine ev_bs (xK h.1) ?_
  refine ev_b (x_content h _ _ _) (fun w hw => ?_)
  refine ev_bs (oS_1 hk hL) ?_
  refine ev_bs (oS_2 hk hL) ?_
  refine ev_bs (oS_3 hk hL) ?_
  refine ev_bs (oS_4 hk hL) ?_
  refine ev_bs (mK g.1) ?_
  exact ev_b (md_content g _ _ _) (fun v hv => ev_some ⟨hw, hv⟩)
theorem s_C3 {xs : Nat → Int32} {L k b c : Nat} {σ τ : fr_S} (h : XI b σ) (g : MI c τ) (hk : k + 4 < L) (hL : L ≤ 2561) : ev (m_law_C3 xs L b c (nI k) σ τ) (fun z => XI b z.1 ∧ MI c z.2) := by
  unfold m_law_C3
  refine ev_bs (oS_1 hk hL) ?_
  refine ev_bs (oS_2 hk hL) ?_
  refine ev_bs (oS_3 hk hL) ?_
  refine ev_bs (xK h.1) ?_
  refine ev_b (x_does h _ _ _) (fun w hw => ?_)
  refine ev_bs (oS_1 hk hL) ?_
  refine ev_bs (oS_2 hk hL) ?_
  refine ev_bs (oS_3 hk hL) ?_
  refine ev_bs (mK g.1) ?_
  exact ev_b (md_does g _ _ _) (fun v hv => ev_some ⟨hw, hv⟩)
theorem s_C4 {xs : Nat → Int32} {L k b c : Nat} {σ τ : fr_S} (h : XI b σ) (g : MI c τ) (hk : k + 4 < L) (hL : L ≤ 2561) : ev (m_law_C4 xs L b c (nI k) σ τ) (fun z => XI b z.1 ∧ MI c z.2) := by
  unfold m_law_C4
  refine ev_bs (oS_1 hk hL) ?_
  refine ev_bs (oS_2 hk hL) ?_
  refine ev_bs (oS_3 hk hL) ?_
  refine ev_bs (xK h.1) ?_
  refine ev_b (x_cut h _ _ _) (fun w hw => ?_)
  refine ev_bs (oS_1 hk hL) ?_
  refine ev_bs (oS_2 hk hL) ?_
  refine ev_bs (oS_3 hk hL) ?_
  refine ev_bs (mK g.1) ?_
  exact ev_b (md_cut g _ _ _) (fun v hv => ev_some ⟨hw, hv⟩)
theorem s_C5 {xs : Nat → Int32} {L k b c : Nat} {σ τ : fr_S} (h : XI b σ) (g : MI c τ) (hk : k + 4 < L) (hL : L ≤ 2561) : ev (m_law_C5 xs L b c (nI k) σ τ) (fun z => XI b z.1 ∧ MI c z.2) := by
  unfold m_law_C5
  refine ev_bs (oS_1 hk hL) ?_
  refine ev_bs (xK h.1) ?_
  refine ev_b (x_digestF h _) (fun w hw => ?_)
  refine ev_bs (oS_1 hk hL) ?_
  refine ev_bs (mK g.1) ?_
  exact ev_b (md_digest g _) (fun v hv => ev_some ⟨h, hv⟩)
theorem s_C6 {xs : Nat → Int32} {L k b c : Nat} {σ τ : fr_S} (h : XI b σ) (g : MI c τ) (hk : k + 4 < L) (hL : L ≤ 2561) : ev (m_law_C6 xs L b c (nI k) σ τ) (fun z => XI b z.1 ∧ MI c z.2) := by
  unfold m_law_C6
  refine ev_bs (oS_1 hk hL) ?_
  refine ev_bs (xK h.1) ?_
  refine ev_b (x_want h _) (fun w hw => ?_)
  refine ev_bs (oS_1 hk hL) ?_
  refine ev_bs (mK g.1) ?_
  exact ev_b (md_want g _) (fun v hv => ev_some ⟨hw, hv⟩)
theorem s_C7 {xs : Nat → Int32} {L k b c : Nat} {σ τ : fr_S} (h : XI b σ) (g : MI c τ) (hk : k + 4 < L) (hL : L ≤ 2561) : ev (m_law_C7 xs L b c (nI k) σ τ) (fun z => XI b z.1 ∧ MI c z.2) := by
  unfold m_law_C7
  refine ev_bs (oS_1 hk hL) ?_
  refine ev_bs (oS_2 hk hL) ?_
  refine ev_bs (xK h.1) ?_
  refine ev_b (x_from h _ _) (fun w hw => ?_)
  refine ev_bs (oS_1 hk hL) ?_
  refine ev_bs (oS_2 hk hL) ?_
  refine ev_bs (mK g.1) ?_
  exact ev_b (md_from g _ _) (fun v hv => ev_some ⟨hw, hv⟩)
theorem s_C8 {xs : Nat → Int32} {L k b c : Nat} {σ τ : fr_S} (h : XI b σ) (g : MI c τ) (hk : k + 4 < L) (hL : L ≤ 2561) : ev (m_law_C8 xs L b c (nI k) σ τ) (fun z => XI b z.1 ∧ MI c z.2) := by
  unfold m_law_C8
  have fin : ∀ x : Int32, (x = 0 ∨ x = 1) → ev ((oK σ 1 b).bind fun _ => (m_FR_offLine b x σ).bind fun σ_4 => (oS xs L (nI k + 1)).bind fun v5 => if v5 = 0 then (oK τ 0 c).bind fun _ => (m_Md_offLine c 0 τ).bind fun σ_8 => some (σ_4, σ_8) else (oK τ 0 c).bind fun _ => (m_Md_offLine c 1 τ).bind fun σ_10 => some (σ_4, σ_10)) (fun z => XI b z.1 ∧ MI c z.2) := by
    intro x hx
    refine ev_bs (xK h.1) ?_
    refine ev_b (x_offLine h x hx) (fun w hw => ?_)
    refine ev_bs (oS_1 hk hL) ?_
    refine ev_if (fun _ => ?_) (fun _ => ?_)
    · refine ev_bs (mK g.1) ?_
      exact ev_b (md_offLine g 0 (Or.inl rfl)) (fun v hv => ev_some ⟨hw, hv⟩)
    · refine ev_bs (mK g.1) ?_
      exact ev_b (md_offLine g 1 (Or.inr rfl)) (fun v hv => ev_some ⟨hw, hv⟩)
  refine ev_bs (oS_1 hk hL) ?_
  exact ev_if (fun _ => fin 0 (Or.inl rfl)) (fun _ => fin 1 (Or.inr rfl))
theorem s_C9 {xs : Nat → Int32} {L k b c : Nat} {σ τ : fr_S} (h : XI b σ) (g : MI c τ) (hk : k + 4 < L) (hL : L ≤ 2561) : ev (m_law_C9 xs L b c (nI k) σ τ) (fun z => XI b z.1 ∧ MI c z.2) := by
  unfold m_law_C9
  refine ev_bs (oS_1 hk hL) ?_
  refine ev_bs (xK h.1) ?_
  refine ev_b (x_begin h _) (fun w hw => ?_)
  refine ev_bs (oS_1 hk hL) ?_
  refine ev_bs (mK g.1) ?_
  exact ev_b (md_begin g _) (fun v hv => ev_some ⟨hw, hv⟩)
theorem s_C10 {xs : Nat → Int32} {L k b c : Nat} {σ τ : fr_S} (h : XI b σ) (g : MI c τ) (hk : k + 4 < L) (hL : L ≤ 2561) : ev (m_law_C10 xs L b c (nI k) σ τ) (fun z => XI b z.1 ∧ MI c z.2) := by
  unfold m_law_C10
  refine ev_bs (oS_1 hk hL) ?_
  refine ev_bs (xK h.1) ?_
  refine ev_b (x_tick h _) (fun w hw => ?_)
  refine ev_bs (oS_1 hk hL) ?_
  refine ev_bs (mK g.1) ?_
  exact ev_b (md_tick g _) (fun v hv => ev_some ⟨hw, hv⟩)
theorem s_C11 {xs : Nat → Int32} {L k b c : Nat} {σ τ : fr_S} (h : XI b σ) (g : MI c τ) (hk : k + 4 < L) (hL : L ≤ 2561) : ev (m_law_C11 xs L b c (nI k) σ τ) (fun z => XI b z.1 ∧ MI c z.2) := by
  unfold m_law_C11
  refine ev_bs (oS_1 hk hL) ?_
  refine ev_bs (oS_2 hk hL) ?_
  refine ev_bs (xK h.1) ?_
  refine ev_b (x_about h _ _) (fun w hw => ?_)
  refine ev_bs (oS_1 hk hL) ?_
  refine ev_bs (oS_2 hk hL) ?_
  refine ev_bs (mK g.1) ?_
  exact ev_b (md_about g _ _) (fun v hv => ev_some ⟨h, hv⟩)
theorem s_C12 {xs : Nat → Int32} {L k b c : Nat} {σ τ : fr_S} (h : XI b σ) (g : MI c τ) (hk : k + 4 < L) (hL : L ≤ 2561) : ev (m_law_C12 xs L b c (nI k) σ τ) (fun z => XI b z.1 ∧ MI c z.2) := by
  unfold m_law_C12
  refine ev_bs (oS_1 hk hL) ?_
  refine ev_bs (oS_2 hk hL) ?_
  refine ev_bs (xK h.1) ?_
  refine ev_b (x_byteOf h _ _) (fun w hw => ?_)
  refine ev_bs (oS_1 hk hL) ?_
  refine ev_bs (oS_2 hk hL) ?_
  refine ev_bs (mK g.1) ?_
  exact ev_b (md_byteOf g _ _) (fun v hv => ev_some ⟨h, hv⟩)
theorem s_C13 {xs : Nat → Int32} {L k b c : Nat} {σ τ : fr_S} (h : XI b σ) (g : MI c τ) (hk : k + 4 < L) (hL : L ≤ 2561) : ev (m_law_C13 xs L b c (nI k) σ τ) (fun z => XI b z.1 ∧ MI c z.2) := by
  unfold m_law_C13
  refine ev_bs (oS_1 hk hL) ?_
  refine ev_bs (oS_2 hk hL) ?_
  refine ev_bs (xK h.1) ?_
  refine ev_b (x_barred h _ _) (fun w hw => ?_)
  refine ev_bs (oS_1 hk hL) ?_
  refine ev_bs (oS_2 hk hL) ?_
  refine ev_bs (mK g.1) ?_
  exact ev_b (md_barred g _ _) (fun v hv => ev_some ⟨h, hv⟩)
theorem s_C14 {xs : Nat → Int32} {L k b c : Nat} {σ τ : fr_S} (h : XI b σ) (g : MI c τ) (hk : k + 4 < L) (hL : L ≤ 2561) : ev (m_law_C14 xs L b c (nI k) σ τ) (fun z => XI b z.1 ∧ MI c z.2) := by
  unfold m_law_C14
  refine ev_bs (oS_1 hk hL) ?_
  refine ev_bs (xK h.1) ?_
  refine ev_b (x_came h _) (fun w hw => ?_)
  refine ev_bs (oS_1 hk hL) ?_
  refine ev_bs (mK g.1) ?_
  exact ev_b (md_came g _) (fun v hv => ev_some ⟨h, hv⟩)
theorem s_C15 {xs : Nat → Int32} {L k b c : Nat} {σ τ : fr_S} (h : XI b σ) (g : MI c τ) (hk : k + 4 < L) (hL : L ≤ 2561) : ev (m_law_C15 xs L b c (nI k) σ τ) (fun z => XI b z.1 ∧ MI c z.2) := by
  unfold m_law_C15
  refine ev_bs (oS_1 hk hL) ?_
  refine ev_bs (xK h.1) ?_
  refine ev_b (x_lacks h _) (fun w hw => ?_)
  refine ev_bs (oS_1 hk hL) ?_
  refine ev_bs (mK g.1) ?_
  exact ev_b (md_lacks g _) (fun v hv => ev_some ⟨h, hv⟩)
theorem s_C16 {xs : Nat → Int32} {L k b c : Nat} {σ τ : fr_S} (h : XI b σ) (g : MI c τ) (hk : k + 4 < L) (hL : L ≤ 2561) : ev (m_law_C16 xs L b c (nI k) σ τ) (fun z => XI b z.1 ∧ MI c z.2) := by
  unfold m_law_C16
  refine ev_bs (oS_1 hk hL) ?_
  refine ev_bs (xK h.1) ?_
  refine ev_b (x_sent h _) (fun w hw => ?_)
  refine ev_bs (oS_1 hk hL) ?_
  refine ev_bs (mK g.1) ?_
  exact ev_b (md_sent g _) (fun v hv => ev_some ⟨h, hv⟩)
theorem s_C17 {xs : Nat → Int32} {L k b c : Nat} {σ τ : fr_S} (h : XI b σ) (g : MI c τ) (hk : k + 4 < L) (hL : L ≤ 2561) : ev (m_law_C17 xs L b c (nI k) σ τ) (fun z => XI b z.1 ∧ MI c z.2) := by
  unfold m_law_C17
  refine ev_bs (oS_1 hk hL) ?_
  refine ev_bs (oS_2 hk hL) ?_
  refine ev_bs (xK h.1) ?_
  refine ev_b (x_unpack h _ _) (fun w hw => ?_)
  refine ev_bs (oS_1 hk hL) ?_
  refine ev_bs (oS_2 hk hL) ?_
  refine ev_bs (mK g.1) ?_
  exact ev_b (md_unpack g _ _) (fun v hv => ev_some ⟨hw, hv⟩)
theorem s_C18 {xs : Nat → Int32} {L k b c : Nat} {σ τ : fr_S} (h : XI b σ) (g : MI c τ) (hk : k + 4 < L) (hL : L ≤ 2561) : ev (m_law_C18 xs L b c (nI k) σ τ) (fun z => XI b z.1 ∧ MI c z.2) := by
  unfold m_law_C18
  refine ev_bs (oS_1 hk hL) ?_
  refine ev_bs (oS_2 hk hL) ?_
  refine ev_bs (xK h.1) ?_
  refine ev_b (x_file h _ _) (fun w hw => ?_)
  refine ev_bs (oS_1 hk hL) ?_
  refine ev_bs (oS_2 hk hL) ?_
  refine ev_bs (mK g.1) ?_
  exact ev_b (md_file g _ _) (fun v hv => ev_some ⟨h, hv⟩)
theorem s_end {L k : Nat} (hL : L ≤ 2561) (hk : k ≤ 3000) (h : ¬ (Int32.ofNat L - 5) < nI k) : k + 5 ≤ L := by
  by_cases e : 5 ≤ L
  · have e1 : (Int32.ofNat L - 5) = nI (L - 5) := by
      rw [nI_lit5]
      exact pk_sub e
    rw [e1, nI_ltI (by omega) (by omega)] at h
    omega
  · exfalso
    apply h
    have e2 : (Int32.ofNat L - 5) < 0 := by
      have : L = 0 ∨ L = 1 ∨ L = 2 ∨ L = 3 ∨ L = 4 := by omega
      rcases this with rfl | rfl | rfl | rfl | rfl <;> decide +kernel
    exact Int32.lt_of_lt_of_le e2 (Int32.not_lt.mp (nI_pos (by omega)))
theorem s_loop {xs : Nat → Int32} {L b c : Nat} (hL : L ≤ 2561) : ∀ (n k : Nat) (σ τ : fr_S), XI b σ → MI c τ → k ≤ L + 1 → L + 1 < k + 5 * n → ev (m_law_L xs L b c n (nI k) σ τ) (fun _ => True) := by
  intro n
  induction n with
  | zero => intro k σ τ _ _ h1 h2; omega
  | succ n ih =>
    intro k σ τ h g h1 h2
    unfold m_law_L
    refine ev_if (fun _ => ev_some trivial) (fun z => ?_)
    have hk := s_end hL (by omega) z
    have hk4 : k + 4 < L := by omega
    refine ev_bs (oS_nI (by omega) hL) ?_
    rw [nI_lit5, nI_add]
    have go : ∀ o : Option (fr_S × fr_S), ev o (fun z => XI b z.1 ∧ MI c z.2) → ev (o.bind fun z => m_law_L xs L b c n (nI (k + 5)) z.1 z.2) (fun _ => True) := fun o ho => ev_b ho (fun z hz => ih (k + 5) z.1 z.2 hz.1 hz.2 (by omega) (by omega))
    refine ev_if (fun _ => go _ (s_C0 h g hk4 hL)) (fun _ => ?_)
    refine ev_if (fun _ => go _ (s_C1 h g hk4 hL)) (fun _ => ?_)
    refine ev_if (fun _ => go _ (s_C2 h g hk4 hL)) (fun _ => ?_)
    refine ev_if (fun _ => go _ (s_C3 h g hk4 hL)) (fun _ => ?_)
    refine ev_if (fun _ => go _ (s_C4 h g hk4 hL)) (fun _ => ?_)
    refine ev_if (fun _ => go _ (s_C5 h g hk4 hL)) (fun _ => ?_)
    refine ev_if (fun _ => go _ (s_C6 h g hk4 hL)) (fun _ => ?_)
    refine ev_if (fun _ => go _ (s_C7 h g hk4 hL)) (fun _ => ?_)
    refine ev_if (fun _ => go _ (s_C8 h g hk4 hL)) (fun _ => ?_)
    refine ev_if (fun _ => go _ (s_C9 h g hk4 hL)) (fun _ => ?_)
    refine ev_if (fun _ => go _ (s_C10 h g hk4 hL)) (fun _ => ?_)
    refine ev_if (fun _ => go _ (s_C11 h g hk4 hL)) (fun _ => ?_)
    refine ev_if (fun _ => go _ (s_C12 h g hk4 hL)) (fun _ => ?_)
    refine ev_if (fun _ => go _ (s_C13 h g hk4 hL)) (fun _ => ?_)
    refine ev_if (fun _ => go _ (s_C14 h g hk4 hL)) (fun _ => ?_)
    refine ev_if (fun _ => go _ (s_C15 h g hk4 hL)) (fun _ => ?_)
    refine ev_if (fun _ => go _ (s_C16 h g hk4 hL)) (fun _ => ?_)
    refine ev_if (fun _ => go _ (s_C17 h g hk4 hL)) (fun _ => ?_)
    refine ev_if (fun _ => go _ (s_C18 h g hk4 hL)) (fun _ => ?_)
    exact ih (k + 5) σ τ h g (by omega) (by omega)
theorem s_cell {xs : Nat → Int32} {L : Nat} (hL : L ≤ 2561) : ∃ r, m_cell xs L 0 = some r := by
  unfold m_cell
  by_cases e : Int32.ofNat L ≤ 0
  · exact ⟨0, if_pos e⟩
  · rw [if_neg e]
    have hp : 0 < L := by
      by_cases z : L = 0
      · subst z
        exact absurd (by decide +kernel) e
      · omega
    have := oS_nI (xs := xs) hp hL
    rw [nI_0] at this
    exact ⟨_, this⟩
theorem s_sem (B0 L : Nat) (xs : Nat → Int32) (hL : L ≤ 2561) : fl_Sem B0 L xs := by
  obtain ⟨r, hr⟩ := s_cell (xs := xs) hL
  obtain ⟨⟨σ1, nx1⟩, e1, h1, h2⟩ := x_init B0 r
  obtain ⟨⟨τ1, nx2⟩, e2, g1⟩ := md_init nx1 r
  have h1 : XI B0 σ1 := h1
  have g1 : MI nx1 τ1 := g1
  obtain ⟨u, e3, -⟩ := s_loop (xs := xs) hL 1000 1 σ1 τ1 h1 g1 (by omega) (by omega)
  rw [nI_v1] at e3
  exact ⟨r, σ1, nx1, τ1, nx2, u, hr, e1, e2, e3⟩
theorem whole_start {p : Program} {e : Env} {s : State} {m : MethodId} {below : List Frame} {meth : Method} {c : Code} (l : Launch) {b L : Nat} {xs : Nat → Int32} (hbd : L ≤ 2561) (C0 : lw_At p s m meth c b L xs) : W p l e room_1 s m #[Value.ref b] below meth c s.heap [] 0 0 (lw_Z below #[Value.ref b] s) (entryFrame m ([Value.ref b] : List Value).toArray 4) := whole_open l (s_sem s.heap.size L xs hbd) C0
