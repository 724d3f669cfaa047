theorem oR_k {cl mc sl ms : Nat} (h : cl ≤ mc ∧ sl ≤ ms) : oR cl mc sl ms = some () := if_pos h
theorem sQ_nI {σ : fr_S} {t ci a n i r : Nat} (hk : gK σ a = some (.inr (t, n))) (hr : gK σ r = some (.inl ci)) (hi : i < n) (hn : n < 2 ^ 31) : sQ σ t ci a (nI i) r = some (pB σ a (va_up (gQ σ a) i (some r))) := by
  unfold sQ
  rw [hk]
  have h1 : (nI i).toNatClampNeg = i := nI_clamp (by omega)
  have h2 : ¬ (nI i < 0 ∨ n ≤ (nI i).toNatClampNeg) := nI_in hi hn
  rw [h1] at h2
  simp only [true_and, h1]
  rw [if_pos ⟨hr, h2⟩]
/-- rows of the store, made so far -/
def KI (b k : Nat) (σ0 σ : fr_S) : Prop := Sam (fun a => a < b + 8 ∧ a ≠ b + 7) σ0 σ ∧ gK σ (b + 7) = some (.inr (4, 10)) ∧ ∀ i, i < k → gQ σ (b + 7) i = some (b + 8 + 2 * i) ∧ R0 σ (b + 8 + 2 * i) (b + 9 + 2 * i)
theorem KI_step {b k : Nat} {σ0 σ : fr_S} (h : KI b k σ0 σ) (hk : k < 10) : ev ((nC σ (b + 8 + 2 * k) (.inl 4)).bind fun σ_9 => (m_Row_init (b + 8 + 2 * k) σ_9 (b + 8 + 2 * k + 1)).bind fun w10 => (sQ w10.1 4 4 (b + 7) (nI k) (b + 8 + 2 * k)).bind fun σ_11 => some (σ_11, w10.2)) (fun q => KI b (k + 1) σ0 q.1 ∧ q.2 = b + 8 + 2 * (k + 1)) := by
  obtain ⟨h1, h2, h3⟩ := h
  refine ev_bs (a := pN σ (b + 8 + 2 * k) (.inl 4)) rfl ?_
  refine ev_b (x_row0 (σ := pN σ (b + 8 + 2 * k) (.inl 4)) (r := b + 8 + 2 * k) (by rw [z_gK_pN, if_pos rfl]) (by omega)) (fun w hw => ?_)
  obtain ⟨σ2, n2⟩ := w
  obtain ⟨w1, w2, w3⟩ := hw
  have w1 : n2 = b + 8 + 2 * k + 1 + 1 := w1
  have w2 : R0 σ2 (b + 8 + 2 * k) (b + 8 + 2 * k + 1) := w2
  have s2 : Sam (fun a => a < b + 8 + 2 * k) σ σ2 := Sam_tr (P := fun a => a < b + 8 + 2 * k) (Sam_pN Sam_rf (fun x hx => Nat.ne_of_lt hx)) w3 (fun a ha => ⟨ha, Nat.ne_of_lt ha, Nat.lt_succ_of_lt ha⟩)
  have k7 : gK σ2 (b + 7) = some (.inr (4, 10)) := (s2 (b + 7) (show b + 7 < b + 8 + 2 * k by omega)).1.trans h2
  refine ev_bs (sQ_nI k7 w2.1.1 hk (by decide)) ?_
  refine ev_some ⟨⟨?_, k7, fun i hi => ?_⟩, show n2 = _ by omega⟩
  · refine Sam_pB (Sam_tr h1 s2 (fun a ha => ⟨ha, show a < b + 8 + 2 * k by have := ha.1; omega⟩)) (fun x hx => hx.2)
  · rw [z_gQ_pB, if_pos rfl]
    have e9 : b + 9 + 2 * i = b + 8 + 2 * i + 1 := by omega
    have sB : ∀ u, Sam (fun a => a ≠ b + 7) σ2 (pB σ2 (b + 7) u) := fun u => Sam_pB Sam_rf (fun x hx => hx)
    by_cases e : i = k
    · subst e
      rw [va_up_self, e9]
      exact ⟨rfl, R0_s w2 (sB _) (show b + 8 + 2 * i ≠ b + 7 by omega) (show b + 8 + 2 * i + 1 ≠ b + 7 by omega)⟩
    · rw [va_up_ne _ _ e, (s2 (b + 7) (show b + 7 < b + 8 + 2 * k by omega)).2.2.2.2]
      obtain ⟨g1, g2⟩ := h3 i (by omega)
      exact ⟨g1, R0_s (P := fun a => a ≠ b + 7) (R0_s (P := fun a => a < b + 8 + 2 * k) g2 s2 (show b + 8 + 2 * i < b + 8 + 2 * k by omega) (show b + 9 + 2 * i < b + 8 + 2 * k by omega)) (sB _) (show b + 8 + 2 * i ≠ b + 7 by omega) (show b + 9 + 2 * i ≠ b + 7 by omega)⟩
theorem ev_bb {α β γ : Type} {o : Option α} {f : α → Option β} {g : β → Option γ} {P : β → Prop} {Q : γ → Prop} (ho : ev (o.bind f) P) (h : ∀ z, P z → ev (g z) Q) : ev (o.bind fun a => (f a).bind g) Q := by
  cases o with
  | none => obtain ⟨z, hz, -⟩ := ho; cases hz
  | some a => exact ev_b (o := f a) ho h
theorem x_store_L {b : Nat} {σ0 : fr_S} (hk5 : gK σ0 (b + 5) = some (.inl 5)) (hp : gP σ0 321 (b + 5) = some (b + 7)) : ∀ (n k : Nat) (σ : fr_S), KI b k σ0 σ → k ≤ 10 → 10 - k < n → ev (m_Store_init_L28 n (b + 5) (nI k) σ (b + 8 + 2 * k) (2 + 2 * k) (20 + 102 * k)) (fun q => KI b 10 σ0 q.1 ∧ q.2 = b + 28) := by
  intro n
  induction n with
  | zero => intro k σ _ _ h; omega
  | succ n ih =>
    intro k σ h hk hn
    unfold m_Store_init_L28
    refine ev_if (fun z => ?_) (fun z => ?_)
    · rw [nI_lit10, nI_leI (by omega) (by omega)] at z
      have e : k = 10 := by omega
      subst e
      exact ev_bs (oR_k (by omega)) (ev_some ⟨h, rfl⟩)
    · rw [nI_lit10, nI_leI (by omega) (by omega)] at z
      have s5 := h.1 (b + 5) (show b + 5 < b + 8 ∧ b + 5 ≠ b + 7 by omega)
      refine ev_bs (oP_g (s5.1.trans hk5) ((s5.2.2.1 321).trans hp)) ?_
      refine ev_bs (oR_k (by omega)) ?_
      obtain ⟨q, hq, hq2, hq3⟩ := KI_step h (by omega)
      obtain ⟨σ9, e9, hq⟩ := fr_bind hq
      obtain ⟨w10, e10, hq⟩ := fr_bind hq
      obtain ⟨σ11, e11, hq⟩ := fr_bind hq
      cases hq
      refine ev_bs e9 ?_
      refine ev_bs (oR_k (by omega)) ?_
      refine ev_bs e10 ?_
      refine ev_bs e11 ?_
      have hq3 : w10.2 = b + 8 + 2 * (k + 1) := hq3
      rw [hq3, nI_1]
      exact ih (k + 1) σ11 hq2 (by omega) (by omega)
/-- the places, made so far -/
def PI (b k : Nat) (σ0 σ : fr_S) : Prop := Sam (fun a => a < b + 38 ∧ a ≠ b + 3) σ0 σ ∧ gK σ (b + 3) = some (.inr (2, 16)) ∧ ∀ i, i < k → gQ σ (b + 3) i = some (b + 38 + 3 * i) ∧ PL0 σ (b + 38 + 3 * i) (b + 39 + 3 * i) (b + 40 + 3 * i)
theorem PI_step {b k : Nat} {σ0 σ : fr_S} (h : PI b k σ0 σ) (hk : k < 16) : ev ((nC σ (b + 38 + 3 * k) (.inl 3)).bind fun σ_28 => (m_Place_init (b + 38 + 3 * k) σ_28 (b + 38 + 3 * k + 1)).bind fun w29 => (sQ w29.1 2 3 (b + 3) (nI k) (b + 38 + 3 * k)).bind fun σ_30 => some (σ_30, w29.2)) (fun q => PI b (k + 1) σ0 q.1 ∧ q.2 = b + 38 + 3 * (k + 1)) := by
  obtain ⟨h1, h2, h3⟩ := h
  refine ev_bs (a := pN σ (b + 38 + 3 * k) (.inl 3)) rfl ?_
  refine ev_b (x_place0 (σ := pN σ (b + 38 + 3 * k) (.inl 3)) (p := b + 38 + 3 * k) (by rw [z_gK_pN, if_pos rfl]) (by omega)) (fun w hw => ?_)
  obtain ⟨σ2, n2⟩ := w
  obtain ⟨w1, w2, w3⟩ := hw
  have w1 : n2 = b + 38 + 3 * k + 1 + 2 := w1
  have w2 : PL0 σ2 (b + 38 + 3 * k) (b + 38 + 3 * k + 1) (b + 38 + 3 * k + 2) := w2
  have s2 : Sam (fun a => a < b + 38 + 3 * k) σ σ2 := Sam_tr (P := fun a => a < b + 38 + 3 * k) (Sam_pN Sam_rf (fun x hx => Nat.ne_of_lt hx)) w3 (fun a ha => ⟨ha, Nat.ne_of_lt ha, Nat.lt_succ_of_lt ha⟩)
  have k7 : gK σ2 (b + 3) = some (.inr (2, 16)) := (s2 (b + 3) (show b + 3 < b + 38 + 3 * k by omega)).1.trans h2
  refine ev_bs (sQ_nI k7 w2.1 hk (by decide)) ?_
  refine ev_some ⟨⟨?_, k7, fun i hi => ?_⟩, show n2 = _ by omega⟩
  · refine Sam_pB (Sam_tr h1 s2 (fun a ha => ⟨ha, show a < b + 38 + 3 * k by have := ha.1; omega⟩)) (fun x hx => hx.2)
  · rw [z_gQ_pB, if_pos rfl]
    have e9 : b + 39 + 3 * i = b + 38 + 3 * i + 1 := by omega
    have e10 : b + 40 + 3 * i = b + 38 + 3 * i + 2 := by omega
    have sB : ∀ u, Sam (fun a => a ≠ b + 3) σ2 (pB σ2 (b + 3) u) := fun u => Sam_pB Sam_rf (fun x hx => hx)
    by_cases e : i = k
    · subst e
      rw [va_up_self, e9, e10]
      exact ⟨rfl, PL0_s w2 (sB _) (show b + 38 + 3 * i ≠ b + 3 by omega) (show b + 38 + 3 * i + 1 ≠ b + 3 by omega) (show b + 38 + 3 * i + 2 ≠ b + 3 by omega)⟩
    · rw [va_up_ne _ _ e, (s2 (b + 3) (show b + 3 < b + 38 + 3 * k by omega)).2.2.2.2]
      obtain ⟨g1, g2⟩ := h3 i (by omega)
      exact ⟨g1, PL0_s (P := fun a => a ≠ b + 3) (PL0_s (P := fun a => a < b + 38 + 3 * k) g2 s2 (show b + 38 + 3 * i < b + 38 + 3 * k by omega) (show b + 39 + 3 * i < b + 38 + 3 * k by omega) (show b + 40 + 3 * i < b + 38 + 3 * k by omega)) (sB _) (show b + 38 + 3 * i ≠ b + 3 by omega) (show b + 39 + 3 * i ≠ b + 3 by omega) (show b + 40 + 3 * i ≠ b + 3 by omega)⟩
/-- the wants, made so far -/
def WI (b k : Nat) (σ0 σ : fr_S) : Prop := Sam (fun a => a < b + 86 ∧ a ≠ b + 4) σ0 σ ∧ gK σ (b + 4) = some (.inr (3, 10)) ∧ ∀ i, i < k → gQ σ (b + 4) i = some (b + 86 + 4 * i) ∧ WT0 σ (b + 86 + 4 * i) (b + 87 + 4 * i) (b + 88 + 4 * i) (b + 89 + 4 * i)
theorem WI_step {b k : Nat} {σ0 σ : fr_S} (h : WI b k σ0 σ) (hk : k < 10) : ev ((nC σ (b + 86 + 4 * k) (.inl 7)).bind fun σ_28 => (m_Want_init (b + 86 + 4 * k) σ_28 (b + 86 + 4 * k + 1)).bind fun w29 => (sQ w29.1 3 7 (b + 4) (nI k) (b + 86 + 4 * k)).bind fun σ_30 => some (σ_30, w29.2)) (fun q => WI b (k + 1) σ0 q.1 ∧ q.2 = b + 86 + 4 * (k + 1)) := by
  obtain ⟨h1, h2, h3⟩ := h
  refine ev_bs (a := pN σ (b + 86 + 4 * k) (.inl 7)) rfl ?_
  refine ev_b (x_want0 (σ := pN σ (b + 86 + 4 * k) (.inl 7)) (w := b + 86 + 4 * k) (by rw [z_gK_pN, if_pos rfl]) (by omega)) (fun w hw => ?_)
  obtain ⟨σ2, n2⟩ := w
  obtain ⟨w1, w2, w3⟩ := hw
  have w1 : n2 = b + 86 + 4 * k + 1 + 3 := w1
  have w2 : WT0 σ2 (b + 86 + 4 * k) (b + 86 + 4 * k + 1) (b + 86 + 4 * k + 2) (b + 86 + 4 * k + 3) := w2
  have s2 : Sam (fun a => a < b + 86 + 4 * k) σ σ2 := Sam_tr (P := fun a => a < b + 86 + 4 * k) (Sam_pN Sam_rf (fun x hx => Nat.ne_of_lt hx)) w3 (fun a ha => ⟨ha, Nat.ne_of_lt ha, Nat.lt_succ_of_lt ha⟩)
  have k7 : gK σ2 (b + 4) = some (.inr (3, 10)) := (s2 (b + 4) (show b + 4 < b + 86 + 4 * k by omega)).1.trans h2
  refine ev_bs (sQ_nI k7 w2.1 hk (by decide)) ?_
  refine ev_some ⟨⟨?_, k7, fun i hi => ?_⟩, show n2 = _ by omega⟩
  · refine Sam_pB (Sam_tr h1 s2 (fun a ha => ⟨ha, show a < b + 86 + 4 * k by have := ha.1; omega⟩)) (fun x hx => hx.2)
  · rw [z_gQ_pB, if_pos rfl]
    have e9 : b + 87 + 4 * i = b + 86 + 4 * i + 1 := by omega
    have e10 : b + 88 + 4 * i = b + 86 + 4 * i + 2 := by omega
    have e11 : b + 89 + 4 * i = b + 86 + 4 * i + 3 := by omega
    have sB : ∀ u, Sam (fun a => a ≠ b + 4) σ2 (pB σ2 (b + 4) u) := fun u => Sam_pB Sam_rf (fun x hx => hx)
    by_cases e : i = k
    · subst e
      rw [va_up_self, e9, e10, e11]
      exact ⟨rfl, WT0_s w2 (sB _) (show b + 86 + 4 * i ≠ b + 4 by omega) (show b + 86 + 4 * i + 1 ≠ b + 4 by omega) (show b + 86 + 4 * i + 2 ≠ b + 4 by omega) (show b + 86 + 4 * i + 3 ≠ b + 4 by omega)⟩
    · rw [va_up_ne _ _ e, (s2 (b + 4) (show b + 4 < b + 86 + 4 * k by omega)).2.2.2.2]
      obtain ⟨g1, g2⟩ := h3 i (by omega)
      exact ⟨g1, WT0_s (P := fun a => a ≠ b + 4) (WT0_s (P := fun a => a < b + 86 + 4 * k) g2 s2 (show b + 86 + 4 * i < b + 86 + 4 * k by omega) (show b + 87 + 4 * i < b + 86 + 4 * k by omega) (show b + 88 + 4 * i < b + 86 + 4 * k by omega) (show b + 89 + 4 * i < b + 86 + 4 * k by omega)) (sB _) (show b + 86 + 4 * i ≠ b + 4 by omega) (show b + 87 + 4 * i ≠ b + 4 by omega) (show b + 88 + 4 * i ≠ b + 4 by omega) (show b + 89 + 4 * i ≠ b + 4 by omega)⟩
theorem x_wants_L {b : Nat} {σ0 : fr_S} (hk5 : gK σ0 b = some (.inl 1)) (hp : gP σ0 69 b = some (b + 4)) : ∀ (n k : Nat) (σ : fr_S), WI b k σ0 σ → k ≤ 10 → 10 - k < n → ev (m_FR_init_L146 n b (nI k) σ (b + 86 + 4 * k) (85 + 4 * k) (3208 + 117 * k)) (fun q => WI b 10 σ0 q.1 ∧ q.2 = b + 126) := by
  intro n
  induction n with
  | zero => intro k σ _ _ h; omega
  | succ n ih =>
    intro k σ h hk hn
    unfold m_FR_init_L146
    refine ev_if (fun z => ?_) (fun z => ?_)
    · rw [nI_lit10, nI_leI (by omega) (by omega)] at z
      have e : k = 10 := by omega
      subst e
      exact ev_bs (oR_k (by omega)) (ev_some ⟨h, rfl⟩)
    · rw [nI_lit10, nI_leI (by omega) (by omega)] at z
      have s5 := h.1 b (show b < b + 86 ∧ b ≠ b + 4 by omega)
      refine ev_bs (oP_g (s5.1.trans hk5) ((s5.2.2.1 69).trans hp)) ?_
      refine ev_bs (oR_k (by omega)) ?_
      obtain ⟨q, hq, hq2, hq3⟩ := WI_step h (by omega)
      obtain ⟨σ9, e9, hq⟩ := fr_bind hq
      obtain ⟨w10, e10, hq⟩ := fr_bind hq
      obtain ⟨σ11, e11, hq⟩ := fr_bind hq
      cases hq
      refine ev_bs e9 ?_
      refine ev_bs (oR_k (by omega)) ?_
      refine ev_bs e10 ?_
      refine ev_bs e11 ?_
      have hq3 : w10.2 = b + 86 + 4 * (k + 1) := hq3
      rw [hq3, nI_1]
      exact ih (k + 1) σ11 hq2 (by omega) (by omega)
theorem x_places_L {b : Nat} {σ0 : fr_S} (hk5 : gK σ0 b = some (.inl 1)) (hp : gP σ0 67 b = some (b + 3)) (hp2 : gP σ0 69 b = some (b + 4)) (hk4 : gK σ0 (b + 4) = some (.inr (3, 10))) : ∀ (n k : Nat) (σ : fr_S), PI b k σ0 σ → k ≤ 16 → 16 - k < n → ev (m_FR_init_L119 n b (nI k) σ (b + 38 + 3 * k) (37 + 3 * k) (1416 + 112 * k)) (fun q => (∃ σ1, PI b 16 σ0 σ1 ∧ WI b 10 σ1 q.1) ∧ q.2 = b + 126) := by
  intro n
  induction n with
  | zero => intro k σ _ _ h; omega
  | succ n ih =>
    intro k σ h hk hn
    unfold m_FR_init_L119
    have s5 := h.1 b (show b < b + 38 ∧ b ≠ b + 3 by omega)
    refine ev_if (fun z => ?_) (fun z => ?_)
    · rw [nI_lit16, nI_leI (by omega) (by omega)] at z
      have e : k = 16 := by omega
      subst e
      have s4 := h.1 (b + 4) (show b + 4 < b + 38 ∧ b + 4 ≠ b + 3 by omega)
      have key := x_wants_L (b := b) (σ0 := σ) (s5.1.trans hk5) ((s5.2.2.1 69).trans hp2) 1000 0 σ ⟨Sam_rf, s4.1.trans hk4, fun i hi => by omega⟩ (by omega) (by omega)
      rw [nI_0] at key
      refine ev_mono key (fun q hq => ⟨⟨σ, h, hq.1⟩, hq.2⟩)
    · rw [nI_lit16, nI_leI (by omega) (by omega)] at z
      refine ev_bs (oP_g (s5.1.trans hk5) ((s5.2.2.1 67).trans hp)) ?_
      refine ev_bs (oR_k (by omega)) ?_
      obtain ⟨q, hq, hq2, hq3⟩ := PI_step h (by omega)
      obtain ⟨σ9, e9, hq⟩ := fr_bind hq
      obtain ⟨w10, e10, hq⟩ := fr_bind hq
      obtain ⟨σ11, e11, hq⟩ := fr_bind hq
      cases hq
      refine ev_bs e9 ?_
      refine ev_bs (oR_k (by omega)) ?_
      refine ev_bs e10 ?_
      refine ev_bs e11 ?_
      have hq3 : w10.2 = b + 38 + 3 * (k + 1) := hq3
      rw [hq3, nI_1]
      exact ih (k + 1) σ11 hq2 (by omega) (by omega)
