/-- the files of an unpack: all else is as it was -/
theorem RN_fi {b c np nw nk nt nl nf nf' : Nat} {σ τ σ' τ' : fr_S} (h : RN b c np nw nk nt nl nf σ τ) (x1 : ∀ f a, f ≠ 132 → gI σ' f a = gI σ f a) (x2 : ∀ a, (a < b + 34 ∨ b + 37 < a) → gV σ' a = gV σ a) (m1 : ∀ f, f ≠ 39 → gI τ' f c = gI τ f c) (m2 : ∀ a, (a < 31 ∨ 34 < a) → gV τ' (c + a) = gV τ (c + a)) (cf : nf' ≤ 33 ∧ gI σ' 132 (b + 33) = nI nf' ∧ gI τ' 39 c = nI nf') (hf : R_f b c nf' σ' τ') : RN b c np nw nk nt nl nf' σ' τ' := by
  obtain ⟨h_c, h_g, h_h, h_p, h_b, h_w, h_k, h_t, h_l, h_f⟩ := h
  have hnk := h_c.2.2.1.1
  refine ⟨?_, ?_, ?_, ?_, ?_, ?_, ?_, ?_, ?_, hf⟩
  · obtain ⟨c1, c2, c3, c4, c5, c6⟩ := h_c
    refine ⟨⟨c1.1, ?_, ?_⟩, ⟨c2.1, ?_, ?_⟩, ⟨c3.1, ?_, ?_⟩, ⟨c4.1, ?_, ?_⟩, ⟨c5.1, ?_, ?_⟩, cf⟩
    · rw [x1 _ _ (by decide)]; exact c1.2.1
    · rw [m1 _ (by decide)]; exact c1.2.2
    · rw [x1 _ _ (by decide)]; exact c2.2.1
    · rw [m1 _ (by decide)]; exact c2.2.2
    · rw [x1 _ _ (by decide)]; exact c3.2.1
    · rw [m1 _ (by decide)]; exact c3.2.2
    · rw [x1 _ _ (by decide)]; exact c4.2.1
    · rw [m1 _ (by decide)]; exact c4.2.2
    · rw [x1 _ _ (by decide)]; exact c5.2.1
    · rw [m1 _ (by decide)]; exact c5.2.2
  · refine ⟨?_, ?_, ?_⟩
    · rw [x1 _ _ (by decide), m1 _ (by decide)]; exact h_g.1
    · rw [x1 _ _ (by decide), m1 _ (by decide)]; exact h_g.2.1
    · rw [x1 _ _ (by decide), m1 _ (by decide)]; exact h_g.2.2
  · refine ⟨fun i hi => ?_, fun i hi => ?_⟩
    · rw [x2 _ (by omega), m2 _ (by decide)]; exact h_h.1 i hi
    · rw [x2 _ (by omega), m2 _ (by decide)]; exact h_h.2 i hi
  · intro i hi
    rw [x1 193 _ (by decide), x1 194 _ (by decide), x1 195 _ (by decide), x1 196 _ (by decide), x1 197 _ (by decide), x1 198 _ (by decide), x1 199 _ (by decide), x1 200 _ (by decide), x1 201 _ (by decide), m2 3 (by decide), m2 4 (by decide), m2 6 (by decide), m2 7 (by decide), m2 8 (by decide), m2 10 (by decide), m2 11 (by decide), m2 12 (by decide), m2 13 (by decide)]
    exact h_p i hi
  · intro i hi
    have g := h_b i hi
    refine ⟨?_, fun m k e hm hk => ?_⟩
    · rw [x1 _ _ (by decide), m2 5 (by decide)]; exact g.1
    · rw [m2 5 (by decide)] at e
      rw [x2 _ (by omega), m2 9 (by decide)]
      exact g.2 m k e hm hk
  · intro i hi
    obtain ⟨g1, g2, g3, g4, g5, g6, g7, g8⟩ := h_w i hi
    have q17 := congrFun (m2 17 (by decide)) i
    refine ⟨?_, ?_, ?_, ?_, fun m k em hm hk => ?_, fun z => ?_, fun z => ?_, fun z => ?_⟩
    · rw [x1 _ _ (by decide), m2 14 (by decide)]; exact g1
    · rw [x1 _ _ (by decide), m2 15 (by decide)]; exact g2
    · rw [x1 _ _ (by decide), q17]; exact g3
    · rw [x1 _ _ (by decide), m2 22 (by decide)]; exact g4
    · rw [m2 15 (by decide)] at em
      rw [x2 _ (by omega), m2 16 (by decide)]
      exact g5 m k em hm hk
    · rw [q17] at z
      rw [x1 453 _ (by decide), x1 454 _ (by decide), m2 18 (by decide), m2 23 (by decide)]
      exact g6 z
    · rw [q17] at z
      rw [x1 _ _ (by decide), m2 21 (by decide)]
      exact g7 z
    · rw [q17] at z
      have g8 := g8 z
      refine ⟨?_, fun m k em hm hk => ?_⟩
      · rw [x1 _ _ (by decide), m2 19 (by decide)]; exact g8.1
      · rw [m2 19 (by decide)] at em
        rw [x2 _ (by omega), m2 20 (by decide)]
        exact g8.2 m k em hm hk
  · intro i hi
    obtain ⟨g1, g2⟩ := h_k i hi
    refine ⟨?_, ?_, fun m k e hm hk => ?_⟩
    · rw [x2 _ (by omega), m2 24 (by decide)]; exact g1
    · rw [x1 _ _ (by decide), m2 25 (by decide)]; exact g2.1
    · rw [m2 25 (by decide)] at e
      rw [x2 _ (by omega), m2 26 (by decide)]
      exact g2.2 m k e hm hk
  · intro i hi
    rw [x2 _ (by omega), x2 _ (by omega), x2 _ (by omega), m2 27 (by decide), m2 28 (by decide), m2 29 (by decide)]
    exact h_t i hi
  · intro i hi
    rw [x2 _ (by omega), m2 30 (by decide)]
    exact h_l i hi
theorem CR_mk {σ σ' : fr_S} {r v len : Nat} {f : Nat → Nat} (h : CR σ r v len f) (hs : RowAt σ' r v) (e1 : gI σ' 257 r = gI σ 257 r) (e2 : gV σ' v = gV σ v) : CR σ' r v len f := ⟨hs, e1.trans h.2.1, h.2.2.1, fun k hk => ⟨(h.2.2.2 k hk).1, by rw [e2]; exact (h.2.2.2 k hk).2⟩⟩
theorem MR_mk {c j len : Nat} {τ τ' : fr_S} {f : Nat → Nat} (h : MR c j τ len f) (hm : Sm c τ') (e : gV τ' (c + 20) = gV τ (c + 20)) : MR c j τ' len f := ⟨hm, h.2.1, h.2.2.1, fun k hk => ⟨(h.2.2.2 k hk).1, by rw [e]; exact (h.2.2.2 k hk).2⟩⟩
theorem hs_eq {σ : fr_S} {r v len a a' q : Nat} {f : Nat → Nat} (h : CR σ r v len f) (ha : a + q ≤ len) (ha' : a' + q ≤ len) : ∀ (n k : Nat), k ≤ q → q - k < n → (∀ t, t < k → f (a + t) = f (a' + t)) → ∃ x, m_Row_hasSame_L3 n r (nI a) (nI a') (nI q) (nI k) σ = some x ∧ ((x = 1 ∧ ∀ t, t < q → f (a + t) = f (a' + t)) ∨ (x = 0 ∧ ∃ t, t < q ∧ f (a + t) ≠ f (a' + t))) := by
  have hk0 := h.1.1
  have hl := h.2.2.1
  intro n
  induction n with
  | zero => intro k _ h; omega
  | succ n ih =>
    intro k hk hn ho
    unfold m_Row_hasSame_L3
    by_cases q1 : q ≤ k
    · exact ⟨1, oif_p (by rw [nI_leI (by omega) (by omega)]; exact q1) rfl, Or.inl ⟨rfl, fun t ht => ho t (by omega)⟩⟩
    · have b1 := (h.2.2.2 (a + k) (by omega)).1
      have b2 := (h.2.2.2 (a' + k) (by omega)).1
      by_cases e : f (a + k) = f (a' + k)
      · obtain ⟨x, ex, hx⟩ := ih (k + 1) (by omega) (by omega) (fun t ht => by
          by_cases et : t = k
          · rw [et]; exact e
          · exact ho t (by omega))
        refine ⟨x, oif_n (by rw [nI_leI (by omega) (by omega)]; exact q1) ?_, hx⟩
        rw [nI_add, nI_add]
        refine obs (oK_k hk0) (obs (cr_at h (by omega)) (obs (oK_k hk0) (obs (cr_at h (by omega)) (oif_p (by rw [e]) ?_))))
        rw [nI_1]
        exact ex
      · refine ⟨0, oif_n (by rw [nI_leI (by omega) (by omega)]; exact q1) ?_, Or.inr ⟨rfl, k, by omega, e⟩⟩
        rw [nI_add, nI_add]
        exact obs (oK_k hk0) (obs (cr_at h (by omega)) (obs (oK_k hk0) (obs (cr_at h (by omega)) (oif_n (fun z => e (nI_inj (by omega) (by omega) z)) rfl))))
theorem sp0 {c : Nat} {τ : fr_S} {y1 y2 y3 y6 : Int32} {n : Nat} : m_Md_isSamePath_L16 (n + 1) c y1 y2 y3 0 y6 τ = some 0 := by
  unfold m_Md_isSamePath_L16
  have z : oZ 0 = some () := if_pos (Or.inl rfl)
  by_cases q : y2 ≤ y6
  · exact oif_p q (obs z rfl)
  · exact oif_n q (oif_p rfl (obs z rfl))
theorem ps_L {c j len a a' q : Nat} {τ : fr_S} {f : Nat → Nat} (h : MR c j τ len f) (ha : a + q ≤ len) (ha' : a' + q ≤ len) : ∀ (n k : Nat), k ≤ q → q - k + 1 < n → (∀ t, t < k → f (a + t) = f (a' + t)) → ∃ x, m_Md_isSamePath_L16 n c (nI (100 * j + a)) (nI q) (nI (100 * j + a')) 1 (nI k) τ = some x ∧ ((x = 1 ∧ ∀ t, t < q → f (a + t) = f (a' + t)) ∨ (x = 0 ∧ ∃ t, t < q ∧ f (a + t) ≠ f (a' + t))) := by
  have hm := h.1
  have hj := h.2.1
  have hl := h.2.2.1
  intro n
  induction n with
  | zero => intro k _ h; omega
  | succ n ih =>
    intro k hk hn ho
    by_cases q1 : q ≤ k
    · refine ⟨1, ?_, Or.inl ⟨rfl, fun t ht => ho t (by omega)⟩⟩
      unfold m_Md_isSamePath_L16
      exact oif_p (by rw [nI_leI (by omega) (by omega)]; exact q1) (obs (show oZ 1 = some () from if_pos (Or.inr rfl)) rfl)
    · have b1 := (h.2.2.2 (a + k) (by omega)).1
      have b2 := (h.2.2.2 (a' + k) (by omega)).1
      have e1 : nI (100 * j + a) + nI k = nI (100 * j + (a + k)) := by rw [nI_add]; congr 1; omega
      have e2 : nI (100 * j + a') + nI k = nI (100 * j + (a' + k)) := by rw [nI_add]; congr 1; omega
      by_cases e : f (a + k) = f (a' + k)
      · obtain ⟨x, ex, hx⟩ := ih (k + 1) (by omega) (by omega) (fun t ht => by
          by_cases et : t = k
          · rw [et]; exact e
          · exact ho t (by omega))
        refine ⟨x, ?_, hx⟩
        unfold m_Md_isSamePath_L16
        refine oif_n (by rw [nI_leI (by omega) (by omega)]; exact q1) (oif_n (by decide) ?_)
        rw [e1, e2]
        refine obs (mP28 hm) (obs (mr_at h (by omega)) (obs (mP28 hm) (obs (mr_at h (by omega)) (oif_p (by rw [e]) ?_))))
        rw [nI_1]
        exact ex
      · refine ⟨0, ?_, Or.inr ⟨rfl, k, by omega, e⟩⟩
        unfold m_Md_isSamePath_L16
        refine oif_n (by rw [nI_leI (by omega) (by omega)]; exact q1) (oif_n (by decide) ?_)
        rw [e1, e2]
        refine obs (mP28 hm) (obs (mr_at h (by omega)) (obs (mP28 hm) (obs (mr_at h (by omega)) (oif_n (fun z => e (nI_inj (by omega) (by omega) z)) ?_))))
        obtain ⟨n', rfl⟩ : ∃ n', n = n' + 1 := ⟨n - 1, by omega⟩
        exact sp0
/-- what the reference does with the file that it found -/
def pT (c : Nat) (y1 y2 y3 y4 y5 y6 : Int32) (σ : fr_S) : Option fr_S :=
  (oI σ 0 39 c).bind fun v3 =>
  if y6 = v3 then
    (oP σ 0 42 c).bind fun q9 => (sV σ 0 q9 y6 (y2 - y1)).bind fun σ_10 => (oP σ_10 0 43 c).bind fun q11 => (sV σ_10 0 q11 y6 (y3 - y2)).bind fun σ_12 => (oI σ_12 0 39 c).bind fun v13 => (sI σ_12 0 39 c (v13 + 1)).bind fun σ_14 => (oP σ_14 0 40 c).bind fun q15 => (sV σ_14 0 q15 y6 (y4 - y1)).bind fun σ_16 => (oP σ_16 0 41 c).bind fun q17 => (sV σ_16 0 q17 y6 y5).bind fun σ_18 => some σ_18
  else
    (oP σ 0 40 c).bind fun q5 => (sV σ 0 q5 y6 (y4 - y1)).bind fun σ_6 => (oP σ_6 0 41 c).bind fun q7 => (sV σ_6 0 q7 y6 y5).bind fun σ_8 => some σ_8
def FO (c len nf : Nat) (τ : fr_S) : Prop := ∀ i, i < nf → ∃ a q, a + q ≤ len ∧ gV τ (c + 33) i = nI a ∧ gV τ (c + 34) i = nI q
theorem r_find {b c np nw nk nt nl nf j len s e : Nat} {σ τ : fr_S} {f : Nat → Nat} (hs : Sx b σ) (hR : RN b c np nw nk nt nl nf σ τ) (hC : CR σ (b + 87 + 4 * j) (b + 88 + 4 * j) len f) (hM : MR c j τ len f) (hF : FO c len nf τ) (hse : s ≤ e) (he : e ≤ len) (y4 y5 : Int32) : ∀ (n k : Nat), k ≤ nf → nf - k < n → ∃ i, i ≤ nf ∧ m_Files_findPath_L3 n (b + 33) (b + 87 + 4 * j) (nI s) (nI (e - s)) (nI k) σ = some (nI i) ∧ m_Md_putFile_L3 n c (nI (100 * j)) (nI (100 * j + s)) (nI (100 * j + e)) y4 y5 (nI k) τ = pT c (nI (100 * j)) (nI (100 * j + s)) (nI (100 * j + e)) y4 y5 (nI i) τ := by
  have hm := hM.1
  have hj := hM.2.1
  have hl := hM.2.2.1
  have hf := hR.1.2.2.2.2.2
  have hT := hs.1.2.2.2.2.2.2.2.2
  have hRf := hR.2.2.2.2.2.2.2.2.2
  intro n
  induction n with
  | zero => intro k _ h; omega
  | succ n ih =>
    intro k hk hn
    by_cases q1 : nf ≤ k
    · have : k = nf := by omega
      subst this
      refine ⟨k, by omega, ?_, ?_⟩
      · unfold m_Files_findPath_L3
        exact obs ((oI_k hT.2.1).trans (congrArg some hf.2.1)) (oif_p (Int32.le_refl _) (obs ((oI_k hT.2.1).trans (congrArg some hf.2.1)) rfl))
      · unfold m_Md_putFile_L3 pT
        exact obs ((mI hm).trans (congrArg some hf.2.2)) (oif_p (Int32.le_refl _) rfl)
    · obtain ⟨a, q, haq, ea, eq⟩ := hF k (by omega)
      obtain ⟨g1, g2, g3, g4⟩ := hRf k (by omega)
      have nle : ¬ nI nf ≤ nI k := by rw [nI_leI (by omega) (by omega)]; exact q1
      have c131 : oV σ 0 (b + 37) (nI k) = some (nI q) := (oV_nI (n := 33) hT.2.2.2.2.2.2.2.2.2 (by omega) (by decide)).trans (congrArg some (g4.trans eq))
      have c130 : oV σ 0 (b + 36) (nI k) = some (nI a) := (oV_nI (n := 33) hT.2.2.2.2.2.2.2.1 (by omega) (by decide)).trans (congrArg some (g3.trans ea))
      have e0 : nI (100 * j + e) - nI (100 * j + s) = nI (e - s) := by rw [pk_sub (by omega)]; congr 1; omega
      have e1 : nI (100 * j) + nI a = nI (100 * j + a) := nI_add _ _
      obtain ⟨i, hi, E, E'⟩ := ih (k + 1) (by omega) (by omega)
      have skipM : m_Md_isSamePath c (nI (100 * j + a)) (nI q) (nI (100 * j + s)) (nI (e - s)) τ = some 0 → m_Md_putFile_L3 (n + 1) c (nI (100 * j)) (nI (100 * j + s)) (nI (100 * j + e)) y4 y5 (nI k) τ = pT c (nI (100 * j)) (nI (100 * j + s)) (nI (100 * j + e)) y4 y5 (nI i) τ := by
        intro hsame
        unfold m_Md_putFile_L3
        refine obs ((mI hm).trans (congrArg some hf.2.2)) (oif_n nle (obs (mP42 hm) (obs ((mV33 hm (by omega)).trans (congrArg some ea)) (obs (mP43 hm) (obs ((mV34 hm (by omega)).trans (congrArg some eq)) (obs (mK hm) ?_))))))
        rw [e0, e1, nI_1]
        exact obs hsame (oif_p rfl E')
      by_cases q2 : q = e - s
      · have hsl : s + q ≤ len := by omega
        obtain ⟨x, ex, hx⟩ := hs_eq hC haq hsl 1000 0 (by omega) (by omega) (fun t ht => by omega)
        obtain ⟨x', ex', hx'⟩ := ps_L hM haq hsl 1000 0 (by omega) (by omega) (fun t ht => by omega)
        rw [nI_0] at ex ex'
        have exM : m_Md_isSamePath c (nI (100 * j + a)) (nI q) (nI (100 * j + s)) (nI (e - s)) τ = some x' := by
          unfold m_Md_isSamePath
          exact oif_p (by rw [q2]) ex'
        have exC : m_Row_hasSame (b + 87 + 4 * j) (nI a) (nI s) (nI (e - s)) σ = some x := by rw [← q2]; exact ex
        rcases hx with ⟨rfl, hx⟩ | ⟨rfl, t, ht, hx⟩
        · rcases hx' with ⟨rfl, hx'⟩ | ⟨rfl, t, ht, hx'⟩
          · refine ⟨k, by omega, ?_, ?_⟩
            · unfold m_Files_findPath_L3
              exact obs ((oI_k hT.2.1).trans (congrArg some hf.2.1)) (oif_n nle (obs (oP_g hT.2.1 hT.2.2.2.2.2.2.2.2.1) (obs c131 (oif_p (by rw [q2]) (obs (oP_g hT.2.1 hT.2.2.2.2.2.2.1) (obs c130 (obs (oK_k hC.1.1) (obs exC (oif_n (by decide) rfl)))))))))
            · unfold m_Md_putFile_L3 pT
              refine obs ((mI hm).trans (congrArg some hf.2.2)) (oif_n nle (obs (mP42 hm) (obs ((mV33 hm (by omega)).trans (congrArg some ea)) (obs (mP43 hm) (obs ((mV34 hm (by omega)).trans (congrArg some eq)) (obs (mK hm) ?_))))))
              rw [e1]
              refine obs (show m_Md_isSamePath c (nI (100 * j + a)) (nI q) (nI (100 * j + s)) (nI (100 * j + e) - nI (100 * j + s)) τ = some 1 by rw [e0]; exact exM) (oif_n (by decide) rfl)
          · exact absurd (hx t ht) hx'
        · rcases hx' with ⟨rfl, hx'⟩ | ⟨rfl, hx'⟩
          · exact absurd (hx' t ht) hx
          · refine ⟨i, hi, ?_, skipM exM⟩
            unfold m_Files_findPath_L3
            rw [nI_1]
            exact obs ((oI_k hT.2.1).trans (congrArg some hf.2.1)) (oif_n nle (obs (oP_g hT.2.1 hT.2.2.2.2.2.2.2.2.1) (obs c131 (oif_p (by rw [q2]) (obs (oP_g hT.2.1 hT.2.2.2.2.2.2.1) (obs c130 (obs (oK_k hC.1.1) (obs exC (oif_p rfl E)))))))))
      · have nq : ¬ nI q = nI (e - s) := fun z => q2 (nI_inj (by omega) (by omega) z)
        refine ⟨i, hi, ?_, skipM ?_⟩
        · unfold m_Files_findPath_L3
          rw [nI_1]
          exact obs ((oI_k hT.2.1).trans (congrArg some hf.2.1)) (oif_n nle (obs (oP_g hT.2.1 hT.2.2.2.2.2.2.2.2.1) (obs c131 (oif_n nq E))))
        · unfold m_Md_isSamePath
          exact oif_n nq sp0
