/-! what a pure function comes to -/
def ev {α : Type} (o : Option α) (Q : α → Prop) : Prop := ∃ a, o = some a ∧ Q a
theorem ev_some {α : Type} {a : α} {Q : α → Prop} (h : Q a) : ev (some a) Q := ⟨a, rfl, h⟩
theorem ev_bs {α β : Type} {o : Option α} {a : α} {f : α → Option β} {Q : β → Prop} (ho : o = some a) (h : ev (f a) Q) : ev (o.bind f) Q := by
  obtain ⟨b, hb, hq⟩ := h
  exact ⟨b, by rw [ho]; exact hb, hq⟩
theorem ev_b {α β : Type} {o : Option α} {f : α → Option β} {P : α → Prop} {Q : β → Prop} (ho : ev o P) (h : ∀ a, P a → ev (f a) Q) : ev (o.bind f) Q := by
  obtain ⟨a, ha, hp⟩ := ho
  exact ev_bs ha (h a hp)
theorem ev_if {α : Type} {c : Prop} {hd : Decidable c} {x y : Option α} {Q : α → Prop} (h1 : c → ev x Q) (h2 : ¬ c → ev y Q) : ev (if c then x else y) Q := by
  by_cases hc : c
  · rw [if_pos hc]; exact h1 hc
  · rw [if_neg hc]; exact h2 hc
theorem ev_mono {α : Type} {o : Option α} {P Q : α → Prop} (h : ev o P) (hm : ∀ a, P a → Q a) : ev o Q := by
  obtain ⟨a, ha, hp⟩ := h
  exact ⟨a, ha, hm a hp⟩
/-- whole numbers: an Int32 between -1 and a bound is a number -/
theorem nI_get {x : Int32} {n : Nat} (hn : n < 2 ^ 31) (h0 : ¬ x < 0) (h1 : ¬ nI n ≤ x) : ∃ j : Nat, j < n ∧ x = nI j := by
  rcases pk_ix x hn with h | h | h
  · exact absurd h h0
  · exact absurd h h1
  · exact h
theorem nI_lit8 : (8 : Int32) = nI 8 := by decide +kernel
theorem nI_lit50 : (50 : Int32) = nI 50 := by decide +kernel
theorem nI_lit16 : (16 : Int32) = nI 16 := by decide +kernel
theorem nI_lit10 : (10 : Int32) = nI 10 := by decide +kernel
theorem nI_lit100 : (100 : Int32) = nI 100 := by decide +kernel
theorem nI_lit1 : (1 : Int32) = nI 1 := by decide +kernel
theorem nI_lit6 : (6 : Int32) = nI 6 := by decide +kernel
theorem nI_lit9 : (9 : Int32) = nI 9 := by decide +kernel
/-! THE REFERENCE'S INVARIANT, in pieces over its arrays -/
def I_pl (np : Nat) (ho ra le : Nat → Int32) : Prop := ∀ i, i < np → (∃ h, h < 8 ∧ ho i = nI h) ∧ (∃ r, 1 ≤ r ∧ r ≤ 50 ∧ ra i = nI r) ∧ (le i = -1 ∨ ∃ j, j < np ∧ le i = nI j)
def I_sz (si cu cb : Nat → Int32) : Prop := ∀ i, i < 16 → (∃ s, s ≤ 100 ∧ si i = nI s) ∧ (∃ k, k ≤ 9 ∧ cu i = nI k) ∧ ∃ k, k ≤ 100 ∧ cb i = nI k
def I_by (n : Nat) (by_ : Nat → Int32) : Prop := ∀ k, k < n → ∃ x, x < 256 ∧ by_ k = nI x
def I_wp (np : Nat) (pm po : Nat → Int32) : Prop := ∀ j, j < 10 → ∃ m, m ≤ 6 ∧ pm j = nI m ∧ ∀ k, k < m → ∃ p, p < np ∧ po (6 * j + k) = nI p
def I_ws (nw re : Nat) (pm st at_ ha fa : Nat → Int32) : Prop := ∀ j, j < 10 → (∃ s, s ≤ 4 ∧ st j = nI s ∧ ((s = 1 ∨ s = 2) → j < nw ∧ ∃ m a, m ≤ 6 ∧ pm j = nI m ∧ at_ j = nI a ∧ a < m)) ∧ (∃ n, n ≤ 100 ∧ ha j = nI n) ∧ ∃ f, f ≤ re ∧ fa j = nI f
def I_ke (nw nk : Nat) (go ke ks : Nat → Int32) : Prop := (∀ k, k < nk → (∃ j, j < nw ∧ ke k = go j) ∧ ∃ n, n ≤ 100 ∧ ks k = nI n) ∧ ∀ k k', k < k' → k' < nk → ke k ≠ ke k'
def I_to (np nw nt : Nat) (ba pm po st at_ tw tp : Nat → Int32) : Prop := (∀ i, i < nt → ∃ w k m p, w < nw ∧ m ≤ 6 ∧ pm w = nI m ∧ k < m ∧ p < np ∧ po (6 * w + k) = nI p ∧ tw i = nI w ∧ tp i = nI p ∧ ba p = 1 ∧ ((st w = 1 ∨ st w = 2) → ∀ a, at_ w = nI a → a < m → po (6 * w + a) ≠ nI p)) ∧ ∀ i i', i < i' → i' < nt → ¬ (tw i = tw i' ∧ tp i = tp i')
def I_la (nw nl : Nat) (la : Nat → Int32) : Prop := (∀ k, k < nl → ∃ w, w < nw ∧ la k = nI w) ∧ ∀ k k', k < k' → k' < nl → la k ≠ la k'
def I_fi (nf : Nat) (pa pn : Nat → Int32) : Prop := ∀ f, f < nf → ∃ a n, a + n ≤ 100 ∧ pa f = nI a ∧ pn f = nI n
def M_I (c np nw nk nt nl nf re : Nat) (τ : fr_S) : Prop :=
  (np ≤ 16 ∧ gI τ 6 c = nI np) ∧ (nw ≤ 10 ∧ gI τ 7 c = nI nw) ∧ gI τ 8 c = nI nk ∧ gI τ 9 c = nI nt ∧ gI τ 10 c = nI nl ∧ (nf ≤ 33 ∧ gI τ 39 c = nI nf) ∧ (re ≤ 5 ∧ gI τ 0 c = nI re) ∧
  I_pl np (gV τ (c + 3)) (gV τ (c + 4)) (gV τ (c + 6)) ∧ I_sz (gV τ (c + 5)) (gV τ (c + 7)) (gV τ (c + 8)) ∧ I_by 1600 (gV τ (c + 9)) ∧ I_wp np (gV τ (c + 15)) (gV τ (c + 16)) ∧ I_ws nw re (gV τ (c + 15)) (gV τ (c + 17)) (gV τ (c + 18)) (gV τ (c + 19)) (gV τ (c + 23)) ∧ I_by 1000 (gV τ (c + 20)) ∧ I_ke nw nk (gV τ (c + 14)) (gV τ (c + 24)) (gV τ (c + 25)) ∧ I_by 1000 (gV τ (c + 26)) ∧
  I_to np nw nt (gV τ (c + 13)) (gV τ (c + 15)) (gV τ (c + 16)) (gV τ (c + 17)) (gV τ (c + 18)) (gV τ (c + 27)) (gV τ (c + 28)) ∧ I_la nw nl (gV τ (c + 30)) ∧ I_fi nf (gV τ (c + 33)) (gV τ (c + 34))
def MI (c : Nat) (τ : fr_S) : Prop := Sm c τ ∧ ∃ np nw nk nt nl nf re, M_I c np nw nk nt nl nf re τ
theorem M_code {c : Nat} {τ : fr_S} {v : Int32} (h : MI c τ) : MI c (pI τ 1 c v) := by
  obtain ⟨hs, np, nw, nk, nt, nl, nf, re, hI⟩ := h
  refine ⟨hs, np, nw, nk, nt, nl, nf, re, ?_⟩
  simpa [M_I, gV_pI, gI_pIx] using hI
theorem md_isPlace {c np : Nat} {τ : fr_S} (hs : Sm c τ) (h1 : np ≤ 16 ∧ gI τ 6 c = nI np) (x : Int32) : ev (m_Md_isPlace c x τ) (fun r => (r = 0 ∧ ¬ (¬ x < 0 ∧ ¬ nI np ≤ x)) ∨ (r = 1 ∧ ∃ j, j < np ∧ x = nI j)) := by
  unfold m_Md_isPlace
  refine ev_if (fun h => ev_some (Or.inl ⟨rfl, fun z => z.1 h⟩)) (fun h => ?_)
  refine ev_bs ((mI hs).trans (congrArg some h1.2)) ?_
  refine ev_if (fun h2 => ev_some (Or.inl ⟨rfl, fun z => z.2 h2⟩)) (fun h2 => ev_some (Or.inr ⟨rfl, nI_get (by omega) h h2⟩))
theorem md_isWant {c nw : Nat} {τ : fr_S} (hs : Sm c τ) (h1 : nw ≤ 10 ∧ gI τ 7 c = nI nw) (x : Int32) : ev (m_Md_isWant c x τ) (fun r => (r = 0 ∧ ¬ (¬ x < 0 ∧ ¬ nI nw ≤ x)) ∨ (r = 1 ∧ ∃ j, j < nw ∧ x = nI j)) := by
  unfold m_Md_isWant
  refine ev_if (fun h => ev_some (Or.inl ⟨rfl, fun z => z.1 h⟩)) (fun h => ?_)
  refine ev_bs ((mI hs).trans (congrArg some h1.2)) ?_
  refine ev_if (fun h2 => ev_some (Or.inl ⟨rfl, fun z => z.2 h2⟩)) (fun h2 => ev_some (Or.inr ⟨rfl, nI_get (by omega) h h2⟩))
theorem md_credential {c : Nat} {τ : fr_S} (h : MI c τ) (x1 x2 : Int32) : ev (m_Md_credential c x1 x2 τ) (fun q => q.1 = (if x1 < 0 then 0 else if x1 < 8 then 1 else 0) ∧ MI c q.2) := by
  unfold m_Md_credential
  refine ev_bs (mSI h.1) ?_
  have h := M_code (v := 0) h
  generalize pI τ 1 c 0 = τ at h ⊢
  refine ev_if (fun h1 => ev_some ⟨by rw [if_pos h1], h⟩) (fun h1 => ?_)
  refine ev_if (fun h2 => ?_) (fun h2 => ev_some ⟨by rw [if_neg h1, if_neg h2], h⟩)
  obtain ⟨i, hi, rfl⟩ := nI_get (x := x1) (n := 8) (by decide) h1 (by rw [← nI_lit8]; exact Int32.not_le.mpr h2)
  refine ev_bs (mP4 h.1) ?_
  refine ev_bs (mS1 h.1 hi) ?_
  refine ev_some ⟨by rw [if_neg h1, if_pos h2], ?_⟩
  obtain ⟨hs, np, nw, nk, nt, nl, nf, re, hI⟩ := h
  refine ⟨hs, np, nw, nk, nt, nl, nf, re, ?_⟩
  simpa [M_I, gV_pAx, gI_pA] using hI
