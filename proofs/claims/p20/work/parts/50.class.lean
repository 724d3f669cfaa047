/-! THE CLASS: where its cells lie, and the ranges that keep every call within them -/
def RowAt (σ : fr_S) (r v : Nat) : Prop := gK σ r = some (.inl 4) ∧ gP σ 256 r = some v ∧ gK σ v = some (.inr (0, 100))
def RI (σ : fr_S) (r v : Nat) : Prop := (∃ n, n ≤ 100 ∧ gI σ 257 r = nI n) ∧ ∀ k, k < 100 → ∃ x, x < 256 ∧ gV σ v k = nI x
/-- the rows of bytes -/
def pr (b r v : Nat) : Prop := (∃ i, i < 16 ∧ r = b + 39 + 3 * i ∧ v = b + 40 + 3 * i) ∨ (∃ j, j < 10 ∧ r = b + 87 + 4 * j ∧ v = b + 88 + 4 * j) ∨ ∃ i, i < 10 ∧ r = b + 8 + 2 * i ∧ v = b + 9 + 2 * i
def Sx0 (b : Nat) (σ : fr_S) : Prop := gK σ b = some (.inl 1) ∧ (gP σ 65 b = some (b + 1) ∧ gK σ (b + 1) = some (.inr (1, 8))) ∧ (gP σ 66 b = some (b + 2) ∧ gK σ (b + 2) = some (.inr (0, 8))) ∧ (gP σ 67 b = some (b + 3) ∧ gK σ (b + 3) = some (.inr (2, 16))) ∧ (gP σ 69 b = some (b + 4) ∧ gK σ (b + 4) = some (.inr (3, 10))) ∧
  (gP σ 71 b = some (b + 5) ∧ gK σ (b + 5) = some (.inl 5) ∧ gP σ 320 (b + 5) = some (b + 6) ∧ gK σ (b + 6) = some (.inr (0, 10)) ∧ gP σ 321 (b + 5) = some (b + 7) ∧ gK σ (b + 7) = some (.inr (4, 10))) ∧
  (gP σ 72 b = some (b + 28) ∧ gK σ (b + 28) = some (.inl 6) ∧ gP σ 384 (b + 28) = some (b + 29) ∧ gK σ (b + 29) = some (.inr (0, 60)) ∧ gP σ 385 (b + 28) = some (b + 30) ∧ gK σ (b + 30) = some (.inr (0, 60)) ∧ gP σ 386 (b + 28) = some (b + 31) ∧ gK σ (b + 31) = some (.inr (0, 60))) ∧
  (gP σ 73 b = some (b + 32) ∧ gK σ (b + 32) = some (.inr (0, 10))) ∧
  (gP σ 75 b = some (b + 33) ∧ gK σ (b + 33) = some (.inl 2) ∧ gP σ 128 (b + 33) = some (b + 34) ∧ gK σ (b + 34) = some (.inr (0, 33)) ∧ gP σ 129 (b + 33) = some (b + 35) ∧ gK σ (b + 35) = some (.inr (0, 33)) ∧ gP σ 130 (b + 33) = some (b + 36) ∧ gK σ (b + 36) = some (.inr (0, 33)) ∧ gP σ 131 (b + 33) = some (b + 37) ∧ gK σ (b + 37) = some (.inr (0, 33)))
def Sx (b : Nat) (σ : fr_S) : Prop := Sx0 b σ ∧
  (∀ i, i < 16 → gQ σ (b + 3) i = some (b + 38 + 3 * i) ∧ gK σ (b + 38 + 3 * i) = some (.inl 3) ∧ gP σ 192 (b + 38 + 3 * i) = some (b + 39 + 3 * i) ∧ RowAt σ (b + 39 + 3 * i) (b + 40 + 3 * i)) ∧
  (∀ j, j < 10 → gQ σ (b + 4) j = some (b + 86 + 4 * j) ∧ gK σ (b + 86 + 4 * j) = some (.inl 7) ∧ gP σ 448 (b + 86 + 4 * j) = some (b + 87 + 4 * j) ∧ RowAt σ (b + 87 + 4 * j) (b + 88 + 4 * j) ∧ gP σ 449 (b + 86 + 4 * j) = some (b + 89 + 4 * j) ∧ gK σ (b + 89 + 4 * j) = some (.inr (0, 6))) ∧
  ∀ i, i < 10 → gQ σ (b + 7) i = some (b + 8 + 2 * i) ∧ RowAt σ (b + 8 + 2 * i) (b + 9 + 2 * i)
def X_I (b np nw nk nt nl nf : Nat) (σ : fr_S) : Prop := (np ≤ 16 ∧ gI σ 68 b = nI np) ∧ (nw ≤ 10 ∧ gI σ 70 b = nI nw) ∧ (nk ≤ 10 ∧ gI σ 322 (b + 5) = nI nk) ∧ (nt ≤ 60 ∧ gI σ 387 (b + 28) = nI nt) ∧ (nl ≤ 10 ∧ gI σ 74 b = nI nl) ∧ (nf ≤ 33 ∧ gI σ 132 (b + 33) = nI nf) ∧
  (∀ i, i < 16 → (∃ h, h < 8 ∧ gI σ 193 (b + 38 + 3 * i) = nI h) ∧ (gI σ 195 (b + 38 + 3 * i) = -1 ∨ ∃ j, j < 16 ∧ gI σ 195 (b + 38 + 3 * i) = nI j)) ∧
  (∀ j, j < 10 → (∃ m, m ≤ 6 ∧ gI σ 450 (b + 86 + 4 * j) = nI m ∧ ∀ k, k < m → ∃ p, p < 16 ∧ gV σ (b + 89 + 4 * j) k = nI p) ∧ ∃ a, a ≤ 5 ∧ gI σ 453 (b + 86 + 4 * j) = nI a) ∧
  ∀ r v, pr b r v → RI σ r v
def XI (b : Nat) (σ : fr_S) : Prop := Sx b σ ∧ ∃ np nw nk nt nl nf, X_I b np nw nk nt nl nf σ
def xF : List Nat := [68, 70, 322, 387, 74, 132, 193, 195, 450, 453]
/-- a state that differs where the ranges don't look, or within its rows -/
theorem XI_mk {b : Nat} {σ σ' : fr_S} (h : XI b σ) (hs : Sx b σ') (e1 : ∀ f, f ∈ xF → ∀ a, gI σ' f a = gI σ f a) (e2 : ∀ j, j < 10 → gV σ' (b + 89 + 4 * j) = gV σ (b + 89 + 4 * j)) (e3 : ∀ r v, pr b r v → RI σ r v → RI σ' r v) : XI b σ' := by
  obtain ⟨-, np, nw, nk, nt, nl, nf, x1, x2, x3, x4, x5, x6, x7, x8, x9⟩ := h
  refine ⟨hs, np, nw, nk, nt, nl, nf, ?_, ?_, ?_, ?_, ?_, ?_, fun i hi => ?_, fun j hj => ?_, fun r v hp => e3 r v hp (x9 r v hp)⟩
  · rw [e1 68 (by decide)]; exact x1
  · rw [e1 70 (by decide)]; exact x2
  · rw [e1 322 (by decide)]; exact x3
  · rw [e1 387 (by decide)]; exact x4
  · rw [e1 74 (by decide)]; exact x5
  · rw [e1 132 (by decide)]; exact x6
  · rw [e1 193 (by decide), e1 195 (by decide)]; exact x7 i hi
  · rw [e1 450 (by decide), e1 453 (by decide), e2 j hj]; exact x8 j hj
theorem XI_o {b f a : Nat} {σ : fr_S} {v : Int32} (h : XI b σ) (hf : f ∉ xF) (hf2 : f ≠ 257) : XI b (pI σ f a v) :=
  XI_mk h h.1 (fun g hg a' => gI_pIf (fun z => hf (z ▸ hg))) (fun _ _ => rfl) (fun r w _ hr => ⟨by rw [gI_pIf (Ne.symm hf2)]; exact hr.1, hr.2⟩)
theorem XI_len {b r n : Nat} {σ : fr_S} (h : XI b σ) (hn : n ≤ 100) : XI b (pI σ 257 r (nI n)) := by
  refine XI_mk h h.1 (fun g hg a' => gI_pIf (fun z => by rw [z] at hg; exact absurd hg (by decide))) (fun _ _ => rfl) (fun r' w _ hr => ⟨?_, hr.2⟩)
  by_cases e : r' = r
  · rw [e, gI_pIs]; exact ⟨n, hn, rfl⟩
  · rw [gI_pIa e]; exact hr.1
theorem XI_val {b v k x : Nat} {σ : fr_S} (h : XI b σ) (hv : ∀ j, j < 10 → b + 89 + 4 * j ≠ v) (hx : x < 256) : XI b (pA σ v (upd (gV σ v) k (nI x))) := by
  refine XI_mk h h.1 (fun _ _ _ => rfl) (fun j hj => gV_pAn (hv j hj)) (fun r' w _ hr => ⟨hr.1, fun q hq => ?_⟩)
  by_cases e : w = v
  · rw [e, gV_pAs]
    by_cases e2 : q = k
    · rw [e2, upd_s]; exact ⟨x, hx, rfl⟩
    · rw [upd_n e2, ← e]; exact hr.2 q hq
  · rw [gV_pAn e]; exact hr.2 q hq
theorem XI_oA {b a : Nat} {σ : fr_S} {u : Nat → Int32} (h : XI b σ) (ha : a = b + 1 ∨ a = b + 2 ∨ a = b + 6 ∨ a = b + 29 ∨ a = b + 30 ∨ a = b + 31 ∨ a = b + 32 ∨ a = b + 34 ∨ a = b + 35 ∨ a = b + 36 ∨ a = b + 37) : XI b (pA σ a u) := by
  refine XI_mk h h.1 (fun _ _ _ => rfl) (fun j hj => gV_pAn (by omega)) (fun r w hp hr => ⟨hr.1, ?_⟩)
  have hw : w ≠ a := by
    rcases hp with ⟨i, hi, -, e⟩ | ⟨i, hi, -, e⟩ | ⟨i, hi, -, e⟩ <;> rw [e] <;> rcases ha with e2 | e2 | e2 | e2 | e2 | e2 | e2 | e2 | e2 | e2 | e2 <;> rw [e2] <;> omega
  rw [gV_pAn hw]
  exact hr.2
theorem XI_cpy {b v v0 n : Nat} {σ : fr_S} (h : XI b σ) (hv : ∀ j, j < 10 → b + 89 + 4 * j ≠ v) (hn : n ≤ 100) (h0 : ∀ k, k < 100 → ∃ x, x < 256 ∧ gV σ v0 k = nI x) : XI b (pA σ v (va_cpy (gV σ v0) (gV σ v) 0 0 n)) := by
  refine XI_mk h h.1 (fun _ _ _ => rfl) (fun j hj => gV_pAn (hv j hj)) (fun r' w _ hr => ⟨hr.1, fun q hq => ?_⟩)
  by_cases e : w = v
  · rw [e, gV_pAs]
    by_cases e2 : q < n
    · rw [pk_cpy_in (Nat.zero_le _) (by omega)]
      have := h0 (0 + (q - 0)) (by omega)
      exact this
    · rw [pk_cpy_out (Or.inr (by omega)), ← e]; exact hr.2 q hq
  · rw [gV_pAn e]; exact hr.2 q hq
theorem XI_row {b r v : Nat} {σ : fr_S} (h : XI b σ) (hp : pr b r v) : RowAt σ r v ∧ RI σ r v := by
  obtain ⟨hs, np, nw, nk, nt, nl, nf, x1, x2, x3, x4, x5, x6, x7, x8, x9⟩ := h
  refine ⟨?_, x9 r v hp⟩
  rcases hp with ⟨i, hi, rfl, rfl⟩ | ⟨i, hi, rfl, rfl⟩ | ⟨i, hi, rfl, rfl⟩
  · exact (hs.2.1 i hi).2.2.2
  · exact (hs.2.2.1 i hi).2.2.2.1
  · exact (hs.2.2.2 i hi).2
theorem pr_ne {b r v : Nat} (hp : pr b r v) : ∀ j, j < 10 → b + 89 + 4 * j ≠ v := by
  intro j hj
  rcases hp with ⟨i, hi, -, e⟩ | ⟨i, hi, -, e⟩ | ⟨i, hi, -, e⟩ <;> omega
theorem oP_g {σ : fr_S} {ci f a r : Nat} (hk : gK σ a = some (.inl ci)) (hp : gP σ f a = some r) : oP σ ci f a = some r := (oP_k hk).trans hp
theorem oQ_nI {σ : fr_S} {t a n i r : Nat} (hk : gK σ a = some (.inr (t, n))) (hi : i < n) (hn : n < 2 ^ 31) (hq : gQ σ a i = some r) : oQ σ t a (nI i) = some r := by
  unfold oQ
  rw [hk]
  have h1 : (nI i).toNatClampNeg = i := nI_clamp (by omega)
  have h2 : ¬ (nI i < 0 ∨ n ≤ (nI i).toNatClampNeg) := nI_in hi hn
  rw [h1] at h2
  simp only [true_and, h1]
  rw [if_pos h2]
  exact hq
theorem xP {b i : Nat} {σ : fr_S} (h : Sx b σ) (hi : i < 16) : oQ σ 2 (b + 3) (nI i) = some (b + 38 + 3 * i) := oQ_nI (n := 16) h.1.2.2.2.1.2 hi (by decide) (h.2.1 i hi).1
theorem xW {b j : Nat} {σ : fr_S} (h : Sx b σ) (hj : j < 10) : oQ σ 3 (b + 4) (nI j) = some (b + 86 + 4 * j) := oQ_nI (n := 10) h.1.2.2.2.2.1.2 hj (by decide) (h.2.2.1 j hj).1
theorem xp67 {b : Nat} {σ : fr_S} (h : Sx b σ) : oP σ 1 67 b = some (b + 3) := oP_g h.1.1 h.1.2.2.2.1.1
theorem xp69 {b : Nat} {σ : fr_S} (h : Sx b σ) : oP σ 1 69 b = some (b + 4) := oP_g h.1.1 h.1.2.2.2.2.1.1
theorem xp65 {b : Nat} {σ : fr_S} (h : Sx b σ) : oP σ 1 65 b = some (b + 1) := oP_g h.1.1 h.1.2.1.1
theorem xp66 {b : Nat} {σ : fr_S} (h : Sx b σ) : oP σ 1 66 b = some (b + 2) := oP_g h.1.1 h.1.2.2.1.1
theorem xp71 {b : Nat} {σ : fr_S} (h : Sx b σ) : oP σ 1 71 b = some (b + 5) := oP_g h.1.1 h.1.2.2.2.2.2.1.1
theorem xp72 {b : Nat} {σ : fr_S} (h : Sx b σ) : oP σ 1 72 b = some (b + 28) := oP_g h.1.1 h.1.2.2.2.2.2.2.1.1
theorem xp73 {b : Nat} {σ : fr_S} (h : Sx b σ) : oP σ 1 73 b = some (b + 32) := oP_g h.1.1 h.1.2.2.2.2.2.2.2.1.1
theorem xp75 {b : Nat} {σ : fr_S} (h : Sx b σ) : oP σ 1 75 b = some (b + 33) := oP_g h.1.1 h.1.2.2.2.2.2.2.2.2.1
theorem xI {b f : Nat} {σ : fr_S} (h : Sx b σ) : oI σ 1 f b = some (gI σ f b) := oI_k h.1.1
theorem xK {b : Nat} {σ : fr_S} (h : Sx b σ) : oK σ 1 b = some () := oK_k h.1.1
/-! rows -/
theorem x_at {b r v : Nat} {σ : fr_S} (h : XI b σ) (hp : pr b r v) (i : Int32) : ev (m_Row_at r i σ) (fun x => x = -1 ∨ ∃ y, y < 256 ∧ x = nI y) := by
  obtain ⟨⟨k1, k2, k3⟩, ⟨n, hn, hl⟩, hv⟩ := XI_row h hp
  unfold m_Row_at
  refine ev_if (fun _ => ev_some (Or.inl rfl)) (fun h0 => ?_)
  refine ev_bs ((oI_k k1).trans (congrArg some hl)) ?_
  refine ev_if (fun _ => ev_some (Or.inl rfl)) (fun h1 => ?_)
  obtain ⟨k, hk, rfl⟩ := nI_get (by omega) h0 h1
  refine ev_bs (oP_g k1 k2) ?_
  obtain ⟨x, hx, hxe⟩ := hv k (by omega)
  refine ev_bs ((oV_nI k3 (by omega) (by decide)).trans (congrArg some hxe)) ?_
  exact ev_some (Or.inr ⟨x, hx, rfl⟩)
theorem x_at_in {b r v k n : Nat} {σ : fr_S} (h : XI b σ) (hp : pr b r v) (hl : gI σ 257 r = nI n) (hn : n ≤ 100) (hk : k < n) : ev (m_Row_at r (nI k) σ) (fun x => ∃ y, y < 256 ∧ x = nI y) := by
  obtain ⟨⟨k1, k2, k3⟩, -, hv⟩ := XI_row h hp
  unfold m_Row_at
  refine ev_if (fun z => absurd z (nI_pos (by omega))) (fun _ => ?_)
  refine ev_bs ((oI_k k1).trans (congrArg some hl)) ?_
  refine ev_if (fun z => ?_) (fun _ => ?_)
  · rw [nI_leI (by omega) (by omega)] at z
    omega
  refine ev_bs (oP_g k1 k2) ?_
  obtain ⟨x, hx, hxe⟩ := hv k (by omega)
  refine ev_bs ((oV_nI k3 (by omega) (by decide)).trans (congrArg some hxe)) ?_
  exact ev_some ⟨x, hx, rfl⟩
theorem x_append {b r v x : Nat} {σ : fr_S} (h : XI b σ) (hp : pr b r v) (hx : x < 256) : ev (m_Row_append r (nI x) σ) (fun σ' => XI b σ' ∧ (∀ a, a ≠ r → gI σ' 257 a = gI σ 257 a) ∧ ∀ f, f ≠ 257 → ∀ a, gI σ' f a = gI σ f a) := by
  obtain ⟨⟨k1, k2, k3⟩, ⟨n, hn, hl⟩, hv⟩ := XI_row h hp
  unfold m_Row_append
  refine ev_bs ((oI_k k1).trans (congrArg some hl)) ?_
  refine ev_if (fun _ => ev_some ⟨h, fun _ _ => rfl, fun _ _ _ => rfl⟩) (fun hlt => ?_)
  have hn100 : n < 100 := by
    rw [nI_lit100, nI_leI (by omega) (by omega)] at hlt
    omega
  refine ev_bs (oP_g k1 k2) ?_
  refine ev_bs ((oI_k k1).trans (congrArg some hl)) ?_
  refine ev_bs (sI_k k1) ?_
  rw [nI_1]
  refine ev_bs (sV_nI (n := 100) (show gK (pI σ 257 r (nI (n + 1))) v = some (.inr (0, 100)) from k3) hn100 (by decide)) ?_
  exact ev_some ⟨XI_val (XI_len h (by omega)) (pr_ne hp) hx, fun a ha => gI_pIa ha, fun f hf a => gI_pIf hf⟩
theorem x_digest_L {b r v n : Nat} {σ : fr_S} (h : XI b σ) (hp : pr b r v) (hl : gI σ 257 r = nI n) (hn : n ≤ 100) : ∀ (q k : Nat) (s : Int32), k ≤ n → n - k < q → ev (m_Row_computeDigest_L4 q r s (nI k) σ) (fun _ => True) := by
  obtain ⟨⟨k1, k2, k3⟩, -, hv⟩ := XI_row h hp
  intro q
  induction q with
  | zero => intro k s _ h; omega
  | succ q ih =>
    intro k s hk hq
    unfold m_Row_computeDigest_L4
    refine ev_bs ((oI_k k1).trans (congrArg some hl)) ?_
    refine ev_if (fun _ => ev_some trivial) (fun z => ?_)
    rw [nI_leI (by omega) (by omega)] at z
    refine ev_bs (oP_g k1 k2) ?_
    refine ev_bs (oV_nI k3 (by omega) (by decide)) ?_
    rw [nI_1]
    exact ih (k + 1) _ (by omega) (by omega)
theorem x_digest {b r v : Nat} {σ : fr_S} (h : XI b σ) (hp : pr b r v) : ev (m_Row_computeDigest r σ) (fun _ => True) := by
  obtain ⟨-, ⟨n, hn, hl⟩, -⟩ := XI_row h hp
  unfold m_Row_computeDigest
  have key := x_digest_L h hp hl hn 1000 0 0 (by omega) (by omega)
  rw [nI_0] at key
  exact key
theorem x_copy {b r v r0 v0 : Nat} {σ : fr_S} (h : XI b σ) (hp : pr b r v) (hp0 : pr b r0 v0) : ev (m_Row_copyFrom r r0 σ) (fun σ' => XI b σ' ∧ ∀ f, f ≠ 257 → ∀ a, gI σ' f a = gI σ f a) := by
  obtain ⟨⟨k1, k2, k3⟩, -, hv⟩ := XI_row h hp
  obtain ⟨⟨q1, q2, q3⟩, ⟨n, hn, hl⟩, hv0⟩ := XI_row h hp0
  unfold m_Row_copyFrom
  refine ev_bs (oP_g q1 q2) ?_
  refine ev_bs (oP_g k1 k2) ?_
  refine ev_bs ((oI_k q1).trans (congrArg some hl)) ?_
  have hc : sC σ v0 0 v 0 (nI n) = some (pA σ v (va_cpy (gV σ v0) (gV σ v) 0 0 n)) := by
    unfold sC
    rw [q3, k3]
    have e0 : (0 : Int32).toNatClampNeg = 0 := by decide +kernel
    have e1 : (nI n).toNatClampNeg = n := nI_clamp (by omega)
    simp only [e0, e1]
    rw [if_pos ⟨⟨trivial, trivial⟩, ⟨by decide, by decide, nI_pos (by omega)⟩, by omega, by omega⟩]
  refine ev_bs hc ?_
  refine ev_bs (Eq.trans (oI_k (show gK (pA σ v (va_cpy (gV σ v0) (gV σ v) 0 0 n)) r0 = some (.inl 4) from q1)) (congrArg some (show gI (pA σ v (va_cpy (gV σ v0) (gV σ v) 0 0 n)) 257 r0 = nI n from hl))) ?_
  refine ev_bs (sI_k (show gK (pA σ v (va_cpy (gV σ v0) (gV σ v) 0 0 n)) r = some (.inl 4) from k1)) ?_
  exact ev_some ⟨XI_len (XI_cpy h (pr_ne hp) hn hv0) hn, fun f hf a => gI_pIf hf⟩
/-! small methods of the class -/
theorem x_isHost (x : Int32) (σ : fr_S) : ev (m_FR_isHost x σ) (fun r => (r = 0 ∧ ¬ (¬ x < 0 ∧ ¬ 8 ≤ x)) ∨ (r = 1 ∧ ¬ x < 0 ∧ ¬ 8 ≤ x ∧ ∃ j, j < 8 ∧ x = nI j)) := by
  unfold m_FR_isHost
  refine ev_if (fun h => ev_some (Or.inl ⟨rfl, fun z => z.1 h⟩)) (fun h => ?_)
  refine ev_if (fun h2 => ev_some (Or.inl ⟨rfl, fun z => z.2 h2⟩)) (fun h2 => ?_)
  exact ev_some (Or.inr ⟨rfl, h, h2, nI_get (n := 8) (by decide) h (by rw [← nI_lit8]; exact h2)⟩)
theorem x_isPlace {b np : Nat} {σ : fr_S} (hs : Sx b σ) (h1 : np ≤ 16 ∧ gI σ 68 b = nI np) (x : Int32) : ev (m_FR_isPlace b x σ) (fun r => r = 0 ∨ (r = 1 ∧ ∃ j, j < np ∧ x = nI j)) := by
  unfold m_FR_isPlace
  refine ev_if (fun h => ev_some (Or.inl rfl)) (fun h => ?_)
  refine ev_bs ((xI hs).trans (congrArg some h1.2)) ?_
  exact ev_if (fun h2 => ev_some (Or.inl rfl)) (fun h2 => ev_some (Or.inr ⟨rfl, nI_get (by omega) h h2⟩))
theorem x_isWant {b nw : Nat} {σ : fr_S} (hs : Sx b σ) (h1 : nw ≤ 10 ∧ gI σ 70 b = nI nw) (x : Int32) : ev (m_FR_isWant b x σ) (fun r => r = 0 ∨ (r = 1 ∧ ∃ j, j < nw ∧ x = nI j)) := by
  unfold m_FR_isWant
  refine ev_if (fun h => ev_some (Or.inl rfl)) (fun h => ?_)
  refine ev_bs ((xI hs).trans (congrArg some h1.2)) ?_
  exact ev_if (fun h2 => ev_some (Or.inl rfl)) (fun h2 => ev_some (Or.inr ⟨rfl, nI_get (by omega) h h2⟩))
theorem x_credential {b : Nat} {σ : fr_S} (h : XI b σ) (x1 x2 : Int32) : ev (m_FR_credential b x1 x2 σ) (fun q => q.1 = (if x1 < 0 then 0 else if x1 < 8 then 1 else 0) ∧ XI b q.2) := by
  unfold m_FR_credential
  refine ev_b (x_isHost x1 σ) (fun r hr => ?_)
  refine ev_if (fun h0 => ?_) (fun h0 => ?_)
  · rcases hr with ⟨-, hr⟩ | ⟨hr, -⟩
    · refine ev_some ⟨?_, h⟩
      by_cases e1 : x1 < 0
      · rw [if_pos e1]
      · rw [if_neg e1]
        by_cases e2 : x1 < 8
        · exact absurd ⟨e1, Int32.not_le.mpr e2⟩ hr
        · rw [if_neg e2]
    · rw [hr] at h0
      exact absurd h0 (by decide)
  · rcases hr with ⟨hr, -⟩ | ⟨-, e1, e2, j, hj, rfl⟩
    · exact absurd hr h0
    · refine ev_bs (xp65 h.1) ?_
      refine ev_bs (sV_nI (n := 8) h.1.1.2.1.2 hj (by decide)) ?_
      refine ev_some ⟨?_, XI_oA h (by omega)⟩
      rw [if_neg e1, if_pos (Int32.not_le.mp e2)]
theorem XI_place {b i hh : Nat} {σ : fr_S} (h : XI b σ) (hh8 : hh < 8) : XI b (pI σ 193 (b + 38 + 3 * i) (nI hh)) := by
  obtain ⟨hs, np, nw, nk, nt, nl, nf, x1, x2, x3, x4, x5, x6, x7, x8, x9⟩ := h
  refine ⟨hs, np, nw, nk, nt, nl, nf, by rw [gI_pIf (by decide)]; exact x1, by rw [gI_pIf (by decide)]; exact x2, by rw [gI_pIf (by decide)]; exact x3, by rw [gI_pIf (by decide)]; exact x4, by rw [gI_pIf (by decide)]; exact x5, by rw [gI_pIf (by decide)]; exact x6, fun k hk => ?_, fun j hj => ?_, fun r v hp => ?_⟩
  · obtain ⟨g1, g2⟩ := x7 k hk
    refine ⟨?_, by rw [gI_pIf (by decide)]; exact g2⟩
    by_cases e : b + 38 + 3 * k = b + 38 + 3 * i
    · rw [e, gI_pIs]; exact ⟨hh, hh8, rfl⟩
    · rw [gI_pIa e]; exact g1
  · rw [gI_pIf (by decide), gI_pIf (by decide)]; exact x8 j hj
  · exact ⟨by rw [gI_pIf (by decide)]; exact (x9 r v hp).1, (x9 r v hp).2⟩
theorem XI_lead {b i : Nat} {σ : fr_S} {v : Int32} (h : XI b σ) (hv : v = -1 ∨ ∃ j, j < 16 ∧ v = nI j) : XI b (pI σ 195 (b + 38 + 3 * i) v) := by
  obtain ⟨hs, np, nw, nk, nt, nl, nf, x1, x2, x3, x4, x5, x6, x7, x8, x9⟩ := h
  refine ⟨hs, np, nw, nk, nt, nl, nf, by rw [gI_pIf (by decide)]; exact x1, by rw [gI_pIf (by decide)]; exact x2, by rw [gI_pIf (by decide)]; exact x3, by rw [gI_pIf (by decide)]; exact x4, by rw [gI_pIf (by decide)]; exact x5, by rw [gI_pIf (by decide)]; exact x6, fun k hk => ?_, fun j hj => ?_, fun r v hp => ?_⟩
  · obtain ⟨g1, g2⟩ := x7 k hk
    refine ⟨by rw [gI_pIf (by decide)]; exact g1, ?_⟩
    by_cases e : b + 38 + 3 * k = b + 38 + 3 * i
    · rw [e, gI_pIs]; exact hv
    · rw [gI_pIa e]; exact g2
  · rw [gI_pIf (by decide), gI_pIf (by decide)]; exact x8 j hj
  · exact ⟨by rw [gI_pIf (by decide)]; exact (x9 r v hp).1, (x9 r v hp).2⟩
/-- a count of its own -/
theorem XI_cnt {b f a n : Nat} {σ : fr_S} (h : XI b σ) (hf : (f = 68 ∧ a = b ∧ n ≤ 16) ∨ (f = 70 ∧ a = b ∧ n ≤ 10) ∨ (f = 322 ∧ a = b + 5 ∧ n ≤ 10) ∨ (f = 387 ∧ a = b + 28 ∧ n ≤ 60) ∨ (f = 74 ∧ a = b ∧ n ≤ 10) ∨ (f = 132 ∧ a = b + 33 ∧ n ≤ 33)) : XI b (pI σ f a (nI n)) := by
  obtain ⟨hs, np, nw, nk, nt, nl, nf, x1, x2, x3, x4, x5, x6, x7, x8, x9⟩ := h
  rcases hf with ⟨rfl, rfl, hn⟩ | ⟨rfl, rfl, hn⟩ | ⟨rfl, rfl, hn⟩ | ⟨rfl, rfl, hn⟩ | ⟨rfl, rfl, hn⟩ | ⟨rfl, rfl, hn⟩
  · exact ⟨hs, n, nw, nk, nt, nl, nf, ⟨hn, gI_pIs⟩, by rw [gI_pIf (by decide)]; exact x2, by rw [gI_pIf (by decide)]; exact x3, by rw [gI_pIf (by decide)]; exact x4, by rw [gI_pIf (by decide)]; exact x5, by rw [gI_pIf (by decide)]; exact x6, fun k hk => by rw [gI_pIf (by decide), gI_pIf (by decide)]; exact x7 k hk, fun j hj => by rw [gI_pIf (by decide), gI_pIf (by decide)]; exact x8 j hj, fun r v hp => ⟨by rw [gI_pIf (by decide)]; exact (x9 r v hp).1, (x9 r v hp).2⟩⟩
  · exact ⟨hs, np, n, nk, nt, nl, nf, by rw [gI_pIf (by decide)]; exact x1, ⟨hn, gI_pIs⟩, by rw [gI_pIf (by decide)]; exact x3, by rw [gI_pIf (by decide)]; exact x4, by rw [gI_pIf (by decide)]; exact x5, by rw [gI_pIf (by decide)]; exact x6, fun k hk => by rw [gI_pIf (by decide), gI_pIf (by decide)]; exact x7 k hk, fun j hj => by rw [gI_pIf (by decide), gI_pIf (by decide)]; exact x8 j hj, fun r v hp => ⟨by rw [gI_pIf (by decide)]; exact (x9 r v hp).1, (x9 r v hp).2⟩⟩
  · exact ⟨hs, np, nw, n, nt, nl, nf, by rw [gI_pIf (by decide)]; exact x1, by rw [gI_pIf (by decide)]; exact x2, ⟨hn, gI_pIs⟩, by rw [gI_pIf (by decide)]; exact x4, by rw [gI_pIf (by decide)]; exact x5, by rw [gI_pIf (by decide)]; exact x6, fun k hk => by rw [gI_pIf (by decide), gI_pIf (by decide)]; exact x7 k hk, fun j hj => by rw [gI_pIf (by decide), gI_pIf (by decide)]; exact x8 j hj, fun r v hp => ⟨by rw [gI_pIf (by decide)]; exact (x9 r v hp).1, (x9 r v hp).2⟩⟩
  · exact ⟨hs, np, nw, nk, n, nl, nf, by rw [gI_pIf (by decide)]; exact x1, by rw [gI_pIf (by decide)]; exact x2, by rw [gI_pIf (by decide)]; exact x3, ⟨hn, gI_pIs⟩, by rw [gI_pIf (by decide)]; exact x5, by rw [gI_pIf (by decide)]; exact x6, fun k hk => by rw [gI_pIf (by decide), gI_pIf (by decide)]; exact x7 k hk, fun j hj => by rw [gI_pIf (by decide), gI_pIf (by decide)]; exact x8 j hj, fun r v hp => ⟨by rw [gI_pIf (by decide)]; exact (x9 r v hp).1, (x9 r v hp).2⟩⟩
  · exact ⟨hs, np, nw, nk, nt, n, nf, by rw [gI_pIf (by decide)]; exact x1, by rw [gI_pIf (by decide)]; exact x2, by rw [gI_pIf (by decide)]; exact x3, by rw [gI_pIf (by decide)]; exact x4, ⟨hn, gI_pIs⟩, by rw [gI_pIf (by decide)]; exact x6, fun k hk => by rw [gI_pIf (by decide), gI_pIf (by decide)]; exact x7 k hk, fun j hj => by rw [gI_pIf (by decide), gI_pIf (by decide)]; exact x8 j hj, fun r v hp => ⟨by rw [gI_pIf (by decide)]; exact (x9 r v hp).1, (x9 r v hp).2⟩⟩
  · exact ⟨hs, np, nw, nk, nt, nl, n, by rw [gI_pIf (by decide)]; exact x1, by rw [gI_pIf (by decide)]; exact x2, by rw [gI_pIf (by decide)]; exact x3, by rw [gI_pIf (by decide)]; exact x4, by rw [gI_pIf (by decide)]; exact x5, ⟨hn, gI_pIs⟩, fun k hk => by rw [gI_pIf (by decide), gI_pIf (by decide)]; exact x7 k hk, fun j hj => by rw [gI_pIf (by decide), gI_pIf (by decide)]; exact x8 j hj, fun r v hp => ⟨by rw [gI_pIf (by decide)]; exact (x9 r v hp).1, (x9 r v hp).2⟩⟩
theorem XI_cur {b j a : Nat} {σ : fr_S} (h : XI b σ) (ha : a ≤ 5) : XI b (pI σ 453 (b + 86 + 4 * j) (nI a)) := by
  obtain ⟨hs, np, nw, nk, nt, nl, nf, x1, x2, x3, x4, x5, x6, x7, x8, x9⟩ := h
  refine ⟨hs, np, nw, nk, nt, nl, nf, by rw [gI_pIf (by decide)]; exact x1, by rw [gI_pIf (by decide)]; exact x2, by rw [gI_pIf (by decide)]; exact x3, by rw [gI_pIf (by decide)]; exact x4, by rw [gI_pIf (by decide)]; exact x5, by rw [gI_pIf (by decide)]; exact x6, fun k hk => by rw [gI_pIf (by decide), gI_pIf (by decide)]; exact x7 k hk, fun i hi => ?_, fun r v hp => ⟨by rw [gI_pIf (by decide)]; exact (x9 r v hp).1, (x9 r v hp).2⟩⟩
  obtain ⟨g1, g2⟩ := x8 i hi
  refine ⟨by rw [gI_pIf (by decide)]; exact g1, ?_⟩
  by_cases e : b + 86 + 4 * i = b + 86 + 4 * j
  · rw [e, gI_pIs]; exact ⟨a, ha, rfl⟩
  · rw [gI_pIa e]; exact g2
theorem XI_add {b j m p : Nat} {σ : fr_S} (h : XI b σ) (hj : j < 10) (hm : gI σ 450 (b + 86 + 4 * j) = nI m) (hm6 : m < 6) (hp : p < 16) : XI b (pA (pI σ 450 (b + 86 + 4 * j) (nI (m + 1))) (b + 89 + 4 * j) (upd (gV σ (b + 89 + 4 * j)) m (nI p))) := by
  obtain ⟨hs, np, nw, nk, nt, nl, nf, x1, x2, x3, x4, x5, x6, x7, x8, x9⟩ := h
  refine ⟨hs, np, nw, nk, nt, nl, nf, by rw [gI_pA, gI_pIf (by decide)]; exact x1, by rw [gI_pA, gI_pIf (by decide)]; exact x2, by rw [gI_pA, gI_pIf (by decide)]; exact x3, by rw [gI_pA, gI_pIf (by decide)]; exact x4, by rw [gI_pA, gI_pIf (by decide)]; exact x5, by rw [gI_pA, gI_pIf (by decide)]; exact x6, fun k hk => by rw [gI_pA, gI_pA, gI_pIf (by decide), gI_pIf (by decide)]; exact x7 k hk, fun i hi => ?_, fun r v hpr => ?_⟩
  · obtain ⟨⟨m', g1, g2, g3⟩, g4⟩ := x8 i hi
    refine ⟨?_, by rw [gI_pA, gI_pIf (by decide)]; exact g4⟩
    by_cases e : i = j
    · subst e
      have hmm : m' = m := nI_inj (by omega) (by omega) (g2.symm.trans hm)
      subst hmm
      refine ⟨m' + 1, by omega, by rw [gI_pA, gI_pIs], fun k hk => ?_⟩
      rw [gV_pAs]
      by_cases ek : k = m'
      · rw [ek, upd_s]; exact ⟨p, hp, rfl⟩
      · rw [upd_n ek]; exact g3 k (by omega)
    · refine ⟨m', g1, by rw [gI_pA, gI_pIa (by omega)]; exact g2, fun k hk => ?_⟩
      rw [gV_pAn (by omega), gV_pI]
      exact g3 k hk
  · refine ⟨by rw [gI_pA, gI_pIf (by decide)]; exact (x9 r v hpr).1, fun k hk => ?_⟩
    rw [gV_pAn (Ne.symm (pr_ne hpr j hj)), gV_pI]
    exact (x9 r v hpr).2 k hk
theorem pl_k {b i : Nat} {σ : fr_S} (h : Sx b σ) (hi : i < 16) : gK σ (b + 38 + 3 * i) = some (.inl 3) := (h.2.1 i hi).2.1
theorem pl_r {b i : Nat} {σ : fr_S} (h : Sx b σ) (hi : i < 16) : oP σ 3 192 (b + 38 + 3 * i) = some (b + 39 + 3 * i) := oP_g (h.2.1 i hi).2.1 (h.2.1 i hi).2.2.1
theorem wt_k {b j : Nat} {σ : fr_S} (h : Sx b σ) (hj : j < 10) : gK σ (b + 86 + 4 * j) = some (.inl 7) := (h.2.2.1 j hj).2.1
theorem wt_r {b j : Nat} {σ : fr_S} (h : Sx b σ) (hj : j < 10) : oP σ 7 448 (b + 86 + 4 * j) = some (b + 87 + 4 * j) := oP_g (h.2.2.1 j hj).2.1 (h.2.2.1 j hj).2.2.1
theorem wt_p {b j : Nat} {σ : fr_S} (h : Sx b σ) (hj : j < 10) : oP σ 7 449 (b + 86 + 4 * j) = some (b + 89 + 4 * j) := oP_g (h.2.2.1 j hj).2.1 (h.2.2.1 j hj).2.2.2.2.1
theorem pr_p {b i : Nat} (hi : i < 16) : pr b (b + 39 + 3 * i) (b + 40 + 3 * i) := Or.inl ⟨i, hi, rfl, rfl⟩
theorem pr_w {b j : Nat} (hj : j < 10) : pr b (b + 87 + 4 * j) (b + 88 + 4 * j) := Or.inr (Or.inl ⟨j, hj, rfl, rfl⟩)
theorem pr_k {b i : Nat} (hi : i < 10) : pr b (b + 8 + 2 * i) (b + 9 + 2 * i) := Or.inr (Or.inr ⟨i, hi, rfl, rfl⟩)
theorem row_k {b r v : Nat} {σ : fr_S} (h : XI b σ) (hp : pr b r v) : gK σ r = some (.inl 4) := (XI_row h hp).1.1
theorem xnp {b : Nat} {σ : fr_S} (h : XI b σ) : ∃ np, np ≤ 16 ∧ gI σ 68 b = nI np := by
  obtain ⟨-, np, nw, nk, nt, nl, nf, x1, -⟩ := h
  exact ⟨np, x1⟩
theorem xnw {b : Nat} {σ : fr_S} (h : XI b σ) : ∃ nw, nw ≤ 10 ∧ gI σ 70 b = nI nw := by
  obtain ⟨-, np, nw, nk, nt, nl, nf, x1, x2, -⟩ := h
  exact ⟨nw, x2⟩
theorem x_place {b : Nat} {σ : fr_S} (h : XI b σ) (x1 x2 : Int32) : ev (m_FR_place b x1 x2 σ) (fun q => XI b q.2) := by
  obtain ⟨np, hn⟩ := xnp h
  have hs := h.1
  unfold m_FR_place
  refine ev_bs ((xI hs).trans (congrArg some hn.2)) ?_
  refine ev_if (fun _ => ev_some h) (fun h16 => ?_)
  have hnp : np < 16 := by
    rw [nI_lit16, nI_leI (by omega) (by omega)] at h16
    omega
  refine ev_b (x_isHost x1 σ) (fun r hr => ?_)
  refine ev_if (fun _ => ev_some h) (fun h0 => ?_)
  rcases hr with ⟨hr, -⟩ | ⟨-, -, -, j, hj, rfl⟩
  · exact absurd hr h0
  refine ev_if (fun _ => ev_some h) (fun _ => ?_)
  refine ev_if (fun _ => ?_) (fun _ => ev_some h)
  refine ev_bs (xp67 hs) ?_
  refine ev_bs ((xI hs).trans (congrArg some hn.2)) ?_
  refine ev_bs (xP hs hnp) ?_
  refine ev_bs (sI_k (pl_k hs hnp)) ?_
  refine ev_bs (sI_k (pl_k (σ := pI σ 193 (b + 38 + 3 * np) (nI j)) hs hnp)) ?_
  have h2 : XI b (pI (pI σ 193 (b + 38 + 3 * np) (nI j)) 194 (b + 38 + 3 * np) x2) := XI_o (XI_place h hj) (by decide) (by decide)
  refine ev_bs (Eq.trans (xI h2.1) (congrArg some (show _ = nI np by rw [gI_pIf (by decide), gI_pIf (by decide)]; exact hn.2))) ?_
  refine ev_bs (sI_k h2.1.1.1) ?_
  rw [nI_1]
  exact ev_some (XI_cnt h2 (Or.inl ⟨rfl, rfl, by omega⟩))
theorem and255 (x : Int32) : ∃ y, y < 256 ∧ (x &&& 255) = nI y := by
  obtain ⟨j, hj, he⟩ := pk_andE x (m := 255) 8 (by decide +kernel)
  exact ⟨j, hj, he⟩
theorem x_content_L {b r v : Nat} (hp : pr b r v) (w : Int64) : ∀ (n q : Nat) (σ : fr_S), XI b σ → q < n → ev (m_FR_content_L55 n w r (nI q + (-1)) σ) (fun z => XI b z.2) := by
  intro n
  induction n with
  | zero => intro q σ _ h; omega
  | succ n ih =>
    intro q σ h hn
    unfold m_FR_content_L55
    cases q with
    | zero => exact ev_if (fun _ => ev_some h) (fun z => absurd (by rw [nI_0]; decide) z)
    | succ q =>
      rw [pk_m1 q]
      refine ev_if (fun _ => ev_some h) (fun _ => ?_)
      refine ev_bs (oK_k (row_k h hp)) ?_
      obtain ⟨y, hy, hye⟩ := and255 (fr_lushr w (8 * nI q)).toInt32
      rw [hye]
      refine ev_b (x_append h hp hy) (fun σ' h' => ?_)
      exact ih q σ' h'.1 (by omega)
theorem x_content {b : Nat} {σ : fr_S} (h : XI b σ) (x1 : Int32) (x2 : Int64) (x4 : Int32) : ev (m_FR_content b x1 x2 x4 σ) (fun q => XI b q.2) := by
  obtain ⟨np, hn⟩ := xnp h
  have hs := h.1
  unfold m_FR_content
  refine ev_bs (xK hs) ?_
  refine ev_b (x_isPlace hs hn x1) (fun r hr => ?_)
  refine ev_if (fun _ => ev_some h) (fun h0 => ?_)
  rcases hr with hr | ⟨-, i, hi, rfl⟩
  · exact absurd hr h0
  refine ev_if (fun _ => ev_some h) (fun h1 => ?_)
  refine ev_if (fun h8 => ?_) (fun _ => ev_some h)
  obtain ⟨q, hq1, hq8, rfl⟩ := nI_rng (x := x4) (lo := 1) (hi := 8) (by rw [← nI_lit1]; exact h1) (by rw [← nI_lit8]; exact h8) (by decide) (by decide)
  refine ev_bs (xp67 hs) ?_
  refine ev_bs (xP hs (by omega)) ?_
  refine ev_bs (pl_r hs (by omega)) ?_
  refine ev_bs (oI_k (row_k h (pr_p (by omega)))) ?_
  refine ev_if (fun _ => ?_) (fun _ => ev_some h)
  have e1 : nI q - 1 = nI q + (-1) := by
    rw [nI_r (by omega), nI_sm (by omega)]
  rw [e1]
  exact x_content_L (pr_p (by omega)) x2 1000 q σ h (by omega)
theorem x_does {b : Nat} {σ : fr_S} (h : XI b σ) (x1 x2 x3 : Int32) : ev (m_FR_does b x1 x2 x3 σ) (fun q => XI b q.2) := by
  obtain ⟨np, hn⟩ := xnp h
  have hs := h.1
  unfold m_FR_does
  refine ev_bs (xK hs) ?_
  refine ev_b (x_isPlace hs hn x1) (fun r hr => ?_)
  refine ev_if (fun _ => ev_some h) (fun h0 => ?_)
  rcases hr with hr | ⟨-, i, hi, rfl⟩
  · exact absurd hr h0
  have hk := pl_k hs (show i < 16 by omega)
  have fl : ∀ f v, f ∉ xF → f ≠ 257 → (v = 0 ∨ v = 1) → ev ((sZ σ 3 f (b + 38 + 3 * i) v).bind fun σ_8 => some ((1 : Int32), σ_8)) (fun q => XI b q.2) := fun f v hf hf2 hv => ev_bs (sZ_k hk hv) (ev_some (XI_o h hf hf2))
  refine ev_bs (xp67 hs) ?_
  refine ev_bs (xP hs (by omega)) ?_
  refine ev_if (fun _ => ?_) (fun _ => ?_)
  · exact ev_if (fun _ => fl 198 0 (by decide) (by decide) (Or.inl rfl)) (fun _ => fl 198 1 (by decide) (by decide) (Or.inr rfl))
  refine ev_if (fun _ => ?_) (fun _ => ?_)
  · refine ev_if (fun e => ?_) (fun _ => ?_)
    · exact ev_bs (sI_k hk) (ev_some (XI_lead h (Or.inl e)))
    · refine ev_bs (xK hs) ?_
      refine ev_b (x_isPlace hs hn x3) (fun r2 hr2 => ?_)
      refine ev_if (fun _ => ev_some h) (fun h02 => ?_)
      rcases hr2 with hr2 | ⟨-, j, hj, rfl⟩
      · exact absurd hr2 h02
      exact ev_bs (sI_k hk) (ev_some (XI_lead h (Or.inr ⟨j, by omega, rfl⟩)))
  refine ev_if (fun _ => ?_) (fun _ => ?_)
  · exact ev_if (fun _ => fl 199 0 (by decide) (by decide) (Or.inl rfl)) (fun _ => fl 199 1 (by decide) (by decide) (Or.inr rfl))
  refine ev_if (fun _ => ?_) (fun _ => ev_some h)
  exact ev_if (fun _ => fl 200 0 (by decide) (by decide) (Or.inl rfl)) (fun _ => fl 200 1 (by decide) (by decide) (Or.inr rfl))
theorem x_cut {b : Nat} {σ : fr_S} (h : XI b σ) (x1 x2 x3 : Int32) : ev (m_FR_cut b x1 x2 x3 σ) (fun q => XI b q.2) := by
  obtain ⟨np, hn⟩ := xnp h
  have hs := h.1
  unfold m_FR_cut
  refine ev_bs (xK hs) ?_
  refine ev_b (x_isPlace hs hn x1) (fun r hr => ?_)
  refine ev_if (fun _ => ev_some h) (fun h0 => ?_)
  rcases hr with hr | ⟨-, i, hi, rfl⟩
  · exact absurd hr h0
  refine ev_if (fun _ => ev_some h) (fun _ => ?_)
  refine ev_if (fun _ => ev_some h) (fun _ => ?_)
  refine ev_if (fun _ => ev_some h) (fun _ => ?_)
  refine ev_if (fun _ => ?_) (fun _ => ev_some h)
  refine ev_bs (xp67 hs) ?_
  refine ev_bs (xP hs (by omega)) ?_
  refine ev_bs (sI_k (pl_k hs (by omega))) ?_
  have h2 : XI b (pI σ 196 (b + 38 + 3 * i) x2) := XI_o h (by decide) (by decide)
  refine ev_bs (xp67 h2.1) ?_
  refine ev_bs (xP h2.1 (by omega)) ?_
  refine ev_bs (sI_k (pl_k h2.1 (by omega))) ?_
  exact ev_some (XI_o h2 (by decide) (by decide))
theorem x_digestF {b : Nat} {σ : fr_S} (h : XI b σ) (x1 : Int32) : ev (m_FR_digest b x1 σ) (fun _ => True) := by
  obtain ⟨np, hn⟩ := xnp h
  have hs := h.1
  unfold m_FR_digest
  refine ev_bs (xK hs) ?_
  refine ev_b (x_isPlace hs hn x1) (fun r hr => ?_)
  refine ev_if (fun _ => ev_some trivial) (fun h0 => ?_)
  rcases hr with hr | ⟨-, i, hi, rfl⟩
  · exact absurd hr h0
  refine ev_bs (xp67 hs) ?_
  refine ev_bs (xP hs (by omega)) ?_
  refine ev_bs (pl_r hs (by omega)) ?_
  refine ev_bs (oK_k (row_k h (pr_p (by omega)))) ?_
  exact ev_b (x_digest h (pr_p (by omega))) (fun _ _ => ev_some trivial)
theorem x_want {b : Nat} {σ : fr_S} (h : XI b σ) (x1 : Int32) : ev (m_FR_want b x1 σ) (fun q => XI b q.2) := by
  obtain ⟨nw, hn⟩ := xnw h
  have hs := h.1
  unfold m_FR_want
  refine ev_bs ((xI hs).trans (congrArg some hn.2)) ?_
  refine ev_if (fun h10 => ?_) (fun _ => ev_some h)
  have hnw : nw < 10 := by
    rw [nI_lit10, nI_ltI (by omega) (by omega)] at h10
    exact h10
  refine ev_bs (xp69 hs) ?_
  refine ev_bs ((xI hs).trans (congrArg some hn.2)) ?_
  refine ev_bs (xW hs hnw) ?_
  refine ev_bs (sI_k (wt_k hs hnw)) ?_
  have h2 : XI b (pI σ 451 (b + 86 + 4 * nw) x1) := XI_o h (by decide) (by decide)
  refine ev_bs (Eq.trans (xI h2.1) (congrArg some (show _ = nI nw by rw [gI_pIf (by decide)]; exact hn.2))) ?_
  refine ev_bs (sI_k h2.1.1.1) ?_
  rw [nI_1]
  exact ev_some (XI_cnt h2 (Or.inr (Or.inl ⟨rfl, rfl, by omega⟩)))
theorem xw8 {b j : Nat} {σ : fr_S} (h : XI b σ) (hj : j < 10) : (∃ m, m ≤ 6 ∧ gI σ 450 (b + 86 + 4 * j) = nI m ∧ ∀ k, k < m → ∃ p, p < 16 ∧ gV σ (b + 89 + 4 * j) k = nI p) ∧ ∃ a, a ≤ 5 ∧ gI σ 453 (b + 86 + 4 * j) = nI a := by
  obtain ⟨-, np, nw, nk, nt, nl, nf, x1, x2, x3, x4, x5, x6, x7, x8, -⟩ := h
  exact x8 j hj
theorem x_add_L {b j p m : Nat} {σ : fr_S} (h : XI b σ) (hj : j < 10) (hm : gI σ 450 (b + 86 + 4 * j) = nI m) (hm6 : m < 6) (hp : p < 16) : ∀ (n k : Nat), k ≤ m → m - k < n → ev (m_Want_addPlace_L13 n (b + 86 + 4 * j) (nI p) (nI k) σ) (fun q => XI b q.2 ∧ (q.1 = 0 ∨ q.1 = 1)) := by
  have hs := h.1
  have hk := wt_k hs hj
  have hv := (hs.2.2.1 j hj).2.2.2.2.2
  intro n
  induction n with
  | zero => intro k _ h; omega
  | succ n ih =>
    intro k hkm hn
    unfold m_Want_addPlace_L13
    refine ev_bs ((oI_k hk).trans (congrArg some hm)) ?_
    refine ev_if (fun _ => ?_) (fun z => ?_)
    · refine ev_bs (wt_p hs hj) ?_
      refine ev_bs ((oI_k hk).trans (congrArg some hm)) ?_
      refine ev_bs (sI_k hk) ?_
      rw [nI_1]
      refine ev_bs (sV_nI (n := 6) (show gK (pI σ 450 (b + 86 + 4 * j) (nI (m + 1))) (b + 89 + 4 * j) = some (.inr (0, 6)) from hv) hm6 (by decide)) ?_
      exact ev_some ⟨XI_add h hj hm hm6 hp, Or.inr rfl⟩
    · rw [nI_leI (by omega) (by omega)] at z
      refine ev_bs (wt_p hs hj) ?_
      refine ev_bs (oV_nI hv (by omega) (by decide)) ?_
      refine ev_if (fun _ => ev_some ⟨h, Or.inl rfl⟩) (fun _ => ?_)
      rw [nI_1]
      exact ih (k + 1) (by omega) (by omega)
theorem x_from {b : Nat} {σ : fr_S} (h : XI b σ) (x1 x2 : Int32) : ev (m_FR_from b x1 x2 σ) (fun q => XI b q.2) := by
  obtain ⟨np, hn⟩ := xnp h
  obtain ⟨nw, hw⟩ := xnw h
  have hs := h.1
  unfold m_FR_from
  refine ev_bs (xK hs) ?_
  refine ev_b (x_isWant hs hw x1) (fun r hr => ?_)
  refine ev_if (fun _ => ev_some h) (fun h0 => ?_)
  rcases hr with hr | ⟨-, j, hj, rfl⟩
  · exact absurd hr h0
  refine ev_bs (xK hs) ?_
  refine ev_b (x_isPlace hs hn x2) (fun r hr => ?_)
  refine ev_if (fun _ => ev_some h) (fun h0 => ?_)
  rcases hr with hr | ⟨-, p, hp, rfl⟩
  · exact absurd hr h0
  refine ev_bs (xp69 hs) ?_
  refine ev_bs (xW hs (by omega)) ?_
  refine ev_bs (oI_k (wt_k hs (by omega))) ?_
  refine ev_if (fun _ => ?_) (fun _ => ev_some h)
  refine ev_bs (xp69 hs) ?_
  refine ev_bs (xW hs (by omega)) ?_
  refine ev_bs (oK_k (wt_k hs (by omega))) ?_
  obtain ⟨⟨m, m6, hm, -⟩, -⟩ := xw8 h (show j < 10 by omega)
  have key : ev (m_Want_addPlace (b + 86 + 4 * j) (nI p) σ) (fun q => XI b q.2 ∧ (q.1 = 0 ∨ q.1 = 1)) := by
    unfold m_Want_addPlace
    refine ev_bs ((oI_k (wt_k hs (by omega))).trans (congrArg some hm)) ?_
    refine ev_if (fun h6 => ?_) (fun _ => ev_some ⟨h, Or.inl rfl⟩)
    rw [nI_lit6, nI_ltI (by omega) (by omega)] at h6
    have key := x_add_L (p := p) h (by omega) hm h6 (by omega) 1000 0 (by omega) (by omega)
    rw [nI_0] at key
    exact key
  refine ev_b key (fun q hq => ?_)
  refine ev_bs (show oZ q.1 = some () from if_pos hq.2) ?_
  exact ev_some hq.1
theorem x_offLine {b : Nat} {σ : fr_S} (h : XI b σ) (x1 : Int32) (hz : x1 = 0 ∨ x1 = 1) : ev (m_FR_offLine b x1 σ) (fun q => XI b q) := by
  unfold m_FR_offLine
  refine ev_bs (sZ_k h.1.1.1 hz) ?_
  have h2 : XI b (pI σ 76 b x1) := XI_o h (by decide) (by decide)
  refine ev_bs (sI_k h2.1.1.1) ?_
  have key := XI_cnt (n := 0) h2 (Or.inr (Or.inr (Or.inr (Or.inr (Or.inl ⟨rfl, rfl, by omega⟩)))))
  rw [nI_0] at key
  exact ev_some key
theorem x_isBusy {b j : Nat} {σ : fr_S} (hs : Sx b σ) (hj : j < 10) : ev (m_Want_isBusy (b + 86 + 4 * j) σ) (fun _ => True) := by
  unfold m_Want_isBusy
  refine ev_bs (oI_k (wt_k hs hj)) ?_
  refine ev_if (fun _ => ev_some trivial) (fun _ => ?_)
  refine ev_bs (oI_k (wt_k hs hj)) ?_
  exact ev_if (fun _ => ev_some trivial) (fun _ => ev_some trivial)
theorem x_cur {b j : Nat} {σ : fr_S} (h : XI b σ) (hj : j < 10) : ev (m_Want_currentPlace (b + 86 + 4 * j) σ) (fun x => x = -1 ∨ ∃ p, p < 16 ∧ x = nI p) := by
  have hs := h.1
  have hk := wt_k hs hj
  obtain ⟨⟨m, m6, hm, hpl⟩, a, a5, ha⟩ := xw8 h hj
  unfold m_Want_currentPlace
  refine ev_bs ((oI_k hk).trans (congrArg some ha)) ?_
  refine ev_if (fun _ => ev_some (Or.inl rfl)) (fun _ => ?_)
  refine ev_bs ((oI_k hk).trans (congrArg some ha)) ?_
  refine ev_bs ((oI_k hk).trans (congrArg some hm)) ?_
  refine ev_if (fun _ => ev_some (Or.inl rfl)) (fun z => ?_)
  rw [nI_leI (by omega) (by omega)] at z
  obtain ⟨p, hp, hpe⟩ := hpl a (by omega)
  refine ev_bs (wt_p hs hj) ?_
  refine ev_bs ((oI_k hk).trans (congrArg some ha)) ?_
  refine ev_bs ((oV_nI (hs.2.2.1 j hj).2.2.2.2.2 (by omega) (by decide)).trans (congrArg some hpe)) ?_
  exact ev_some (Or.inr ⟨p, hp, rfl⟩)
theorem x_sent {b : Nat} {σ : fr_S} (h : XI b σ) (x1 : Int32) : ev (m_FR_sent b x1 σ) (fun _ => True) := by
  unfold m_FR_sent
  refine ev_b (x_isHost x1 σ) (fun r hr => ?_)
  refine ev_if (fun _ => ev_some trivial) (fun h0 => ?_)
  rcases hr with ⟨hr, -⟩ | ⟨-, -, -, j, hj, rfl⟩
  · exact absurd hr h0
  refine ev_bs (xp66 h.1) ?_
  refine ev_bs (oV_nI (n := 8) h.1.1.2.2.1.2 hj (by decide)) ?_
  exact ev_some trivial
theorem x_lacks {b : Nat} {σ : fr_S} (h : XI b σ) (x1 : Int32) : ev (m_FR_lacks b x1 σ) (fun _ => True) := by
  obtain ⟨hs, np, nw, nk, nt, nl, nf, y1, y2, y3, y4, y5, y6, -⟩ := id h
  unfold m_FR_lacks
  refine ev_if (fun _ => ev_some trivial) (fun h0 => ?_)
  refine ev_bs ((xI hs).trans (congrArg some y5.2)) ?_
  refine ev_if (fun _ => ev_some trivial) (fun h1 => ?_)
  have := y5.1
  obtain ⟨i, hi, rfl⟩ := nI_get (by omega) h0 h1
  refine ev_bs (xp73 hs) ?_
  refine ev_bs (oV_nI (n := 10) hs.1.2.2.2.2.2.2.2.1.2 (by omega) (by decide)) ?_
  exact ev_some trivial
theorem x_thas {b nt : Nat} {σ : fr_S} (hs : Sx b σ) (h4 : nt ≤ 60 ∧ gI σ 387 (b + 28) = nI nt) (x : Int32) : ev (m_Tellings_has (b + 28) x σ) (fun r => r = 0 ∨ ∃ j, j < nt ∧ x = nI j) := by
  unfold m_Tellings_has
  refine ev_if (fun h => ev_some (Or.inl rfl)) (fun h => ?_)
  refine ev_bs ((oI_k hs.1.2.2.2.2.2.2.1.2.1).trans (congrArg some h4.2)) ?_
  exact ev_if (fun h2 => ev_some (Or.inl rfl)) (fun h2 => ev_some (Or.inr (nI_get (by omega) h h2)))
theorem x_came {b : Nat} {σ : fr_S} (h : XI b σ) (x1 : Int32) : ev (m_FR_came b x1 σ) (fun _ => True) := by
  obtain ⟨hs, np, nw, nk, nt, nl, nf, y1, y2, y3, y4, y5, y6, -⟩ := id h
  have hT := hs.1.2.2.2.2.2.2.1
  have := y4.1
  unfold m_FR_came
  refine ev_bs (xp72 hs) ?_
  refine ev_bs (oK_k hT.2.1) ?_
  refine ev_b (x_thas hs y4 x1) (fun r hr => ?_)
  refine ev_if (fun _ => ev_some trivial) (fun h0 => ?_)
  rcases hr with hr | ⟨i, hi, rfl⟩
  · exact absurd hr h0
  refine ev_bs (xp72 hs) ?_
  refine ev_bs (oP_g hT.2.1 hT.2.2.2.2.2.2.1) ?_
  refine ev_bs (oV_nI (n := 60) hT.2.2.2.2.2.2.2 (by omega) (by decide)) ?_
  exact ev_some trivial
theorem x_barred {b : Nat} {σ : fr_S} (h : XI b σ) (x1 x2 : Int32) : ev (m_FR_barred b x1 x2 σ) (fun _ => True) := by
  obtain ⟨hs, np, nw, nk, nt, nl, nf, y1, y2, y3, y4, y5, y6, -⟩ := id h
  have hT := hs.1.2.2.2.2.2.2.1
  have := y4.1
  unfold m_FR_barred
  refine ev_bs (xp72 hs) ?_
  refine ev_bs (oK_k hT.2.1) ?_
  refine ev_b (x_thas hs y4 x1) (fun r hr => ?_)
  refine ev_if (fun _ => ev_some trivial) (fun h0 => ?_)
  rcases hr with hr | ⟨i, hi, rfl⟩
  · exact absurd hr h0
  refine ev_if (fun _ => ?_) (fun _ => ?_)
  · refine ev_bs (xp72 hs) ?_
    refine ev_bs (oP_g hT.2.1 hT.2.2.1) ?_
    refine ev_bs (oV_nI (n := 60) hT.2.2.2.1 (by omega) (by decide)) ?_
    exact ev_some trivial
  refine ev_if (fun _ => ?_) (fun _ => ev_some trivial)
  refine ev_bs (xp72 hs) ?_
  refine ev_bs (oP_g hT.2.1 hT.2.2.2.2.1) ?_
  refine ev_bs (oV_nI (n := 60) hT.2.2.2.2.2.1 (by omega) (by decide)) ?_
  exact ev_some trivial
theorem x_file {b : Nat} {σ : fr_S} (h : XI b σ) (x1 x2 : Int32) : ev (m_FR_file b x1 x2 σ) (fun _ => True) := by
  obtain ⟨hs, np, nw, nk, nt, nl, nf, y1, y2, y3, y4, y5, y6, -⟩ := id h
  have hF := hs.1.2.2.2.2.2.2.2.2
  have := y6.1
  unfold m_FR_file
  refine ev_bs (xp75 hs) ?_
  refine ev_bs (oK_k hF.2.1) ?_
  have key : ev (m_Files_has (b + 33) x1 σ) (fun r => r = 0 ∨ ∃ j, j < nf ∧ x1 = nI j) := by
    unfold m_Files_has
    refine ev_if (fun h => ev_some (Or.inl rfl)) (fun h => ?_)
    refine ev_bs ((oI_k hF.2.1).trans (congrArg some y6.2)) ?_
    exact ev_if (fun h2 => ev_some (Or.inl rfl)) (fun h2 => ev_some (Or.inr (nI_get (by omega) h h2)))
  refine ev_b key (fun r hr => ?_)
  refine ev_if (fun _ => ev_some trivial) (fun h0 => ?_)
  rcases hr with hr | ⟨i, hi, rfl⟩
  · exact absurd hr h0
  refine ev_if (fun _ => ?_) (fun _ => ?_)
  · exact ev_bs (xp75 hs) (ev_bs (oP_g hF.2.1 hF.2.2.1) (ev_bs (oV_nI (n := 33) hF.2.2.2.1 (by omega) (by decide)) (ev_some trivial)))
  refine ev_if (fun _ => ?_) (fun _ => ?_)
  · exact ev_bs (xp75 hs) (ev_bs (oP_g hF.2.1 hF.2.2.2.2.1) (ev_bs (oV_nI (n := 33) hF.2.2.2.2.2.1 (by omega) (by decide)) (ev_some trivial)))
  refine ev_if (fun _ => ?_) (fun _ => ?_)
  · exact ev_bs (xp75 hs) (ev_bs (oP_g hF.2.1 hF.2.2.2.2.2.2.1) (ev_bs (oV_nI (n := 33) hF.2.2.2.2.2.2.2.1 (by omega) (by decide)) (ev_some trivial)))
  refine ev_if (fun _ => ?_) (fun _ => ev_some trivial)
  exact ev_bs (xp75 hs) (ev_bs (oP_g hF.2.1 hF.2.2.2.2.2.2.2.2.1) (ev_bs (oV_nI (n := 33) hF.2.2.2.2.2.2.2.2.2 (by omega) (by decide)) (ev_some trivial)))
theorem x_byteOf {b : Nat} {σ : fr_S} (h : XI b σ) (x1 x2 : Int32) : ev (m_FR_byteOf b x1 x2 σ) (fun _ => True) := by
  obtain ⟨nw, hw⟩ := xnw h
  have hs := h.1
  unfold m_FR_byteOf
  refine ev_bs (xK hs) ?_
  refine ev_b (x_isWant hs hw x1) (fun r hr => ?_)
  refine ev_if (fun _ => ev_some trivial) (fun h0 => ?_)
  rcases hr with hr | ⟨-, j, hj, rfl⟩
  · exact absurd hr h0
  refine ev_bs (xp69 hs) ?_
  refine ev_bs (xW hs (by omega)) ?_
  refine ev_bs (wt_r hs (by omega)) ?_
  refine ev_bs (oK_k (row_k h (pr_w (by omega)))) ?_
  exact ev_b (x_at h (pr_w (by omega)) x2) (fun _ _ => ev_some trivial)
theorem x_about {b : Nat} {σ : fr_S} (h : XI b σ) (x1 x2 : Int32) : ev (m_FR_about b x1 x2 σ) (fun _ => True) := by
  obtain ⟨nw, hw⟩ := xnw h
  have hs := h.1
  unfold m_FR_about
  refine ev_bs (xK hs) ?_
  refine ev_b (x_isWant hs hw x1) (fun r hr => ?_)
  refine ev_if (fun _ => ev_some trivial) (fun h0 => ?_)
  rcases hr with hr | ⟨-, j, hj, rfl⟩
  · exact absurd hr h0
  have hk := wt_k hs (show j < 10 by omega)
  refine ev_bs (xp69 hs) ?_
  refine ev_bs (xW hs (by omega)) ?_
  refine ev_if (fun _ => ev_bs (oI_k hk) (ev_some trivial)) (fun _ => ?_)
  refine ev_if (fun _ => ?_) (fun _ => ?_)
  · refine ev_bs (oK_k hk) ?_
    refine ev_b (x_isBusy hs (by omega)) (fun _ _ => ?_)
    refine ev_if (fun _ => ev_some trivial) (fun _ => ?_)
    refine ev_bs (oK_k hk) ?_
    exact ev_b (x_cur h (by omega)) (fun _ _ => ev_some trivial)
  refine ev_if (fun _ => ?_) (fun _ => ?_)
  · refine ev_bs (wt_r hs (by omega)) ?_
    exact ev_bs (oI_k (row_k h (pr_w (by omega)))) (ev_some trivial)
  refine ev_if (fun _ => ?_) (fun _ => ?_)
  · refine ev_bs (oI_k hk) ?_
    exact ev_if (fun _ => ev_bs (oI_k hk) (ev_some trivial)) (fun _ => ev_some trivial)
  exact ev_if (fun _ => ev_bs (oI_k hk) (ev_some trivial)) (fun _ => ev_some trivial)
theorem x_find {b nk : Nat} {σ : fr_S} (hs : Sx b σ) (h3 : nk ≤ 10 ∧ gI σ 322 (b + 5) = nI nk) (x : Int32) : ev (m_Store_find (b + 5) x σ) (fun r => r = -1 ∨ ∃ k, k < nk ∧ r = nI k) := by
  have hT := hs.1.2.2.2.2.2.1
  have key : ∀ (n k : Nat), k ≤ nk → nk - k < n → ev (m_Store_find_L2 n (b + 5) x (nI k) σ) (fun r => r = -1 ∨ ∃ k, k < nk ∧ r = nI k) := by
    intro n
    induction n with
    | zero => intro k _ h; omega
    | succ n ih =>
      intro k hk hn
      unfold m_Store_find_L2
      refine ev_bs ((oI_k hT.2.1).trans (congrArg some h3.2)) ?_
      refine ev_if (fun _ => ev_some (Or.inl rfl)) (fun z => ?_)
      rw [nI_leI (by omega) (by omega)] at z
      refine ev_bs (oP_g hT.2.1 hT.2.2.1) ?_
      refine ev_bs (oV_nI (n := 10) hT.2.2.2.1 (by omega) (by decide)) ?_
      refine ev_if (fun _ => ev_some (Or.inr ⟨k, by omega, rfl⟩)) (fun _ => ?_)
      rw [nI_1]
      exact ih (k + 1) (by omega) (by omega)
  unfold m_Store_find
  have k0 := key 1000 0 (by omega) (by omega)
  rw [nI_0] at k0
  exact k0
theorem x_keep {b r v : Nat} {σ : fr_S} (h : XI b σ) (hp : pr b r v) (x : Int32) : ev (m_Store_keep (b + 5) x r σ) (XI b) := by
  obtain ⟨hs, np, nw, nk, nt, nl, nf, y1, y2, y3, y4, y5, y6, -⟩ := id h
  have hT := hs.1.2.2.2.2.2.1
  unfold m_Store_keep
  refine ev_bs (oK_k hT.2.1) ?_
  refine ev_b (x_find hs y3 x) (fun r2 _ => ?_)
  refine ev_if (fun _ => ?_) (fun _ => ev_some h)
  refine ev_bs ((oI_k hT.2.1).trans (congrArg some y3.2)) ?_
  refine ev_if (fun h10 => ?_) (fun _ => ev_some h)
  have := y3.1
  rw [nI_lit10, nI_ltI (by omega) (by omega)] at h10
  refine ev_bs (oP_g hT.2.1 hT.2.2.1) ?_
  refine ev_bs ((oI_k hT.2.1).trans (congrArg some y3.2)) ?_
  refine ev_bs (sV_nI (n := 10) hT.2.2.2.1 h10 (by decide)) ?_
  have h2 : XI b (pA σ (b + 6) (upd (gV σ (b + 6)) nk x)) := XI_oA h (by omega)
  have y3' : gI (pA σ (b + 6) (upd (gV σ (b + 6)) nk x)) 322 (b + 5) = nI nk := y3.2
  generalize pA σ (b + 6) (upd (gV σ (b + 6)) nk x) = σ2 at h2 y3' ⊢
  have hs2 := h2.1
  have hT2 := hs2.1.2.2.2.2.2.1
  refine ev_bs (oP_g hT2.2.1 hT2.2.2.2.2.1) ?_
  refine ev_bs ((oI_k hT2.2.1).trans (congrArg some y3')) ?_
  refine ev_bs (oQ_nI (n := 10) hT2.2.2.2.2.2 h10 (by decide) (hs2.2.2.2 nk h10).1) ?_
  refine ev_bs (oK_k (row_k h2 (pr_k h10))) ?_
  refine ev_b (x_copy h2 (pr_k h10) hp) (fun σ' h' => ?_)
  have hT3 := h'.1.1.1.2.2.2.2.2.1
  refine ev_bs ((oI_k hT3.2.1).trans (congrArg some ((h'.2 322 (by decide) (b + 5)).trans y3'))) ?_
  refine ev_bs (sI_k hT3.2.1) ?_
  rw [nI_1]
  exact ev_some (XI_cnt h'.1 (Or.inr (Or.inr (Or.inl ⟨rfl, rfl, by omega⟩))))
theorem x_tell {b : Nat} {σ : fr_S} (h : XI b σ) (x1 x2 x3 : Int32) : ev (m_Tellings_tell (b + 28) x1 x2 x3 σ) (XI b) := by
  obtain ⟨hs, np, nw, nk, nt, nl, nf, y1, y2, y3, y4, y5, y6, -⟩ := id h
  have hT := hs.1.2.2.2.2.2.2.1
  unfold m_Tellings_tell
  refine ev_bs ((oI_k hT.2.1).trans (congrArg some y4.2)) ?_
  refine ev_if (fun h60 => ?_) (fun _ => ev_some h)
  have := y4.1
  have h60 : nt < 60 := by
    have e : (60 : Int32) = nI 60 := by decide +kernel
    rw [e, nI_ltI (by omega) (by omega)] at h60
    exact h60
  refine ev_bs (oP_g hT.2.1 hT.2.2.1) ?_
  refine ev_bs ((oI_k hT.2.1).trans (congrArg some y4.2)) ?_
  refine ev_bs (sV_nI (n := 60) hT.2.2.2.1 h60 (by decide)) ?_
  have h2 : XI b (pA σ (b + 29) (upd (gV σ (b + 29)) nt x1)) := XI_oA h (by omega)
  have e2 : gI (pA σ (b + 29) (upd (gV σ (b + 29)) nt x1)) 387 (b + 28) = nI nt := y4.2
  generalize pA σ (b + 29) (upd (gV σ (b + 29)) nt x1) = σ2 at h2 e2 ⊢
  have hT2 := h2.1.1.2.2.2.2.2.2.1
  refine ev_bs (oP_g hT2.2.1 hT2.2.2.2.2.1) ?_
  refine ev_bs ((oI_k hT2.2.1).trans (congrArg some e2)) ?_
  refine ev_bs (sV_nI (n := 60) hT2.2.2.2.2.2.1 h60 (by decide)) ?_
  have h3 : XI b (pA σ2 (b + 30) (upd (gV σ2 (b + 30)) nt x2)) := XI_oA h2 (by omega)
  have e3 : gI (pA σ2 (b + 30) (upd (gV σ2 (b + 30)) nt x2)) 387 (b + 28) = nI nt := e2
  generalize pA σ2 (b + 30) (upd (gV σ2 (b + 30)) nt x2) = σ3 at h3 e3 ⊢
  have hT3 := h3.1.1.2.2.2.2.2.2.1
  refine ev_bs (oP_g hT3.2.1 hT3.2.2.2.2.2.2.1) ?_
  refine ev_bs ((oI_k hT3.2.1).trans (congrArg some e3)) ?_
  refine ev_bs (sV_nI (n := 60) hT3.2.2.2.2.2.2.2 h60 (by decide)) ?_
  have h4 : XI b (pA σ3 (b + 31) (upd (gV σ3 (b + 31)) nt x3)) := XI_oA h3 (by omega)
  have e4 : gI (pA σ3 (b + 31) (upd (gV σ3 (b + 31)) nt x3)) 387 (b + 28) = nI nt := e3
  generalize pA σ3 (b + 31) (upd (gV σ3 (b + 31)) nt x3) = σ4 at h4 e4 ⊢
  have hT4 := h4.1.1.2.2.2.2.2.2.1
  refine ev_bs ((oI_k hT4.2.1).trans (congrArg some e4)) ?_
  refine ev_bs (sI_k hT4.2.1) ?_
  rw [nI_1]
  exact ev_some (XI_cnt h4 (Or.inr (Or.inr (Or.inr (Or.inl ⟨rfl, rfl, by omega⟩)))))
theorem x_note {b : Nat} {σ : fr_S} (h : XI b σ) (x : Int32) : ev (m_FR_noteLacking b x σ) (fun σ' => XI b σ' ∧ ∀ f, f ≠ 74 → ∀ a, gI σ' f a = gI σ f a) := by
  obtain ⟨hs, np, nw, nk, nt, nl, nf, y1, y2, y3, y4, y5, y6, -⟩ := id h
  have hT := hs.1.2.2.2.2.2.2.2.1
  have := y5.1
  have key : ∀ (n k : Nat), k ≤ nl → nl - k < n → ev (m_FR_noteLacking_L2 n b x (nI k) σ) (fun σ' => XI b σ' ∧ ∀ f, f ≠ 74 → ∀ a, gI σ' f a = gI σ f a) := by
    intro n
    induction n with
    | zero => intro k _ h; omega
    | succ n ih =>
      intro k hk hn
      unfold m_FR_noteLacking_L2
      refine ev_bs ((xI hs).trans (congrArg some y5.2)) ?_
      refine ev_if (fun _ => ?_) (fun z => ?_)
      · refine ev_bs ((xI hs).trans (congrArg some y5.2)) ?_
        refine ev_if (fun _ => ev_some ⟨h, fun _ _ _ => rfl⟩) (fun h10 => ?_)
        rw [nI_lit10, nI_leI (by omega) (by omega)] at h10
        refine ev_bs (xp73 hs) ?_
        refine ev_bs ((xI hs).trans (congrArg some y5.2)) ?_
        refine ev_bs (sI_k hs.1.1) ?_
        rw [nI_1]
        refine ev_bs (sV_nI (n := 10) (show gK (pI σ 74 b (nI (nl + 1))) (b + 32) = some (.inr (0, 10)) from hT.2) (by omega) (by decide)) ?_
        exact ev_some ⟨XI_oA (XI_cnt h (Or.inr (Or.inr (Or.inr (Or.inr (Or.inl ⟨rfl, rfl, by omega⟩)))))) (by omega), fun f hf a => gI_pIf hf⟩
      · rw [nI_leI (by omega) (by omega)] at z
        refine ev_bs (xp73 hs) ?_
        refine ev_bs (oV_nI (n := 10) hT.2 (by omega) (by decide)) ?_
        refine ev_if (fun _ => ev_some ⟨h, fun _ _ _ => rfl⟩) (fun _ => ?_)
        rw [nI_1]
        exact ih (k + 1) (by omega) (by omega)
  unfold m_FR_noteLacking
  have k0 := key 1000 0 (by omega) (by omega)
  rw [nI_0] at k0
  exact k0
theorem x_startAt {b j a : Nat} {σ : fr_S} (h : XI b σ) (hj : j < 10) (ha : a ≤ 5) : ev (m_Want_startAt (b + 86 + 4 * j) (nI a) σ) (XI b) := by
  unfold m_Want_startAt
  refine ev_bs (sI_k (wt_k h.1 hj)) ?_
  have h1 : XI b (pI σ 453 (b + 86 + 4 * j) (nI a)) := XI_cur h ha
  generalize pI σ 453 (b + 86 + 4 * j) (nI a) = σ1 at h1 ⊢
  refine ev_bs (sI_k (wt_k h1.1 hj)) ?_
  have h2 : XI b (pI σ1 454 (b + 86 + 4 * j) 0) := XI_o h1 (by decide) (by decide)
  generalize pI σ1 454 (b + 86 + 4 * j) 0 = σ2 at h2 ⊢
  refine ev_bs (wt_r h2.1 hj) ?_
  refine ev_bs (sI_k (row_k h2 (pr_w hj))) ?_
  have h3 : XI b (pI σ2 257 (b + 87 + 4 * j) 0) := by
    have := XI_len (r := b + 87 + 4 * j) (n := 0) h2 (by omega)
    rw [nI_0] at this
    exact this
  generalize pI σ2 257 (b + 87 + 4 * j) 0 = σ3 at h3 ⊢
  refine ev_bs (sI_k (wt_k h3.1 hj)) ?_
  exact ev_some (XI_o h3 (by decide) (by decide))
theorem x_fetchFrom {b j f : Nat} {σ : fr_S} (h : XI b σ) (hj : j < 10) (hf : f ≤ 6) : ev (m_FR_fetchFrom b (b + 86 + 4 * j) (nI f) σ) (XI b) := by
  have hs := h.1
  have hk := wt_k hs hj
  obtain ⟨⟨m, m6, hm, hpl⟩, -⟩ := xw8 h hj
  have key : ∀ (n f : Nat), f ≤ 6 → 6 - f < n → ev (m_FR_fetchFrom_L2 n b (b + 86 + 4 * j) (nI f) σ) (XI b) := by
    intro n
    induction n with
    | zero => intro f _ h; omega
    | succ n ih =>
      intro f hf hn
      unfold m_FR_fetchFrom_L2
      refine ev_bs ((oI_k hk).trans (congrArg some hm)) ?_
      refine ev_if (fun _ => ?_) (fun z => ?_)
      · refine ev_bs (sI_k hk) ?_
        exact ev_some (XI_o h (by decide) (by decide))
      · rw [nI_leI (by omega) (by omega)] at z
        obtain ⟨p, hp, hpe⟩ := hpl f (by omega)
        refine ev_bs (xp67 hs) ?_
        refine ev_bs (wt_p hs hj) ?_
        refine ev_bs ((oV_nI (hs.2.2.1 j hj).2.2.2.2.2 (by omega) (by decide)).trans (congrArg some hpe)) ?_
        refine ev_bs (xP hs hp) ?_
        refine ev_bs (oI_k (pl_k hs hp)) ?_
        refine ev_if (fun _ => ?_) (fun _ => ?_)
        · refine ev_bs (oK_k hk) ?_
          exact ev_b (x_startAt h hj (by omega)) (fun σ' h' => ev_some h')
        · rw [nI_1]
          exact ih (f + 1) (by omega) (by omega)
  unfold m_FR_fetchFrom
  exact key 1000 f hf (by omega)
theorem x_giveUp {b j : Nat} {σ : fr_S} (h : XI b σ) (hj : j < 10) : ev (m_FR_giveUp b (b + 86 + 4 * j) σ) (XI b) := by
  obtain ⟨-, a, a5, ha⟩ := xw8 h hj
  unfold m_FR_giveUp
  refine ev_bs ((oI_k (wt_k h.1 hj)).trans (congrArg some ha)) ?_
  refine ev_bs (xK h.1) ?_
  rw [nI_1]
  exact ev_b (x_fetchFrom h hj (by omega)) (fun σ' h' => ev_some h')
theorem x_falter {b j : Nat} {σ : fr_S} (h : XI b σ) (hj : j < 10) : ev (m_FR_falter b (b + 86 + 4 * j) σ) (XI b) := by
  have hk := wt_k h.1 hj
  unfold m_FR_falter
  refine ev_bs (oI_k hk) ?_
  refine ev_bs (xI h.1) ?_
  refine ev_if (fun _ => ?_) (fun _ => ?_)
  · refine ev_bs (xI h.1) ?_
    refine ev_bs (oI_k hk) ?_
    refine ev_bs (sI_k hk) ?_
    generalize gI σ 77 b + (1 <<< (gI σ 454 (b + 86 + 4 * j) &&& 31)) = v1
    have h1 : XI b (pI σ 455 (b + 86 + 4 * j) v1) := XI_o h (by decide) (by decide)
    generalize pI σ 455 (b + 86 + 4 * j) v1 = σ1 at h1 ⊢
    refine ev_bs (oI_k (wt_k h1.1 hj)) ?_
    refine ev_bs (sI_k (wt_k h1.1 hj)) ?_
    generalize gI σ1 454 (b + 86 + 4 * j) + 1 = v2
    have h2 : XI b (pI σ1 454 (b + 86 + 4 * j) v2) := XI_o h1 (by decide) (by decide)
    generalize pI σ1 454 (b + 86 + 4 * j) v2 = σ2 at h2 ⊢
    refine ev_bs (sI_k (wt_k h2.1 hj)) ?_
    exact ev_some (XI_o h2 (by decide) (by decide))
  · refine ev_bs (xK h.1) ?_
    exact ev_b (x_giveUp h hj) (fun σ' h' => ev_some h')
theorem xpl {b i : Nat} {σ : fr_S} (h : XI b σ) (hi : i < 16) : (∃ h, h < 8 ∧ gI σ 193 (b + 38 + 3 * i) = nI h) ∧ (gI σ 195 (b + 38 + 3 * i) = -1 ∨ ∃ j, j < 16 ∧ gI σ 195 (b + 38 + 3 * i) = nI j) := by
  obtain ⟨-, np, nw, nk, nt, nl, nf, x1, x2, x3, x4, x5, x6, x7, -⟩ := h
  exact x7 i hi
theorem x_countSent {b i : Nat} {σ : fr_S} (h : XI b σ) (hi : i < 16) (x : Int32) : ev (m_FR_countSent b (nI i) x σ) (fun σ' => XI b σ' ∧ ∀ f a, gI σ' f a = gI σ f a) := by
  have hs := h.1
  unfold m_FR_countSent
  refine ev_if (fun _ => ev_some ⟨h, fun _ _ => rfl⟩) (fun _ => ?_)
  obtain ⟨⟨g, hg, hge⟩, -⟩ := xpl h hi
  refine ev_bs (xp66 hs) ?_
  refine ev_bs (xp67 hs) ?_
  refine ev_bs (xP hs hi) ?_
  refine ev_bs ((oI_k (pl_k hs hi)).trans (congrArg some hge)) ?_
  refine ev_bs (oV_nI (n := 8) hs.1.2.2.1.2 hg (by decide)) ?_
  refine ev_bs (sV_nI (n := 8) hs.1.2.2.1.2 hg (by decide)) ?_
  exact ev_some ⟨XI_oA h (by omega), fun _ _ => rfl⟩
theorem x_leads {b i : Nat} {σ : fr_S} (h : XI b σ) (hi : i < 16) : ev (m_Place_leadsOn (b + 38 + 3 * i) σ) (fun r => r = 0 ∨ ∃ j, j < 16 ∧ gI σ 195 (b + 38 + 3 * i) = nI j) := by
  have hk := pl_k h.1 hi
  obtain ⟨-, hl⟩ := xpl h hi
  unfold m_Place_leadsOn
  refine ev_bs (oI_k hk) ?_
  refine ev_if (fun _ => ?_) (fun _ => ev_some (Or.inl rfl))
  refine ev_bs (oI_k hk) ?_
  refine ev_if (fun _ => ev_some (Or.inl rfl)) (fun z => ev_some (Or.inr ?_))
  rcases hl with hl | hl
  · exact absurd hl z
  · exact hl
theorem x_gives {b i : Nat} {σ : fr_S} (h : XI b σ) (hi : i < 16) (x : Int32) : ev (m_Place_gives (b + 38 + 3 * i) x σ) (fun _ => True) := by
  have hk := pl_k h.1 hi
  unfold m_Place_gives
  refine ev_bs (oI_k hk) ?_
  refine ev_if (fun _ => ?_) (fun _ => ev_some trivial)
  refine ev_bs (oI_k hk) ?_
  refine ev_if (fun _ => ?_) (fun _ => ev_some trivial)
  refine ev_if (fun _ => ?_) (fun _ => ev_some trivial)
  refine ev_bs (oI_k hk) ?_
  exact ev_if (fun _ => ev_some trivial) (fun _ => ev_some trivial)
theorem x_ask_L {b : Nat} : ∀ (n k i : Nat) (y3 : Int32) (σ : fr_S), XI b σ → i < 16 → k ≤ 3 → 3 - k < n → ev (m_FR_ask_L36 n b (nI i) y3 (nI k) σ) (fun q => XI b q.2 ∧ (q.1 = -1 ∨ ∃ j, j < 16 ∧ q.1 = nI j)) := by
  intro n
  induction n with
  | zero => intro k i y3 σ _ _ _ h; omega
  | succ n ih =>
    intro k i y3 σ h hi hk hn
    have hs := h.1
    unfold m_FR_ask_L36
    have fin : ev ((oP σ 1 67 b).bind fun q12 => (oQ σ 2 q12 (nI i)).bind fun q13 => (oK σ 3 q13).bind fun _ => (m_Place_gives q13 y3 σ).bind fun r15 => if r15 = 0 then some ((-1 : Int32), σ) else some (nI i, σ)) (fun q => XI b q.2 ∧ (q.1 = -1 ∨ ∃ j, j < 16 ∧ q.1 = nI j)) := by
      refine ev_bs (xp67 hs) ?_
      refine ev_bs (xP hs hi) ?_
      refine ev_bs (oK_k (pl_k hs hi)) ?_
      refine ev_b (x_gives h hi y3) (fun r _ => ?_)
      exact ev_if (fun _ => ev_some ⟨h, Or.inl rfl⟩) (fun _ => ev_some ⟨h, Or.inr ⟨i, hi, rfl⟩⟩)
    refine ev_if (fun _ => fin) (fun z => ?_)
    have hk3 : k < 3 := by
      rw [← nI_v3, nI_leI (by omega) (by omega)] at z
      omega
    refine ev_bs (xp67 hs) ?_
    refine ev_bs (xP hs hi) ?_
    refine ev_bs (oK_k (pl_k hs hi)) ?_
    refine ev_b (x_leads h hi) (fun r hr => ?_)
    refine ev_if (fun _ => fin) (fun h0 => ?_)
    rcases hr with hr | ⟨j, hj, hje⟩
    · exact absurd hr h0
    refine ev_bs (xp67 hs) ?_
    refine ev_bs (xP hs hi) ?_
    refine ev_bs ((oI_k (pl_k hs hi)).trans (congrArg some hje)) ?_
    have go : ∀ y : Int32, ev ((oK σ 1 b).bind fun _ => (m_FR_countSent b (nI j) y σ).bind fun σ_32 => m_FR_ask_L36 n b (nI j) y (nI k + 1) σ_32) (fun q => XI b q.2 ∧ (q.1 = -1 ∨ ∃ j, j < 16 ∧ q.1 = nI j)) := by
      intro y
      refine ev_bs (xK hs) ?_
      refine ev_b (x_countSent h hj y) (fun σ' h' => ?_)
      rw [nI_1]
      exact ih (k + 1) j y σ' h'.1 hj (by omega) (by omega)
    refine ev_if (fun _ => go 0) (fun _ => ?_)
    refine ev_bs (xp67 hs) ?_
    refine ev_bs (xP hs hj) ?_
    refine ev_bs (oI_k (pl_k hs hj)) ?_
    refine ev_bs (xp67 hs) ?_
    refine ev_bs (xP hs hi) ?_
    refine ev_bs (oI_k (pl_k hs hi)) ?_
    exact ev_if (fun _ => go 1) (fun _ => go 0)
theorem x_ask {b : Nat} {σ : fr_S} (h : XI b σ) (x : Int32) : ev (m_FR_ask b x σ) (fun q => XI b q.2 ∧ (q.1 = -1 ∨ ∃ j, j < 16 ∧ q.1 = nI j)) := by
  obtain ⟨np, hn⟩ := xnp h
  have hs := h.1
  unfold m_FR_ask
  refine ev_bs (xK hs) ?_
  refine ev_b (x_isPlace hs hn x) (fun r hr => ?_)
  refine ev_if (fun _ => ev_some ⟨h, Or.inl rfl⟩) (fun h0 => ?_)
  rcases hr with hr | ⟨-, i, hi, rfl⟩
  · exact absurd hr h0
  have hi16 : i < 16 := by omega
  obtain ⟨⟨g, hg, hge⟩, -⟩ := xpl h hi16
  refine ev_bs (xp65 hs) ?_
  refine ev_bs (xp67 hs) ?_
  refine ev_bs (xP hs hi16) ?_
  refine ev_bs ((oI_k (pl_k hs hi16)).trans (congrArg some hge)) ?_
  refine ev_bs (oV_nI (n := 8) hs.1.2.1.2 hg (by decide)) ?_
  refine ev_bs (xK hs) ?_
  refine ev_b (x_countSent h hi16 _) (fun σ' h' => ?_)
  have key := x_ask_L 1000 0 i (gV σ (b + 1) g) σ' h'.1 hi16 (by omega) (by omega)
  rw [nI_0] at key
  exact key
theorem x_givenByte {b i k n : Nat} {σ : fr_S} (h : XI b σ) (hi : i < 16) (hl : gI σ 257 (b + 39 + 3 * i) = nI n) (hn : n ≤ 100) (hk : k < n) : ev (m_Place_givenByte (b + 38 + 3 * i) (nI k) σ) (fun x => ∃ y, y < 256 ∧ x = nI y) := by
  have hs := h.1
  have hr := row_k h (pr_p hi)
  unfold m_Place_givenByte
  have pl : ev ((oP σ 3 192 (b + 38 + 3 * i)).bind fun q2 => (oK σ 4 q2).bind fun _ => (m_Row_at q2 (nI k) σ).bind fun r4 => some r4) (fun x => ∃ y, y < 256 ∧ x = nI y) := by
    refine ev_bs (pl_r hs hi) ?_
    refine ev_bs (oK_k hr) ?_
    exact ev_b (x_at_in h (pr_p hi) hl hn hk) (fun r hr => ev_some hr)
  refine ev_if (fun _ => ?_) (fun _ => pl)
  refine ev_bs (oI_k (pl_k hs hi)) ?_
  refine ev_if (fun _ => pl) (fun _ => ?_)
  refine ev_bs (pl_r hs hi) ?_
  refine ev_bs (oK_k hr) ?_
  refine ev_b (x_at_in h (pr_p hi) hl hn hk) (fun r hr => ?_)
  obtain ⟨y, hy, rfl⟩ := hr
  exact ev_some (xor1 hy)
theorem x_giveTo_L {b i j p : Nat} (hi : i < 16) (hj : j < 10) (hp : p ≤ 100) (y2 y4 : Int32) (h2 : y2 = 0 ∨ y2 = 1) (h4 : y4 ≤ nI p) : ∀ (n k : Nat) (σ : fr_S), XI b σ → gI σ 257 (b + 39 + 3 * i) = nI p → k ≤ 100 → 100 - k < n → ev (m_Place_giveTo_L65 n (b + 38 + 3 * i) (b + 87 + 4 * j) y2 y4 (nI k) σ) (fun q => XI b q.2) := by
  intro n
  induction n with
  | zero => intro k σ _ _ _ h; omega
  | succ n ih =>
    intro k σ h hl hk hn
    unfold m_Place_giveTo_L65
    refine ev_if (fun _ => ?_) (fun z => ?_)
    · exact ev_bs (show oZ y2 = some () from if_pos h2) (ev_some h)
    · have hkp : k < p := by
        have z2 : ¬ nI p ≤ nI k := fun q => z (Int32.le_trans h4 q)
        rw [nI_leI (by omega) (by omega)] at z2
        omega
      refine ev_bs (oK_k (pl_k h.1 hi)) ?_
      refine ev_b (x_givenByte h hi hl hp hkp) (fun r hr => ?_)
      obtain ⟨y, hy, rfl⟩ := hr
      refine ev_bs (oK_k (row_k h (pr_w hj))) ?_
      refine ev_b (x_append h (pr_w hj) hy) (fun σ' h' => ?_)
      rw [nI_1]
      exact ih (k + 1) σ' h'.1 ((h'.2.1 _ (by omega)).trans hl) (by omega) (by omega)
theorem min_le_r (a c : Int32) : (if a < c then a else c) ≤ c := by
  by_cases e : a < c
  · rw [if_pos e]
    exact Int32.le_of_lt e
  · rw [if_neg e]
    exact Int32.le_refl c
theorem x_giveTo {b i j : Nat} {σ : fr_S} (h : XI b σ) (hi : i < 16) (hj : j < 10) : ev (m_Place_giveTo (b + 38 + 3 * i) (b + 87 + 4 * j) σ) (fun q => XI b q.2) := by
  have hs := h.1
  have hk := pl_k hs hi
  obtain ⟨p, hp, hpl⟩ := (XI_row h (pr_p hi)).2.1
  obtain ⟨r, hr, hrl⟩ := (XI_row h (pr_w hj)).2.1
  unfold m_Place_giveTo
  refine ev_bs (oI_k hk) ?_
  refine ev_if (fun _ => ?_) (fun _ => ?_)
  · refine ev_bs (oI_k hk) ?_
    refine ev_bs (pl_r hs hi) ?_
    refine ev_bs ((oI_k (row_k h (pr_p hi))).trans (congrArg some hpl)) ?_
    refine ev_bs ((oI_k (row_k h (pr_w hj))).trans (congrArg some hrl)) ?_
    refine ev_bs ((oI_k (row_k h (pr_w hj))).trans (congrArg some hrl)) ?_
    exact x_giveTo_L hi hj hp _ _ (Or.inl rfl) (min_le_r _ _) 1000 r σ h hpl hr (by omega)
  · refine ev_bs (oI_k hk) ?_
    refine ev_bs (oI_k hk) ?_
    refine ev_bs (sI_k hk) ?_
    generalize gI σ 196 (b + 38 + 3 * i) - 1 = v1
    have h1 : XI b (pI σ 196 (b + 38 + 3 * i) v1) := XI_o h (by decide) (by decide)
    have hpl1 : gI (pI σ 196 (b + 38 + 3 * i) v1) 257 (b + 39 + 3 * i) = nI p := by rw [gI_pIf (by decide)]; exact hpl
    have hrl1 : gI (pI σ 196 (b + 38 + 3 * i) v1) 257 (b + 87 + 4 * j) = nI r := by rw [gI_pIf (by decide)]; exact hrl
    generalize pI σ 196 (b + 38 + 3 * i) v1 = σ1 at h1 hpl1 hrl1 ⊢
    refine ev_bs (oI_k (pl_k h1.1 hi)) ?_
    refine ev_bs (pl_r h1.1 hi) ?_
    refine ev_bs ((oI_k (row_k h1 (pr_p hi))).trans (congrArg some hpl1)) ?_
    refine ev_bs ((oI_k (row_k h1 (pr_w hj))).trans (congrArg some hrl1)) ?_
    refine ev_bs ((oI_k (row_k h1 (pr_w hj))).trans (congrArg some hrl1)) ?_
    exact x_giveTo_L hi hj hp _ _ (Or.inr rfl) (min_le_r _ _) 1000 r σ1 h1 hpl1 hr (by omega)
theorem x_check {b j : Nat} {σ : fr_S} (h : XI b σ) (hj : j < 10) : ev (m_FR_checkDigest b (nI j) σ) (XI b) := by
  have hs := h.1
  have hk := wt_k hs hj
  unfold m_FR_checkDigest
  refine ev_bs (xp69 hs) ?_
  refine ev_bs (xW hs hj) ?_
  refine ev_bs (wt_r hs hj) ?_
  refine ev_bs (oK_k (row_k h (pr_w hj))) ?_
  refine ev_b (x_digest h (pr_w hj)) (fun d _ => ?_)
  refine ev_bs (oI_k hk) ?_
  refine ev_if (fun _ => ?_) (fun _ => ?_)
  · refine ev_bs (sI_k hk) ?_
    have h1 : XI b (pI σ 452 (b + 86 + 4 * j) 3) := XI_o h (by decide) (by decide)
    generalize pI σ 452 (b + 86 + 4 * j) 3 = σ1 at h1 ⊢
    refine ev_bs (xp71 h1.1) ?_
    refine ev_bs (wt_r h1.1 hj) ?_
    refine ev_bs (oK_k h1.1.1.2.2.2.2.2.1.2.1) ?_
    exact ev_b (x_keep h1 (pr_w hj) d) (fun σ' h' => ev_some h')
  · refine ev_bs (oK_k hk) ?_
    refine ev_b (x_cur h hj) (fun c hc => ?_)
    refine ev_bs (xK hs) ?_
    obtain ⟨np, hn⟩ := xnp h
    refine ev_b (x_isPlace hs hn c) (fun r hr => ?_)
    refine ev_if (fun _ => ?_) (fun h0 => ?_)
    · refine ev_bs (xK hs) ?_
      exact ev_b (x_giveUp h hj) (fun σ' h' => ev_some h')
    · rcases hr with hr | ⟨-, i, hi, rfl⟩
      · exact absurd hr h0
      refine ev_bs (xp67 hs) ?_
      refine ev_bs (xP hs (by omega)) ?_
      refine ev_bs (sZ_k (pl_k hs (by omega)) (Or.inr rfl)) ?_
      have h1 : XI b (pI σ 201 (b + 38 + 3 * i) 1) := XI_o h (by decide) (by decide)
      generalize pI σ 201 (b + 38 + 3 * i) 1 = σ1 at h1 ⊢
      refine ev_bs (xp72 h1.1) ?_
      refine ev_bs (oK_k h1.1.1.2.2.2.2.2.2.1.2.1) ?_
      refine ev_b (x_tell h1 _ _ _) (fun σ2 h2 => ?_)
      refine ev_bs (xK h2.1) ?_
      exact ev_b (x_giveUp h2 hj) (fun σ' h' => ev_some h')
theorem x_turn {b j : Nat} {σ : fr_S} (h : XI b σ) (hj : j < 10) : ev (m_FR_takeTurn b (nI j) σ) (XI b) := by
  have hs := h.1
  have hk := wt_k hs hj
  unfold m_FR_takeTurn
  refine ev_bs (xp69 hs) ?_
  refine ev_bs (xW hs hj) ?_
  refine ev_bs (oI_k hk) ?_
  refine ev_bs (sI_k hk) ?_
  generalize gI σ 456 (b + 86 + 4 * j) + 1 = v1
  have h1 : XI b (pI σ 456 (b + 86 + 4 * j) v1) := XI_o h (by decide) (by decide)
  generalize pI σ 456 (b + 86 + 4 * j) v1 = σ1 at h1 ⊢
  refine ev_bs (oK_k (wt_k h1.1 hj)) ?_
  refine ev_b (x_cur h1 hj) (fun c _ => ?_)
  refine ev_bs (xK h1.1) ?_
  refine ev_b (x_ask h1 c) (fun q hq => ?_)
  obtain ⟨g, σ2⟩ := q
  obtain ⟨h2, hg⟩ := hq
  have h2 : XI b σ2 := h2
  have hg : g = -1 ∨ ∃ j, j < 16 ∧ g = nI j := hg
  refine ev_if (fun _ => ?_) (fun hne => ?_)
  · refine ev_bs (xK h2.1) ?_
    exact ev_b (x_giveUp h2 hj) (fun σ' h' => ev_some h')
  · rcases hg with hg | ⟨i, hi, rfl⟩
    · exact absurd hg hne
    refine ev_bs (xp67 h2.1) ?_
    refine ev_bs (xP h2.1 hi) ?_
    refine ev_bs (wt_r h2.1 hj) ?_
    refine ev_bs (oK_k (pl_k h2.1 hi)) ?_
    refine ev_b (x_giveTo h2 hi hj) (fun q hq => ?_)
    obtain ⟨cu, σ3⟩ := q
    have h3 : XI b σ3 := hq
    refine ev_bs (wt_r h3.1 hj) ?_
    refine ev_bs (oI_k (row_k h3 (pr_w hj))) ?_
    refine ev_bs (pl_r h3.1 hi) ?_
    refine ev_bs (oI_k (row_k h3 (pr_p hi))) ?_
    refine ev_if (fun _ => ?_) (fun _ => ?_)
    · refine ev_if (fun _ => ev_some h3) (fun _ => ?_)
      refine ev_bs (xK h3.1) ?_
      exact ev_b (x_falter h3 hj) (fun σ' h' => ev_some h')
    · refine ev_bs (xK h3.1) ?_
      exact ev_b (x_check h3 hj) (fun σ' h' => ev_some h')
theorem x_move_L {b : Nat} : ∀ (n k : Nat) (σ : fr_S), XI b σ → k ≤ 10 → 10 - k < n → ev (m_FR_moveClock_L12 n b (nI k) σ) (XI b) := by
  intro n
  induction n with
  | zero => intro k σ _ _ h; omega
  | succ n ih =>
    intro k σ h hk hn
    obtain ⟨nw, hw⟩ := xnw h
    have hs := h.1
    unfold m_FR_moveClock_L12
    refine ev_bs ((xI hs).trans (congrArg some hw.2)) ?_
    refine ev_if (fun _ => ev_some h) (fun z => ?_)
    rw [nI_leI (by omega) (by omega)] at z
    have hk10 : k < 10 := by omega
    have hkk := wt_k hs hk10
    have go : ∀ σ' : fr_S, XI b σ' → ev ((oI σ' 7 452 (b + 86 + 4 * k)).bind fun v9 => if v9 = 1 then (oK σ' 1 b).bind fun _ => (m_FR_takeTurn b (nI k) σ').bind fun σ_12 => m_FR_moveClock_L12 n b (nI k + 1) σ_12 else m_FR_moveClock_L12 n b (nI k + 1) σ') (XI b) := by
      intro σ' h'
      refine ev_bs (oI_k (wt_k h'.1 hk10)) ?_
      refine ev_if (fun _ => ?_) (fun _ => ?_)
      · refine ev_bs (xK h'.1) ?_
        refine ev_b (x_turn h' hk10) (fun σ2 h2 => ?_)
        rw [nI_1]
        exact ih (k + 1) σ2 h2 (by omega) (by omega)
      · rw [nI_1]
        exact ih (k + 1) σ' h' (by omega) (by omega)
    refine ev_bs (xp69 hs) ?_
    refine ev_bs (xW hs hk10) ?_
    refine ev_bs (oI_k hkk) ?_
    refine ev_if (fun _ => ?_) (fun _ => go σ h)
    refine ev_bs (oI_k hkk) ?_
    refine ev_bs (xI hs) ?_
    refine ev_if (fun _ => go σ h) (fun _ => ?_)
    refine ev_bs (sI_k hkk) ?_
    exact go _ (XI_o h (by decide) (by decide))
theorem x_move {b : Nat} {σ : fr_S} (h : XI b σ) : ev (m_FR_moveClock b σ) (XI b) := by
  unfold m_FR_moveClock
  refine ev_bs (xI h.1) ?_
  refine ev_bs (sI_k h.1.1.1) ?_
  have key := x_move_L 1000 0 (pI σ 77 b (gI σ 77 b + 1)) (XI_o h (by decide) (by decide)) (by omega) (by omega)
  rw [nI_0] at key
  exact key
theorem x_busy {b : Nat} {σ : fr_S} (h : XI b σ) : ev (m_FR_countBusy b σ) (fun _ => True) := by
  obtain ⟨nw, hw⟩ := xnw h
  have hs := h.1
  have key : ∀ (n k : Nat) (y : Int32), k ≤ 10 → 10 - k < n → ev (m_FR_countBusy_L4 n b y (nI k) σ) (fun _ => True) := by
    intro n
    induction n with
    | zero => intro k y _ h; omega
    | succ n ih =>
      intro k y hk hn
      unfold m_FR_countBusy_L4
      refine ev_bs ((xI hs).trans (congrArg some hw.2)) ?_
      refine ev_if (fun _ => ev_some trivial) (fun z => ?_)
      rw [nI_leI (by omega) (by omega)] at z
      refine ev_bs (xp69 hs) ?_
      refine ev_bs (xW hs (by omega)) ?_
      refine ev_bs (oK_k (wt_k hs (by omega))) ?_
      refine ev_b (x_isBusy hs (by omega)) (fun r _ => ?_)
      rw [nI_1]
      exact ev_if (fun _ => ih (k + 1) _ (by omega) (by omega)) (fun _ => ih (k + 1) _ (by omega) (by omega))
  unfold m_FR_countBusy
  have k0 := key 1000 0 0 (by omega) (by omega)
  rw [nI_0] at k0
  exact k0
theorem x_tick_L {b q : Nat} (hq : q ≤ 50) : ∀ (n k : Nat) (σ : fr_S), XI b σ → k ≤ q → q - k < n → ev (m_FR_tick_L14 n b (nI q) (nI k) σ) (fun z => XI b z.2) := by
  intro n
  induction n with
  | zero => intro k σ _ _ h; omega
  | succ n ih =>
    intro k σ h hk hn
    unfold m_FR_tick_L14
    refine ev_if (fun _ => ?_) (fun z => ?_)
    · refine ev_bs (xK h.1) ?_
      exact ev_b (x_busy h) (fun _ _ => ev_some h)
    · rw [nI_leI (by omega) (by omega)] at z
      refine ev_bs (xK h.1) ?_
      refine ev_b (x_move h) (fun σ' h' => ?_)
      rw [nI_1]
      exact ih (k + 1) σ' h' (by omega) (by omega)
theorem x_tick {b : Nat} {σ : fr_S} (h : XI b σ) (x : Int32) : ev (m_FR_tick b x σ) (fun z => XI b z.2) := by
  unfold m_FR_tick
  refine ev_if (fun _ => ev_some h) (fun h0 => ?_)
  refine ev_if (fun h1 => ?_) (fun _ => ev_some h)
  obtain ⟨q, -, hq, rfl⟩ := nI_rng (x := x) (lo := 0) (hi := 50) (by rw [nI_0]; exact h0) (by rw [← nI_lit50]; exact h1) (by decide) (by decide)
  have key := x_tick_L hq 1000 0 σ h (by omega) (by omega)
  rw [nI_0] at key
  exact key
theorem x_begin {b : Nat} {σ : fr_S} (h : XI b σ) (x : Int32) : ev (m_FR_begin b x σ) (fun z => XI b z.2) := by
  obtain ⟨hs, np, nw, nk, nt, nl, nf, y1, hw, y3, -⟩ := id h
  unfold m_FR_begin
  refine ev_bs (xK hs) ?_
  refine ev_b (x_isWant hs hw x) (fun r hr => ?_)
  refine ev_if (fun _ => ev_some h) (fun h0 => ?_)
  rcases hr with hr | ⟨-, j, hj, rfl⟩
  · exact absurd hr h0
  have hj10 : j < 10 := by omega
  have hk := wt_k hs hj10
  refine ev_bs (xp69 hs) ?_
  refine ev_bs (xW hs hj10) ?_
  refine ev_bs (oK_k hk) ?_
  refine ev_b (x_isBusy hs hj10) (fun r _ => ?_)
  refine ev_if (fun _ => ?_) (fun _ => ev_some h)
  refine ev_bs (xp69 hs) ?_
  refine ev_bs (xW hs hj10) ?_
  refine ev_bs (xp71 hs) ?_
  refine ev_bs (oI_k hk) ?_
  have hT := hs.1.2.2.2.2.2.1
  refine ev_bs (oK_k hT.2.1) ?_
  refine ev_b (x_find hs y3 _) (fun r hr => ?_)
  refine ev_if (fun _ => ?_) (fun hne => ?_)
  · refine ev_bs (xI hs) ?_
    refine ev_if (fun _ => ?_) (fun _ => ?_)
    · refine ev_bs (xK hs) ?_
      have key := x_fetchFrom (f := 0) h hj10 (by omega)
      rw [nI_0] at key
      refine ev_b key (fun σ' h' => ?_)
      exact ev_bs (oI_k (wt_k h'.1 hj10)) (ev_some h')
    · refine ev_bs (sI_k hk) ?_
      have h1 : XI b (pI σ 452 (b + 86 + 4 * j) 4) := XI_o h (by decide) (by decide)
      generalize pI σ 452 (b + 86 + 4 * j) 4 = σ1 at h1 ⊢
      refine ev_bs (xK h1.1) ?_
      refine ev_b (x_note h1 _) (fun σ' h' => ?_)
      exact ev_bs (oI_k (wt_k h'.1.1 hj10)) (ev_some h'.1)
  · rcases hr with hr | ⟨k, hkk, rfl⟩
    · exact absurd hr hne
    have hk10 : k < 10 := by omega
    refine ev_bs (wt_r hs hj10) ?_
    refine ev_bs (xp71 hs) ?_
    refine ev_bs (oP_g hT.2.1 hT.2.2.2.2.1) ?_
    refine ev_bs (oQ_nI (n := 10) hT.2.2.2.2.2 hk10 (by decide) (hs.2.2.2 k hk10).1) ?_
    refine ev_bs (oK_k (row_k h (pr_w hj10))) ?_
    refine ev_b (x_copy h (pr_w hj10) (pr_k hk10)) (fun σ' h' => ?_)
    refine ev_bs (sI_k (wt_k h'.1.1 hj10)) ?_
    have h2 : XI b (pI σ' 452 (b + 86 + 4 * j) 3) := XI_o h'.1 (by decide) (by decide)
    exact ev_bs (oI_k (wt_k h2.1 hj10)) (ev_some h2)
theorem x_at_b {b r v : Nat} {σ : fr_S} (h : XI b σ) (hp : pr b r v) (i : Int32) (e : Nat) : ev (m_Row_at r i σ) (fun x => ∃ y, e ≤ y ∧ y ≤ e + 256 ∧ (nI e + 1) + x = nI y) := by
  refine ev_mono (x_at h hp i) (fun x hx => ?_)
  rw [nI_1]
  rcases hx with rfl | ⟨y, hy, rfl⟩
  · exact ⟨e, by omega, by omega, by rw [nI_r (by omega)]; rfl⟩
  · exact ⟨e + 1 + y, by omega, by omega, nI_add _ _⟩
theorem x_pathEnd {b r v e : Nat} {σ : fr_S} (h : XI b σ) (hp : pr b r v) : ev (m_Archive_pathEnd r (nI e) σ) (fun x => ∃ y, e ≤ y ∧ y ≤ e + 256 ∧ x = nI y) := by
  unfold m_Archive_pathEnd
  refine ev_bs (oK_k (row_k h hp)) ?_
  exact ev_b (x_at_b h hp (nI e) e) (fun x hx => ev_some hx)
theorem x_entryEnd {b r v e : Nat} {σ : fr_S} (h : XI b σ) (hp : pr b r v) : ev (m_Archive_entryEnd r (nI e) σ) (fun x => ∃ y, y ≤ e + 512 ∧ x = nI y) := by
  unfold m_Archive_entryEnd
  refine ev_b (x_pathEnd h hp) (fun x hx => ?_)
  obtain ⟨y, -, hy, rfl⟩ := hx
  refine ev_bs (oK_k (row_k h hp)) ?_
  refine ev_b (x_at_b h hp (nI y) y) (fun x hx => ?_)
  obtain ⟨z, -, hz, hze⟩ := hx
  exact ev_some ⟨z, by omega, hze⟩
theorem x_seg {b r v : Nat} {σ : fr_S} (h : XI b σ) (hp : pr b r v) (x1 x2 : Int32) : ev (m_Archive_isRightSegment r x1 x2 σ) (fun q => q = 0 ∨ q = 1) := by
  unfold m_Archive_isRightSegment
  refine ev_if (fun _ => ?_) (fun _ => ev_some (Or.inl rfl))
  refine ev_if (fun _ => ev_some (Or.inr rfl)) (fun _ => ?_)
  refine ev_bs (oK_k (row_k h hp)) ?_
  refine ev_b (x_at h hp x1) (fun _ _ => ?_)
  refine ev_if (fun _ => ?_) (fun _ => ev_some (Or.inr rfl))
  refine ev_bs (oK_k (row_k h hp)) ?_
  refine ev_b (x_at h hp _) (fun _ _ => ?_)
  exact ev_if (fun _ => ev_some (Or.inl rfl)) (fun _ => ev_some (Or.inr rfl))
theorem x_char (x : Int32) (σ : fr_S) : ev (m_Archive_isPathCharacter x σ) (fun _ => True) := by
  unfold m_Archive_isPathCharacter
  have e1 : ev (if x = 46 then some (1 : Int32) else some 0) (fun _ => True) := ev_if (fun _ => ev_some trivial) (fun _ => ev_some trivial)
  have e2 : ev (if x ≤ 57 then some (1 : Int32) else if x = 46 then some 1 else some 0) (fun _ => True) := ev_if (fun _ => ev_some trivial) (fun _ => e1)
  have e3 : ev (if x < 48 then if x = 46 then some (1 : Int32) else some 0 else if x ≤ 57 then some 1 else if x = 46 then some 1 else some 0) (fun _ => True) := ev_if (fun _ => e1) (fun _ => e2)
  exact ev_if (fun _ => e3) (fun _ => ev_if (fun _ => ev_some trivial) (fun _ => e3))
theorem x_rightPath_L {b r v t : Nat} {σ : fr_S} (h : XI b σ) (hp : pr b r v) (ht : t ≤ 700) : ∀ (n k : Nat) (y3 : Int32), k ≤ 701 → 701 - k < n → ev (m_Archive_isRightPath_L5 n r (nI t) y3 (nI k) σ) (fun _ => True) := by
  intro n
  induction n with
  | zero => intro k y3 _ h; omega
  | succ n ih =>
    intro k y3 hk hn
    unfold m_Archive_isRightPath_L5
    refine ev_if (fun _ => ?_) (fun z => ?_)
    · refine ev_b (x_seg h hp _ _) (fun q hq => ?_)
      exact ev_bs (show oZ q = some () from if_pos hq) (ev_some trivial)
    · rw [nI_leI (by omega) (by omega)] at z
      refine ev_bs (oK_k (row_k h hp)) ?_
      refine ev_b (x_at h hp _) (fun _ _ => ?_)
      rw [nI_1]
      refine ev_if (fun _ => ?_) (fun _ => ?_)
      · refine ev_b (x_seg h hp _ _) (fun q hq => ?_)
        exact ev_if (fun _ => ev_some trivial) (fun _ => ih (k + 1) _ (by omega) (by omega))
      · refine ev_b (x_char _ σ) (fun q hq => ?_)
        exact ev_if (fun _ => ev_some trivial) (fun _ => ih (k + 1) _ (by omega) (by omega))
theorem x_illE {b r v e : Nat} {σ : fr_S} (h : XI b σ) (hp : pr b r v) (he : e ≤ 100) : ev (m_Archive_findIllOfEntry r (nI e) σ) (fun _ => True) := by
  have hk := row_k h hp
  unfold m_Archive_findIllOfEntry
  refine ev_bs (oK_k hk) ?_
  refine ev_b (x_at h hp _) (fun _ _ => ?_)
  refine ev_if (fun _ => ev_some trivial) (fun _ => ?_)
  refine ev_if (fun _ => ?_) (fun _ => ev_some trivial)
  refine ev_b (x_pathEnd h hp) (fun _ _ => ?_)
  refine ev_bs (oI_k hk) ?_
  refine ev_if (fun _ => ?_) (fun _ => ev_bs (oI_k hk) (ev_some trivial))
  refine ev_b (x_pathEnd h hp) (fun x hx => ?_)
  obtain ⟨t, -, ht, rfl⟩ := hx
  rw [nI_1]
  unfold m_Archive_isRightPath
  refine ev_b (x_rightPath_L h hp (by omega) 1000 (e + 1) _ (by omega) (by omega)) (fun _ _ => ?_)
  refine ev_if (fun _ => ev_some trivial) (fun _ => ?_)
  refine ev_b (x_entryEnd h hp) (fun _ _ => ?_)
  refine ev_bs (oI_k hk) ?_
  exact ev_if (fun _ => ev_some trivial) (fun _ => ev_bs (oI_k hk) (ev_some trivial))
theorem x_ill {b r v : Nat} {σ : fr_S} (h : XI b σ) (hp : pr b r v) : ev (m_Archive_findIll r σ) (fun _ => True) := by
  have hk := row_k h hp
  obtain ⟨m, hm, hml⟩ := (XI_row h hp).2.1
  have key : ∀ (n e k : Nat), e ≤ 700 → k ≤ 100 → 100 - k < n → ev (m_Archive_findIll_L4 n r (nI e) (nI k) σ) (fun _ => True) := by
    intro n
    induction n with
    | zero => intro e k _ _ h; omega
    | succ n ih =>
      intro e k he hk2 hn
      unfold m_Archive_findIll_L4
      refine ev_if (fun _ => ev_some trivial) (fun z1 => ?_)
      rw [nI_lit100, nI_leI (by omega) (by omega)] at z1
      refine ev_bs ((oI_k hk).trans (congrArg some hml)) ?_
      refine ev_if (fun _ => ev_some trivial) (fun z2 => ?_)
      rw [nI_leI (by omega) (by omega)] at z2
      refine ev_b (x_illE h hp (by omega)) (fun _ _ => ?_)
      refine ev_if (fun _ => ?_) (fun _ => ev_some trivial)
      refine ev_b (x_entryEnd h hp) (fun x hx => ?_)
      obtain ⟨e2, he2, rfl⟩ := hx
      rw [nI_1]
      exact ih e2 (k + 1) (by omega) (by omega) (by omega)
  unfold m_Archive_findIll
  have k0 := key 1000 0 0 (by omega) (by omega) (by omega)
  rw [nI_0] at k0
  exact k0
theorem x_strip {b r v t s : Nat} {σ : fr_S} (h : XI b σ) (hp : pr b r v) (ht : t ≤ 700) (hs : s ≤ 700) (x3 : Int32) : ev (m_Archive_strippedStart r (nI s) (nI t) x3 σ) (fun x => ∃ y, y ≤ 701 ∧ x = nI y) := by
  have key : ∀ (n k g : Nat) (y5 : Int32), k ≤ 701 → g ≤ 701 → 701 - k < n → ev (m_Archive_strippedStart_L9 n r (nI t) (nI g) y5 (nI k) σ) (fun x => ∃ y, y ≤ 701 ∧ x = nI y) := by
    intro n
    induction n with
    | zero => intro k g y5 _ _ h; omega
    | succ n ih =>
      intro k g y5 hk hg hn
      unfold m_Archive_strippedStart_L9
      have fin : ev (if y5 ≤ 0 then some (nI g) else some (nI t)) (fun x => ∃ y, y ≤ 701 ∧ x = nI y) := ev_if (fun _ => ev_some ⟨g, by omega, rfl⟩) (fun _ => ev_some ⟨t, by omega, rfl⟩)
      refine ev_if (fun _ => fin) (fun z => ?_)
      rw [nI_leI (by omega) (by omega)] at z
      refine ev_if (fun _ => fin) (fun _ => ?_)
      refine ev_bs (oK_k (row_k h hp)) ?_
      refine ev_b (x_at h hp _) (fun _ _ => ?_)
      rw [nI_1]
      exact ev_if (fun _ => ih (k + 1) (k + 1) _ (by omega) (by omega) (by omega)) (fun _ => ih (k + 1) g _ (by omega) (by omega) (by omega))
  unfold m_Archive_strippedStart
  exact key 1000 s s x3 (by omega) (by omega) (by omega)
theorem x_same {b r v c : Nat} {σ : fr_S} (h : XI b σ) (hp : pr b r v) (hc : c ≤ 701) (x1 x2 : Int32) : ev (m_Row_hasSame r x1 x2 (nI c) σ) (fun _ => True) := by
  have key : ∀ (n k : Nat), k ≤ 701 → 701 - k < n → ev (m_Row_hasSame_L3 n r x1 x2 (nI c) (nI k) σ) (fun _ => True) := by
    intro n
    induction n with
    | zero => intro k _ h; omega
    | succ n ih =>
      intro k hk hn
      unfold m_Row_hasSame_L3
      refine ev_if (fun _ => ev_some trivial) (fun z => ?_)
      rw [nI_leI (by omega) (by omega)] at z
      refine ev_bs (oK_k (row_k h hp)) ?_
      refine ev_b (x_at h hp _) (fun _ _ => ?_)
      refine ev_bs (oK_k (row_k h hp)) ?_
      refine ev_b (x_at h hp _) (fun _ _ => ?_)
      rw [nI_1]
      exact ev_if (fun _ => ih (k + 1) (by omega) (by omega)) (fun _ => ev_some trivial)
  unfold m_Row_hasSame
  have k0 := key 1000 0 (by omega) (by omega)
  rw [nI_0] at k0
  exact k0
theorem xnf {b : Nat} {σ : fr_S} (h : XI b σ) : ∃ nf, nf ≤ 33 ∧ gI σ 132 (b + 33) = nI nf := by
  obtain ⟨-, np, nw, nk, nt, nl, nf, x1, x2, x3, x4, x5, x6, -⟩ := h
  exact ⟨nf, x6⟩
theorem x_findPath {b r v c nf : Nat} {σ : fr_S} (h : XI b σ) (hp : pr b r v) (hc : c ≤ 701) (hf : nf ≤ 33 ∧ gI σ 132 (b + 33) = nI nf) (x2 : Int32) : ev (m_Files_findPath (b + 33) r x2 (nI c) σ) (fun x => ∃ k, k ≤ nf ∧ x = nI k) := by
  have hF := h.1.1.2.2.2.2.2.2.2.2
  have hf1 := hf.1
  have key : ∀ (n k : Nat), k ≤ nf → nf - k < n → ev (m_Files_findPath_L3 n (b + 33) r x2 (nI c) (nI k) σ) (fun x => ∃ k, k ≤ nf ∧ x = nI k) := by
    intro n
    induction n with
    | zero => intro k _ h; omega
    | succ n ih =>
      intro k hk hn
      unfold m_Files_findPath_L3
      refine ev_bs ((oI_k hF.2.1).trans (congrArg some hf.2)) ?_
      refine ev_if (fun _ => ?_) (fun z => ?_)
      · exact ev_bs ((oI_k hF.2.1).trans (congrArg some hf.2)) (ev_some ⟨nf, by omega, rfl⟩)
      rw [nI_leI (by omega) (by omega)] at z
      refine ev_bs (oP_g hF.2.1 hF.2.2.2.2.2.2.2.2.1) ?_
      refine ev_bs (oV_nI (n := 33) hF.2.2.2.2.2.2.2.2.2 (by omega) (by decide)) ?_
      rw [nI_1]
      refine ev_if (fun _ => ?_) (fun _ => ih (k + 1) (by omega) (by omega))
      refine ev_bs (oP_g hF.2.1 hF.2.2.2.2.2.2.1) ?_
      refine ev_bs (oV_nI (n := 33) hF.2.2.2.2.2.2.2.1 (by omega) (by decide)) ?_
      refine ev_bs (oK_k (row_k h hp)) ?_
      refine ev_b (x_same h hp hc _ _) (fun _ _ => ?_)
      exact ev_if (fun _ => ih (k + 1) (by omega) (by omega)) (fun _ => ev_some ⟨k, hk, rfl⟩)
  unfold m_Files_findPath
  have k0 := key 1000 0 (by omega) (by omega)
  rw [nI_0] at k0
  exact k0
theorem x_put2 {b r v k : Nat} {σ : fr_S} (h : XI b σ) (hp : pr b r v) (hk : k < 33) (x3 : Int32) : ev ((oP σ 2 128 (b + 33)).bind fun q6 => (sV σ 0 q6 (nI k) (x3 + 1)).bind fun σ_7 => (oP σ_7 2 129 (b + 33)).bind fun q8 => (oK σ_7 4 r).bind fun _ => (m_Row_at r x3 σ_7).bind fun r10 => (sV σ_7 0 q8 (nI k) r10).bind fun σ_11 => some σ_11) (XI b) := by
  have hF := h.1.1.2.2.2.2.2.2.2.2
  refine ev_bs (oP_g hF.2.1 hF.2.2.1) ?_
  refine ev_bs (sV_nI (n := 33) hF.2.2.2.1 hk (by decide)) ?_
  have h2 : XI b (pA σ (b + 34) (upd (gV σ (b + 34)) k (x3 + 1))) := XI_oA h (by omega)
  generalize pA σ (b + 34) (upd (gV σ (b + 34)) k (x3 + 1)) = σ2 at h2 ⊢
  have hF2 := h2.1.1.2.2.2.2.2.2.2.2
  refine ev_bs (oP_g hF2.2.1 hF2.2.2.2.2.1) ?_
  refine ev_bs (oK_k (row_k h2 hp)) ?_
  refine ev_b (x_at h2 hp _) (fun q _ => ?_)
  refine ev_bs (sV_nI (n := 33) hF2.2.2.2.2.2.1 hk (by decide)) ?_
  exact ev_some (XI_oA h2 (by omega))
theorem x_put {b r v s t : Nat} {σ : fr_S} (h : XI b σ) (hp : pr b r v) (hs : s ≤ t) (ht : t ≤ 700) : ev (m_Files_put (b + 33) r (nI s) (nI t) σ) (XI b) := by
  have hF := h.1.1.2.2.2.2.2.2.2.2
  obtain ⟨nf, hf1, hf2⟩ := xnf h
  unfold m_Files_put
  refine ev_bs (oK_k hF.2.1) ?_
  rw [pk_sub hs]
  refine ev_b (x_findPath h hp (by omega) ⟨hf1, hf2⟩ _) (fun x hx => ?_)
  obtain ⟨k, hk, rfl⟩ := hx
  refine ev_if (fun z => ?_) (fun _ => ev_some h)
  have e33 : (33 : Int32) = nI 33 := by decide +kernel
  rw [e33, nI_ltI (by omega) (by omega)] at z
  refine ev_bs ((oI_k hF.2.1).trans (congrArg some hf2)) ?_
  refine ev_if (fun e => ?_) (fun _ => x_put2 h hp z (nI t))
  have e2 : k = nf := nI_inj (by omega) (by omega) e
  refine ev_bs (oP_g hF.2.1 hF.2.2.2.2.2.2.1) ?_
  refine ev_bs (sV_nI (n := 33) hF.2.2.2.2.2.2.2.1 z (by decide)) ?_
  have h2 : XI b (pA σ (b + 36) (upd (gV σ (b + 36)) k (nI s))) := XI_oA h (by omega)
  have f2 : gI (pA σ (b + 36) (upd (gV σ (b + 36)) k (nI s))) 132 (b + 33) = nI nf := hf2
  generalize pA σ (b + 36) (upd (gV σ (b + 36)) k (nI s)) = σ2 at h2 f2 ⊢
  have hF2 := h2.1.1.2.2.2.2.2.2.2.2
  refine ev_bs (oP_g hF2.2.1 hF2.2.2.2.2.2.2.2.2.1) ?_
  refine ev_bs (sV_nI (n := 33) hF2.2.2.2.2.2.2.2.2.2 z (by decide)) ?_
  have h3 : XI b (pA σ2 (b + 37) (upd (gV σ2 (b + 37)) k (nI (t - s)))) := XI_oA h2 (by omega)
  have f3 : gI (pA σ2 (b + 37) (upd (gV σ2 (b + 37)) k (nI (t - s)))) 132 (b + 33) = nI nf := f2
  generalize pA σ2 (b + 37) (upd (gV σ2 (b + 37)) k (nI (t - s))) = σ3 at h3 f3 ⊢
  have hF3 := h3.1.1.2.2.2.2.2.2.2.2
  refine ev_bs ((oI_k hF3.2.1).trans (congrArg some f3)) ?_
  refine ev_bs (sI_k hF3.2.1) ?_
  rw [nI_1]
  have h4 : XI b (pI σ3 132 (b + 33) (nI (nf + 1))) := XI_cnt h3 (Or.inr (Or.inr (Or.inr (Or.inr (Or.inr ⟨rfl, rfl, by omega⟩)))))
  generalize pI σ3 132 (b + 33) (nI (nf + 1)) = σ4 at h4 ⊢
  exact x_put2 h4 hp z (nI t)
theorem x_fill_L {b r v : Nat} (hp : pr b r v) (x2 : Int32) : ∀ (n e k : Nat) (σ : fr_S), XI b σ → e ≤ 700 → k ≤ 33 → 33 - k < n → ev (m_Files_fill_L10 n (b + 33) r x2 (nI e) (nI k) σ) (XI b) := by
  intro n
  induction n with
  | zero => intro e k σ _ _ _ h; omega
  | succ n ih =>
    intro e k σ h he hk2 hn
    have hk := row_k h hp
    obtain ⟨m, hm, hml⟩ := (XI_row h hp).2.1
    unfold m_Files_fill_L10
    refine ev_if (fun _ => ev_some h) (fun z1 => ?_)
    have e33 : (33 : Int32) = nI 33 := by decide +kernel
    rw [e33, nI_leI (by omega) (by omega)] at z1
    refine ev_bs ((oI_k hk).trans (congrArg some hml)) ?_
    refine ev_if (fun _ => ev_some h) (fun z2 => ?_)
    rw [nI_leI (by omega) (by omega)] at z2
    refine ev_b (x_pathEnd h hp) (fun x hx => ?_)
    obtain ⟨t, -, ht, rfl⟩ := hx
    rw [nI_1, nI_1]
    refine ev_b (x_strip h hp (by omega) (by omega) x2) (fun x hx => ?_)
    obtain ⟨s, hs, rfl⟩ := hx
    refine ev_if (fun _ => ?_) (fun z3 => ?_)
    · refine ev_b (x_entryEnd h hp) (fun x hx => ?_)
      obtain ⟨e2, he2, rfl⟩ := hx
      exact ih e2 (k + 1) σ h (by omega) (by omega) (by omega)
    · rw [nI_leI (by omega) (by omega)] at z3
      refine ev_bs (oK_k h.1.1.2.2.2.2.2.2.2.2.2.1) ?_
      refine ev_b (x_put h hp (by omega) (by omega)) (fun σ' h' => ?_)
      refine ev_b (x_entryEnd h' hp) (fun x hx => ?_)
      obtain ⟨e2, he2, rfl⟩ := hx
      exact ih e2 (k + 1) σ' h' (by omega) (by omega) (by omega)
theorem x_unpack {b : Nat} {σ : fr_S} (h : XI b σ) (x1 x2 : Int32) : ev (m_FR_unpack b x1 x2 σ) (fun z => XI b z.2) := by
  obtain ⟨nw, hw⟩ := xnw h
  have hs := h.1
  unfold m_FR_unpack
  refine ev_bs (xK hs) ?_
  refine ev_b (x_isWant hs hw x1) (fun r hr => ?_)
  refine ev_if (fun _ => ev_some h) (fun h0 => ?_)
  rcases hr with hr | ⟨-, j, hj, rfl⟩
  · exact absurd hr h0
  have hj10 : j < 10 := by omega
  refine ev_bs (xp69 hs) ?_
  refine ev_bs (xW hs hj10) ?_
  refine ev_bs (oI_k (wt_k hs hj10)) ?_
  refine ev_if (fun _ => ?_) (fun _ => ev_some h)
  refine ev_if (fun _ => ev_some h) (fun _ => ?_)
  refine ev_if (fun _ => ?_) (fun _ => ev_some h)
  refine ev_bs (xp69 hs) ?_
  refine ev_bs (xW hs hj10) ?_
  refine ev_bs (wt_r hs hj10) ?_
  refine ev_b (x_ill h (pr_w hj10)) (fun i _ => ?_)
  refine ev_if (fun _ => ?_) (fun _ => ev_some h)
  refine ev_bs (xp75 hs) ?_
  have hF := hs.1.2.2.2.2.2.2.2.2
  refine ev_bs (oK_k hF.2.1) ?_
  have key : ev (m_Files_fill (b + 33) (b + 87 + 4 * j) x2 σ) (XI b) := by
    unfold m_Files_fill
    refine ev_bs (sI_k hF.2.1) ?_
    have h2 : XI b (pI σ 132 (b + 33) 0) := by
      have := XI_cnt (n := 0) h (Or.inr (Or.inr (Or.inr (Or.inr (Or.inr ⟨rfl, rfl, by omega⟩)))))
      rw [nI_0] at this
      exact this
    have key := x_fill_L (pr_w hj10) x2 1000 0 0 _ h2 (by omega) (by omega) (by omega)
    rw [nI_0] at key
    exact key
  refine ev_b key (fun σ' h' => ?_)
  refine ev_bs (xp75 h'.1) ?_
  exact ev_bs (oI_k h'.1.1.2.2.2.2.2.2.2.2.2.1) (ev_some h')
