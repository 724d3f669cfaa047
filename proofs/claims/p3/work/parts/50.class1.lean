/-! THE CLASS: where its cells lie, and the ranges that keep every call within them -/
def RowAt (σ : fr_S) (r v : Nat) : Prop := gK σ r = some (.inl 4) ∧ gP σ 256 r = some v ∧ gK σ v = some (.inr (0, 100))
def RI (σ : fr_S) (r v : Nat) : Prop := (∃ n, n ≤ 100 ∧ gI σ 257 r = nI n) ∧ ∀ k, k < 100 → ∃ x, x < 256 ∧ gV σ v k = nI x
/-- the rows of bytes -/
def pr (b r v : Nat) : Prop := (∃ i, i < 16 ∧ r = b + 39 + 3 * i ∧ v = b + 40 + 3 * i) ∨ (∃ j, j < 10 ∧ r = b + 87 + 4 * j ∧ v = b + 88 + 4 * j) ∨ ∃ i, i < 10 ∧ r = b + 8 + 2 * i ∧ v = b + 9 + 2 * i
def Sx0 (b : Nat) (σ : fr_S) : Prop := gK σ b = some (.inl 1) ∧ (gP σ 65 b = some (b + 1) ∧ gK σ (b + 1) = some (.inr (1, 8))) ∧ (gP σ 66 b = some (b + 2) ∧ gK σ (b + 2) = some (.inr (0, 8))) ∧ (gP σ 67 b = some (b + 3) ∧ gK σ (b + 3) = some (.inr (2, 16))) ∧ (gP σ 69 b = some (b + 4) ∧ gK σ (b + 4) = some (.inr (3, 10))) ∧
  (gP σ 71 b = some (b + 5) ∧ gK σ (b + 5) = some (.inl 5) ∧ gP σ 320 (b + 5) = some (b + 6) ∧ gK σ (b + 6) = some (.inr (0, 10)) ∧ gP σ 321 (b + 5) = some (b + 7) ∧ gK σ (b + 7) = some (.inr (4, 10))) ∧
  (gP σ 72 b = some (b + 28) ∧ gK σ (b + 28) = some (.inl 6) ∧ gP σ 384 (b + 28) = some (b + 29) ∧ gK σ (b + 29) = some (.inr (0, 60)) ∧ gP σ 385 (b + 28) = some (b + 30) ∧ gK σ (b + 30) = some (.inr (0, 60)) ∧ gP σ 386 (b + 28) = some (b + 31) ∧ gK σ (b + 31) = some (.inr (0, 60))) ∧
  (gP σ 73 b = some (b + 32) ∧ gK σ (b + 32) = some (.inr (0, 10))) ∧
  (gP σ 75 b = some (b + 33) ∧ gK σ (b + 33) = some (.inl 2) ∧ gP σ 128 (b + 33) = some (b + 34) ∧ gK σ (b + 34) = some (.inr (0, 33)) ∧ gP σ 129 (b + 33) = some (b + 35) ∧ gK σ (b + 35) = some (.inr (0, 33)) ∧ gP σ 130 (b + 33) = some (b + 36) ∧ gK σ (b + 36) = some (.inr (0, 33)) ∧ gP σ 131 (b + 33) = some (b + 37) ∧ gK σ (b + 37) = some (.inr (0, 33)))
def Sx (b : Nat) (σ : fr_S) : Prop := Sx0 b σ ∧
  (∀ i, i < 16 → gQ σ (b + 3) i = some (b + 38 + 3 * i) ∧ gK σ (b + 38 + 3 * i) = some (.inl 3) ∧ gP σ 192 (b + 38 + 3 * i) = some (b + 39 + 3 * i) ∧ RowAt σ (b + 39 + 3 * i) (b + 40 + 3 * i)) ∧
  (∀ j, j < 10 → gQ σ (b + 4) j = some (b + 86 + 4 * j) ∧ gK σ (b + 86 + 4 * j) = some (.inl 7) ∧ gP σ 448 (b + 86 + 4 * j) = some (b + 87 + 4 * j) ∧ RowAt σ (b + 87 + 4 * j) (b + 88 + 4 * j) ∧ gP σ 449 (b + 86 + 4 * j) = some (b + 89 + 4 * j) ∧ gK σ (b + 89 + 4 * j) = some (.inr (0, 6))) ∧
  ∀ i, i < 10 → gQ σ (b + 7) i = some (b + 8 + 2 * i) ∧ RowAt σ (b + 8 + 2 * i) (b + 9 + 2 * i)
def X_I (b np nw nk nt nl nf : Nat) (σ : fr_S) : Prop := (np ≤ 16 ∧ gI σ 68 b = nI np) ∧ (nw ≤ 10 ∧ gI σ 70 b = nI nw) ∧ (nk ≤ 10 ∧ gI σ 322 (b + 5) = nI nk) ∧ (nt ≤ 60 ∧ gI σ 387 (b + 28) = nI nt) ∧ (nl ≤ 10 ∧ gI σ 74 b = nI nl) ∧ (nf ≤ 33 ∧ gI σ 132 (b + 33) = nI nf) ∧
  (∀ i, i < 16 → (∃ h, h < 8 ∧ gI σ 193 (b + 38 + 3 * i) = nI h) ∧ (gI σ 195 (b + 38 + 3 * i) = -1 ∨ ∃ j, j < 16 ∧ gI σ 195 (b + 38 + 3 * i) = nI j)) ∧
  (∀ j, j < 10 → (∃ m, m ≤ 6 ∧ gI σ 450 (b + 86 + 4 * j) = nI m ∧ ∀ k, k < m → ∃ p, p < 16 ∧ gV σ (b + 89 + 4 * j) k = nI p) ∧ ∃ a, a ≤ 5 ∧ gI σ 453 (b + 86 + 4 * j) = nI a) ∧
  ∀ r v, pr b r v → RI σ r v
def XI (b : Nat) (σ : fr_S) : Prop := Sx b σ ∧ ∃ np nw nk nt nl nf, X_I b np nw nk nt nl nf σ
def xF : List Nat := [68, 70, 322, 387, 74, 132, 193, 195, 450, 453]
/-- a state that differs where the ranges don't look, or within its rows -/
theorem XI_mk {b : Nat} {σ σ' : fr_S} (h : XI b σ) (hs : Sx b σ') (e1 : ∀ f, f ∈ xF → ∀ a, gI σ' f a = gI σ f a) (e2 : ∀ j, j < 10 → gV σ' (b + 89 + 4 * j) = gV σ (b + 89 + 4 * j)) (e3 : ∀ r v, pr b r v → RI σ r v → RI σ' r v) : XI b σ' := by
  obtain ⟨-, np, nw, nk, nt, nl, nf, x1, x2, x3, x4, x5, x6, x7, x8, x9⟩ := h
  refine ⟨hs, np, nw, nk, nt, nl, nf, ?_, ?_, ?_, ?_, ?_, ?_, fun i hi => ?_, fun j hj => ?_, fun r v hp => e3 r v hp (x9 r v hp)⟩
  · rw [e1 68 (by decide)]; exact x1
  · rw [e1 70 (by decide)]; exact x2
  · rw [e1 322 (by decide)]; exact x3
  · rw [e1 387 (by decide)]; exact x4
  · rw [e1 74 (by decide)]; exact x5
  · rw [e1 132 (by decide)]; exact x6
  · rw [e1 193 (by decide), e1 195 (by decide)]; exact x7 i hi
  · rw [e1 450 (by decide), e1 453 (by decide), e2 j hj]; exact x8 j hj
theorem XI_o {b f a : Nat} {σ : fr_S} {v : Int32} (h : XI b σ) (hf : f ∉ xF) (hf2 : f ≠ 257) : XI b (pI σ f a v) :=
  XI_mk h h.1 (fun g hg a' => gI_pIf (fun z => hf (z ▸ hg))) (fun _ _ => rfl) (fun r w _ hr => ⟨by rw [gI_pIf (Ne.symm hf2)]; exact hr.1, hr.2⟩)
theorem XI_len {b r n : Nat} {σ : fr_S} (h : XI b σ) (hn : n ≤ 100) : XI b (pI σ 257 r (nI n)) := by
  refine XI_mk h h.1 (fun g hg a' => gI_pIf (fun z => by rw [z] at hg; exact absurd hg (by decide))) (fun _ _ => rfl) (fun r' w _ hr => ⟨?_, hr.2⟩)
  by_cases e : r' = r
  · rw [e, gI_pIs]; exact ⟨n, hn, rfl⟩
  · rw [gI_pIa e]; exact hr.1
theorem XI_val {b v k x : Nat} {σ : fr_S} (h : XI b σ) (hv : ∀ j, j < 10 → b + 89 + 4 * j ≠ v) (hx : x < 256) : XI b (pA σ v (upd (gV σ v) k (nI x))) := by
  refine XI_mk h h.1 (fun _ _ _ => rfl) (fun j hj => gV_pAn (hv j hj)) (fun r' w _ hr => ⟨hr.1, fun q hq => ?_⟩)
  by_cases e : w = v
  · rw [e, gV_pAs]
    by_cases e2 : q = k
    · rw [e2, upd_s]; exact ⟨x, hx, rfl⟩
    · rw [upd_n e2, ← e]; exact hr.2 q hq
  · rw [gV_pAn e]; exact hr.2 q hq
theorem XI_oA {b a : Nat} {σ : fr_S} {u : Nat → Int32} (h : XI b σ) (ha : a = b + 1 ∨ a = b + 2 ∨ a = b + 6 ∨ a = b + 29 ∨ a = b + 30 ∨ a = b + 31 ∨ a = b + 32 ∨ a = b + 34 ∨ a = b + 35 ∨ a = b + 36 ∨ a = b + 37) : XI b (pA σ a u) := by
  refine XI_mk h h.1 (fun _ _ _ => rfl) (fun j hj => gV_pAn (by omega)) (fun r w hp hr => ⟨hr.1, ?_⟩)
  have hw : w ≠ a := by
    rcases hp with ⟨i, hi, -, e⟩ | ⟨i, hi, -, e⟩ | ⟨i, hi, -, e⟩ <;> rw [e] <;> rcases ha with e2 | e2 | e2 | e2 | e2 | e2 | e2 | e2 | e2 | e2 | e2 <;> rw [e2] <;> omega
  rw [gV_pAn hw]
  exact hr.2
theorem XI_cpy {b v v0 n : Nat} {σ : fr_S} (h : XI b σ) (hv : ∀ j, j < 10 → b + 89 + 4 * j ≠ v) (hn : n ≤ 100) (h0 : ∀ k, k < 100 → ∃ x, x < 256 ∧ gV σ v0 k = nI x) : XI b (pA σ v (va_cpy (gV σ v0) (gV σ v) 0 0 n)) := by
  refine XI_mk h h.1 (fun _ _ _ => rfl) (fun j hj => gV_pAn (hv j hj)) (fun r' w _ hr => ⟨hr.1, fun q hq => ?_⟩)
  by_cases e : w = v
  · rw [e, gV_pAs]
    by_cases e2 : q < n
    · rw [pk_cpy_in (Nat.zero_le _) (by omega)]
      have := h0 (0 + (q - 0)) (by omega)
      exact this
    · rw [pk_cpy_out (Or.inr (by omega)), ← e]; exact hr.2 q hq
  · rw [gV_pAn e]; exact hr.2 q hq
theorem XI_row {b r v : Nat} {σ : fr_S} (h : XI b σ) (hp : pr b r v) : RowAt σ r v ∧ RI σ r v := by
  obtain ⟨hs, np, nw, nk, nt, nl, nf, x1, x2, x3, x4, x5, x6, x7, x8, x9⟩ := h
  refine ⟨?_, x9 r v hp⟩
  rcases hp with ⟨i, hi, rfl, rfl⟩ | ⟨i, hi, rfl, rfl⟩ | ⟨i, hi, rfl, rfl⟩
  · exact (hs.2.1 i hi).2.2.2
  · exact (hs.2.2.1 i hi).2.2.2.1
  · exact (hs.2.2.2 i hi).2
theorem pr_ne {b r v : Nat} (hp : pr b r v) : ∀ j, j < 10 → b + 89 + 4 * j ≠ v := by
  intro j hj
  rcases hp with ⟨i, hi, -, e⟩ | ⟨i, hi, -, e⟩ | ⟨i, hi, -, e⟩ <;> omega
theorem oP_g {σ : fr_S} {ci f a r : Nat} (hk : gK σ a = some (.inl ci)) (hp : gP σ f a = some r) : oP σ ci f a = some r := (oP_k hk).trans hp
theorem oQ_nI {σ : fr_S} {t a n i r : Nat} (hk : gK σ a = some (.inr (t, n))) (hi : i < n) (hn : n < 2 ^ 31) (hq : gQ σ a i = some r) : oQ σ t a (nI i) = some r := by
  unfold oQ
  rw [hk]
  have h1 : (nI i).toNatClampNeg = i := nI_clamp (by omega)
  have h2 : ¬ (nI i < 0 ∨ n ≤ (nI i).toNatClampNeg) := nI_in hi hn
  rw [h1] at h2
  simp only [true_and, h1]
  rw [if_pos h2]
  exact hq
theorem xP {b i : Nat} {σ : fr_S} (h : Sx b σ) (hi : i < 16) : oQ σ 2 (b + 3) (nI i) = some (b + 38 + 3 * i) := oQ_nI (n := 16) h.1.2.2.2.1.2 hi (by decide) (h.2.1 i hi).1
theorem xW {b j : Nat} {σ : fr_S} (h : Sx b σ) (hj : j < 10) : oQ σ 3 (b + 4) (nI j) = some (b + 86 + 4 * j) := oQ_nI (n := 10) h.1.2.2.2.2.1.2 hj (by decide) (h.2.2.1 j hj).1
theorem xp67 {b : Nat} {σ : fr_S} (h : Sx b σ) : oP σ 1 67 b = some (b + 3) := oP_g h.1.1 h.1.2.2.2.1.1
theorem xp69 {b : Nat} {σ : fr_S} (h : Sx b σ) : oP σ 1 69 b = some (b + 4) := oP_g h.1.1 h.1.2.2.2.2.1.1
theorem xp65 {b : Nat} {σ : fr_S} (h : Sx b σ) : oP σ 1 65 b = some (b + 1) := oP_g h.1.1 h.1.2.1.1
theorem xp66 {b : Nat} {σ : fr_S} (h : Sx b σ) : oP σ 1 66 b = some (b + 2) := oP_g h.1.1 h.1.2.2.1.1
theorem xp71 {b : Nat} {σ : fr_S} (h : Sx b σ) : oP σ 1 71 b = some (b + 5) := oP_g h.1.1 h.1.2.2.2.2.2.1.1
theorem xp72 {b : Nat} {σ : fr_S} (h : Sx b σ) : oP σ 1 72 b = some (b + 28) := oP_g h.1.1 h.1.2.2.2.2.2.2.1.1
theorem xp73 {b : Nat} {σ : fr_S} (h : Sx b σ) : oP σ 1 73 b = some (b + 32) := oP_g h.1.1 h.1.2.2.2.2.2.2.2.1.1
theorem xp75 {b : Nat} {σ : fr_S} (h : Sx b σ) : oP σ 1 75 b = some (b + 33) := oP_g h.1.1 h.1.2.2.2.2.2.2.2.2.1
theorem xI {b f : Nat} {σ : fr_S} (h : Sx b σ) : oI σ 1 f b = some (gI σ f b) := oI_k h.1.1
theorem xK {b : Nat} {σ : fr_S} (h : Sx b σ) : oK σ 1 b = some () := oK_k h.1.1
/-! rows -/
theorem x_at {b r v : Nat} {σ : fr_S} (h : XI b σ) (hp : pr b r v) (i : Int32) : ev (m_Row_at r i σ) (fun x => x = -1 ∨ ∃ y, y < 256 ∧ x = nI y) := by
  obtain ⟨⟨k1, k2, k3⟩, ⟨n, hn, hl⟩, hv⟩ := XI_row h hp
  unfold m_Row_at
  refine ev_if (fun _ => ev_some (Or.inl rfl)) (fun h0 => ?_)
  refine ev_bs ((oI_k k1).trans (congrArg some hl)) ?_
  refine ev_if (fun _ => ev_some (Or.inl rfl)) (fun h1 => ?_)
  obtain ⟨k, hk, rfl⟩ := nI_get (by omega) h0 h1
  refine ev_bs (oP_g k1 k2) ?_
  obtain ⟨x, hx, hxe⟩ := hv k (by omega)
  refine ev_bs ((oV_nI k3 (by omega) (by decide)).trans (congrArg some hxe)) ?_
  exact ev_some (Or.inr ⟨x, hx, rfl⟩)
theorem x_at_in {b r v k n : Nat} {σ : fr_S} (h : XI b σ) (hp : pr b r v) (hl : gI σ 257 r = nI n) (hn : n ≤ 100) (hk : k < n) : ev (m_Row_at r (nI k) σ) (fun x => ∃ y, y < 256 ∧ x = nI y) := by
  obtain ⟨⟨k1, k2, k3⟩, -, hv⟩ := XI_row h hp
  unfold m_Row_at
  refine ev_if (fun z => absurd z (nI_pos (by omega))) (fun _ => ?_)
  refine ev_bs ((oI_k k1).trans (congrArg some hl)) ?_
  refine ev_if (fun z => ?_) (fun _ => ?_)
  · rw [nI_leI (by omega) (by omega)] at z
    omega
  refine ev_bs (oP_g k1 k2) ?_
  obtain ⟨x, hx, hxe⟩ := hv k (by omega)
  refine ev_bs ((oV_nI k3 (by omega) (by decide)).trans (congrArg some hxe)) ?_
  exact ev_some ⟨x, hx, rfl⟩
theorem x_append {b r v x : Nat} {σ : fr_S} (h : XI b σ) (hp : pr b r v) (hx : x < 256) : ev (m_Row_append r (nI x) σ) (fun σ' => XI b σ' ∧ (∀ a, a ≠ r → gI σ' 257 a = gI σ 257 a) ∧ ∀ f, f ≠ 257 → ∀ a, gI σ' f a = gI σ f a) := by
  obtain ⟨⟨k1, k2, k3⟩, ⟨n, hn, hl⟩, hv⟩ := XI_row h hp
  unfold m_Row_append
  refine ev_bs ((oI_k k1).trans (congrArg some hl)) ?_
  refine ev_if (fun _ => ev_some ⟨h, fun _ _ => rfl, fun _ _ _ => rfl⟩) (fun hlt => ?_)
  have hn100 : n < 100 := by
    rw [nI_lit100, nI_leI (by omega) (by omega)] at hlt
    omega
  refine ev_bs (oP_g k1 k2) ?_
  refine ev_bs ((oI_k k1).trans (congrArg some hl)) ?_
  refine ev_bs (sI_k k1) ?_
  rw [nI_1]
  refine ev_bs (sV_nI (n := 100) (show gK (pI σ 257 r (nI (n + 1))) v = some (.inr (0, 100)) from k3) hn100 (by decide)) ?_
  exact ev_some ⟨XI_val (XI_len h (by omega)) (pr_ne hp) hx, fun a ha => gI_pIa ha, fun f hf a => gI_pIf hf⟩
theorem x_digest_L {b r v n : Nat} {σ : fr_S} (h : XI b σ) (hp : pr b r v) (hl : gI σ 257 r = nI n) (hn : n ≤ 100) : ∀ (q k : Nat) (s : Int32), k ≤ n → n - k < q → ev (m_Row_computeDigest_L4 q r s (nI k) σ) (fun _ => True) := by
  obtain ⟨⟨k1, k2, k3⟩, -, hv⟩ := XI_row h hp
  intro q
  induction q with
  | zero => intro k s _ h; omega
  | succ q ih =>
    intro k s hk hq
    unfold m_Row_computeDigest_L4
    refine ev_bs ((oI_k k1).trans (congrArg some hl)) ?_
    refine ev_if (fun _ => ev_some trivial) (fun z => ?_)
    rw [nI_leI (by omega) (by omega)] at z
    refine ev_bs (oP_g k1 k2) ?_
    refine ev_bs (oV_nI k3 (by omega) (by decide)) ?_
    rw [nI_1]
    exact ih (k + 1) _ (by omega) (by omega)
theorem x_digest {b r v : Nat} {σ : fr_S} (h : XI b σ) (hp : pr b r v) : ev (m_Row_computeDigest r σ) (fun _ => True) := by
  obtain ⟨-, ⟨n, hn, hl⟩, -⟩ := XI_row h hp
  unfold m_Row_computeDigest
  have key := x_digest_L h hp hl hn 1000 0 0 (by omega) (by omega)
  rw [nI_0] at key
  exact key
theorem x_copy {b r v r0 v0 : Nat} {σ : fr_S} (h : XI b σ) (hp : pr b r v) (hp0 : pr b r0 v0) : ev (m_Row_copyFrom r r0 σ) (fun σ' => XI b σ' ∧ ∀ f, f ≠ 257 → ∀ a, gI σ' f a = gI σ f a) := by
  obtain ⟨⟨k1, k2, k3⟩, -, hv⟩ := XI_row h hp
  obtain ⟨⟨q1, q2, q3⟩, ⟨n, hn, hl⟩, hv0⟩ := XI_row h hp0
  unfold m_Row_copyFrom
  refine ev_bs (oP_g q1 q2) ?_
  refine ev_bs (oP_g k1 k2) ?_
  refine ev_bs ((oI_k q1).trans (congrArg some hl)) ?_
  have hc : sC σ v0 0 v 0 (nI n) = some (pA σ v (va_cpy (gV σ v0) (gV σ v) 0 0 n)) := by
    unfold sC
    rw [q3, k3]
    have e0 : (0 : Int32).toNatClampNeg = 0 := by decide +kernel
    have e1 : (nI n).toNatClampNeg = n := nI_clamp (by omega)
    simp only [e0, e1]
    rw [if_pos ⟨⟨trivial, trivial⟩, ⟨by decide, by decide, nI_pos (by omega)⟩, by omega, by omega⟩]
  refine ev_bs hc ?_
  refine ev_bs (Eq.trans (oI_k (show gK (pA σ v (va_cpy (gV σ v0) (gV σ v) 0 0 n)) r0 = some (.inl 4) from q1)) (congrArg some (show gI (pA σ v (va_cpy (gV σ v0) (gV σ v) 0 0 n)) 257 r0 = nI n from hl))) ?_
  refine ev_bs (sI_k (show gK (pA σ v (va_cpy (gV σ v0) (gV σ v) 0 0 n)) r = some (.inl 4) from k1)) ?_
  exact ev_some ⟨XI_len (XI_cpy h (pr_ne hp) hn hv0) hn, fun f hf a => gI_pIf hf⟩
