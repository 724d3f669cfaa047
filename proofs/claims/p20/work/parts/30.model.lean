theorem gK_pI {σ : fr_S} {f a b : Nat} {v : Int32} : gK (pI σ f a v) b = gK σ b := rfl
theorem gK_pA {σ : fr_S} {a b : Nat} {u : Nat → Int32} : gK (pA σ a u) b = gK σ b := rfl
theorem gP_pI {σ : fr_S} {f a g b : Nat} {v : Int32} : gP (pI σ f a v) g b = gP σ g b := rfl
theorem gP_pA {σ : fr_S} {a g b : Nat} {u : Nat → Int32} : gP (pA σ a u) g b = gP σ g b := rfl
theorem gQ_pI {σ : fr_S} {f a b : Nat} {v : Int32} : gQ (pI σ f a v) b = gQ σ b := rfl
theorem gQ_pA {σ : fr_S} {a b : Nat} {u : Nat → Int32} : gQ (pA σ a u) b = gQ σ b := rfl
theorem gI_pA {σ : fr_S} {a g b : Nat} {u : Nat → Int32} : gI (pA σ a u) g b = gI σ g b := rfl
theorem gV_pI {σ : fr_S} {f a b : Nat} {v : Int32} : gV (pI σ f a v) b = gV σ b := rfl
theorem gI_pIx {σ : fr_S} {f a g b : Nat} {v : Int32} : gI (pI σ f a v) g b = if g = f ∧ b = a then v else gI σ g b := rfl
theorem gV_pAx {σ : fr_S} {a b : Nat} {u : Nat → Int32} : gV (pA σ a u) b = if b = a then u else gV σ b := rfl
theorem gI_pIs {σ : fr_S} {f a : Nat} {v : Int32} : gI (pI σ f a v) f a = v := by rw [gI_pIx, if_pos ⟨rfl, rfl⟩]
theorem gI_pIf {σ : fr_S} {f a g b : Nat} {v : Int32} (h : g ≠ f) : gI (pI σ f a v) g b = gI σ g b := by rw [gI_pIx, if_neg (fun z => h z.1)]
theorem gI_pIa {σ : fr_S} {f a g b : Nat} {v : Int32} (h : b ≠ a) : gI (pI σ f a v) g b = gI σ g b := by rw [gI_pIx, if_neg (fun z => h z.2)]
theorem gV_pAs {σ : fr_S} {a : Nat} {u : Nat → Int32} : gV (pA σ a u) a = u := by rw [gV_pAx, if_pos rfl]
theorem gV_pAn {σ : fr_S} {a b : Nat} {u : Nat → Int32} (h : b ≠ a) : gV (pA σ a u) b = gV σ b := by rw [gV_pAx, if_neg h]
theorem oV_nI {σ : fr_S} {t a n i : Nat} (hk : gK σ a = some (.inr (t, n))) (hi : i < n) (hn : n < 2 ^ 31) : oV σ t a (nI i) = some (gV σ a i) := by
  unfold oV
  rw [hk]
  have h1 : (nI i).toNatClampNeg = i := nI_clamp (by omega)
  have h2 : ¬ (nI i < 0 ∨ n ≤ (nI i).toNatClampNeg) := nI_in hi hn
  rw [h1] at h2
  simp only [true_and, h1]
  rw [if_pos h2]
theorem sV_nI {σ : fr_S} {t a n i : Nat} {v : Int32} (hk : gK σ a = some (.inr (t, n))) (hi : i < n) (hn : n < 2 ^ 31) : sV σ t a (nI i) v = some (pA σ a (upd (gV σ a) i v)) := by
  unfold sV
  rw [hk]
  have h1 : (nI i).toNatClampNeg = i := nI_clamp (by omega)
  have h2 : ¬ (nI i < 0 ∨ n ≤ (nI i).toNatClampNeg) := nI_in hi hn
  rw [h1] at h2
  simp only [true_and, h1]
  rw [if_pos h2]
theorem oI_k {σ : fr_S} {ci f a : Nat} (hk : gK σ a = some (.inl ci)) : oI σ ci f a = some (gI σ f a) := if_pos hk
theorem sI_k {σ : fr_S} {ci f a : Nat} {v : Int32} (hk : gK σ a = some (.inl ci)) : sI σ ci f a v = some (pI σ f a v) := if_pos hk
theorem sZ_k {σ : fr_S} {ci f a : Nat} {v : Int32} (hk : gK σ a = some (.inl ci)) (hz : v = 0 ∨ v = 1) : sZ σ ci f a v = some (pI σ f a v) := if_pos ⟨hk, hz⟩
theorem oP_k {σ : fr_S} {ci f a : Nat} (hk : gK σ a = some (.inl ci)) : oP σ ci f a = gP σ f a := if_pos hk
theorem oK_k {σ : fr_S} {ci a : Nat} (hk : gK σ a = some (.inl ci)) : oK σ ci a = some () := if_pos hk
theorem upd_s {f : Nat → Int32} {k : Nat} {x : Int32} : upd f k x k = x := pk_us
theorem upd_n {f : Nat → Int32} {k j : Nat} {x : Int32} (h : j ≠ k) : upd f k x j = f j := pk_un h
theorem nar0 : vp_nar .boolean 0 = 0 := by decide +kernel
theorem nar1 : vp_nar .boolean 1 = 1 := by decide +kernel
/-! THE REFERENCE: where its arrays lie, how long they are -/
def md_A : Nat → Nat := fun f => match f with
  | 4 => 1
  | 5 => 2
  | 11 => 3
  | 12 => 4
  | 13 => 5
  | 14 => 6
  | 15 => 7
  | 16 => 8
  | 17 => 9
  | 18 => 10
  | 19 => 11
  | 20 => 12
  | 21 => 13
  | 22 => 14
  | 23 => 15
  | 24 => 16
  | 25 => 17
  | 26 => 18
  | 27 => 19
  | 28 => 20
  | 29 => 21
  | 30 => 22
  | 31 => 23
  | 32 => 24
  | 33 => 25
  | 34 => 26
  | 35 => 27
  | 36 => 28
  | 37 => 29
  | 38 => 30
  | 40 => 31
  | 41 => 32
  | 42 => 33
  | 43 => 34
  | _ => 0
def md_K : Nat → Nat × Nat := fun a => match a with
  | 1 => (1, 8)
  | 2 => (0, 8)
  | 3 => (0, 16)
  | 4 => (0, 16)
  | 5 => (0, 16)
  | 6 => (0, 16)
  | 7 => (0, 16)
  | 8 => (0, 16)
  | 9 => (0, 1600)
  | 10 => (1, 16)
  | 11 => (1, 16)
  | 12 => (1, 16)
  | 13 => (1, 16)
  | 14 => (0, 10)
  | 15 => (0, 10)
  | 16 => (0, 60)
  | 17 => (0, 10)
  | 18 => (0, 10)
  | 19 => (0, 10)
  | 20 => (0, 1000)
  | 21 => (0, 10)
  | 22 => (0, 10)
  | 23 => (0, 10)
  | 24 => (0, 10)
  | 25 => (0, 10)
  | 26 => (0, 1000)
  | 27 => (0, 400)
  | 28 => (0, 400)
  | 29 => (0, 400)
  | 30 => (0, 10)
  | 31 => (0, 40)
  | 32 => (0, 40)
  | 33 => (0, 40)
  | 34 => (0, 40)
  | _ => (0, 0)
def md_F : List Nat := [4, 5, 11, 12, 13, 14, 15, 16, 17, 18, 19, 20, 21, 22, 23, 24, 25, 26, 27, 28, 29, 30, 31, 32, 33, 34, 35, 36, 37, 38, 40, 41, 42, 43]
def Sm (c : Nat) (τ : fr_S) : Prop := gK τ c = some (.inl 0) ∧ (∀ f, f ∈ md_F → gP τ f c = some (c + md_A f)) ∧ ∀ a, 1 ≤ a → a ≤ 34 → gK τ (c + a) = some (.inr (md_K a))
theorem Sm_pA {c a : Nat} {τ : fr_S} {u : Nat → Int32} : Sm c (pA τ a u) = Sm c τ := rfl
theorem Sm_pI {c f a : Nat} {τ : fr_S} {v : Int32} : Sm c (pI τ f a v) = Sm c τ := rfl
theorem mI {c f : Nat} {τ : fr_S} (hs : Sm c τ) : oI τ 0 f c = some (gI τ f c) := oI_k hs.1
theorem mSI {c f : Nat} {τ : fr_S} {v : Int32} (hs : Sm c τ) : sI τ 0 f c v = some (pI τ f c v) := sI_k hs.1
theorem mSZ {c f : Nat} {τ : fr_S} {v : Int32} (hs : Sm c τ) (hz : v = 0 ∨ v = 1) : sZ τ 0 f c v = some (pI τ f c v) := sZ_k hs.1 hz
theorem mK {c : Nat} {τ : fr_S} (hs : Sm c τ) : oK τ 0 c = some () := oK_k hs.1
theorem mP4 {c : Nat} {τ : fr_S} (hs : Sm c τ) : oP τ 0 4 c = some (c + 1) := (oP_k hs.1).trans (hs.2.1 4 (by decide))
theorem mV1 {c i : Nat} {τ : fr_S} (hs : Sm c τ) (hi : i < 8) : oV τ 1 (c + 1) (nI i) = some (gV τ (c + 1) i) := oV_nI (n := 8) (hs.2.2 1 (by decide) (by decide)) hi (by decide)
theorem mS1 {c i : Nat} {τ : fr_S} {v : Int32} (hs : Sm c τ) (hi : i < 8) : sV τ 1 (c + 1) (nI i) v = some (pA τ (c + 1) (upd (gV τ (c + 1)) i v)) := sV_nI (n := 8) (hs.2.2 1 (by decide) (by decide)) hi (by decide)
theorem mP5 {c : Nat} {τ : fr_S} (hs : Sm c τ) : oP τ 0 5 c = some (c + 2) := (oP_k hs.1).trans (hs.2.1 5 (by decide))
theorem mV2 {c i : Nat} {τ : fr_S} (hs : Sm c τ) (hi : i < 8) : oV τ 0 (c + 2) (nI i) = some (gV τ (c + 2) i) := oV_nI (n := 8) (hs.2.2 2 (by decide) (by decide)) hi (by decide)
theorem mS2 {c i : Nat} {τ : fr_S} {v : Int32} (hs : Sm c τ) (hi : i < 8) : sV τ 0 (c + 2) (nI i) v = some (pA τ (c + 2) (upd (gV τ (c + 2)) i v)) := sV_nI (n := 8) (hs.2.2 2 (by decide) (by decide)) hi (by decide)
theorem mP11 {c : Nat} {τ : fr_S} (hs : Sm c τ) : oP τ 0 11 c = some (c + 3) := (oP_k hs.1).trans (hs.2.1 11 (by decide))
theorem mV3 {c i : Nat} {τ : fr_S} (hs : Sm c τ) (hi : i < 16) : oV τ 0 (c + 3) (nI i) = some (gV τ (c + 3) i) := oV_nI (n := 16) (hs.2.2 3 (by decide) (by decide)) hi (by decide)
theorem mS3 {c i : Nat} {τ : fr_S} {v : Int32} (hs : Sm c τ) (hi : i < 16) : sV τ 0 (c + 3) (nI i) v = some (pA τ (c + 3) (upd (gV τ (c + 3)) i v)) := sV_nI (n := 16) (hs.2.2 3 (by decide) (by decide)) hi (by decide)
theorem mP12 {c : Nat} {τ : fr_S} (hs : Sm c τ) : oP τ 0 12 c = some (c + 4) := (oP_k hs.1).trans (hs.2.1 12 (by decide))
theorem mV4 {c i : Nat} {τ : fr_S} (hs : Sm c τ) (hi : i < 16) : oV τ 0 (c + 4) (nI i) = some (gV τ (c + 4) i) := oV_nI (n := 16) (hs.2.2 4 (by decide) (by decide)) hi (by decide)
theorem mS4 {c i : Nat} {τ : fr_S} {v : Int32} (hs : Sm c τ) (hi : i < 16) : sV τ 0 (c + 4) (nI i) v = some (pA τ (c + 4) (upd (gV τ (c + 4)) i v)) := sV_nI (n := 16) (hs.2.2 4 (by decide) (by decide)) hi (by decide)
theorem mP13 {c : Nat} {τ : fr_S} (hs : Sm c τ) : oP τ 0 13 c = some (c + 5) := (oP_k hs.1).trans (hs.2.1 13 (by decide))
theorem mV5 {c i : Nat} {τ : fr_S} (hs : Sm c τ) (hi : i < 16) : oV τ 0 (c + 5) (nI i) = some (gV τ (c + 5) i) := oV_nI (n := 16) (hs.2.2 5 (by decide) (by decide)) hi (by decide)
theorem mS5 {c i : Nat} {τ : fr_S} {v : Int32} (hs : Sm c τ) (hi : i < 16) : sV τ 0 (c + 5) (nI i) v = some (pA τ (c + 5) (upd (gV τ (c + 5)) i v)) := sV_nI (n := 16) (hs.2.2 5 (by decide) (by decide)) hi (by decide)
theorem mP14 {c : Nat} {τ : fr_S} (hs : Sm c τ) : oP τ 0 14 c = some (c + 6) := (oP_k hs.1).trans (hs.2.1 14 (by decide))
theorem mV6 {c i : Nat} {τ : fr_S} (hs : Sm c τ) (hi : i < 16) : oV τ 0 (c + 6) (nI i) = some (gV τ (c + 6) i) := oV_nI (n := 16) (hs.2.2 6 (by decide) (by decide)) hi (by decide)
theorem mS6 {c i : Nat} {τ : fr_S} {v : Int32} (hs : Sm c τ) (hi : i < 16) : sV τ 0 (c + 6) (nI i) v = some (pA τ (c + 6) (upd (gV τ (c + 6)) i v)) := sV_nI (n := 16) (hs.2.2 6 (by decide) (by decide)) hi (by decide)
theorem mP15 {c : Nat} {τ : fr_S} (hs : Sm c τ) : oP τ 0 15 c = some (c + 7) := (oP_k hs.1).trans (hs.2.1 15 (by decide))
theorem mV7 {c i : Nat} {τ : fr_S} (hs : Sm c τ) (hi : i < 16) : oV τ 0 (c + 7) (nI i) = some (gV τ (c + 7) i) := oV_nI (n := 16) (hs.2.2 7 (by decide) (by decide)) hi (by decide)
theorem mS7 {c i : Nat} {τ : fr_S} {v : Int32} (hs : Sm c τ) (hi : i < 16) : sV τ 0 (c + 7) (nI i) v = some (pA τ (c + 7) (upd (gV τ (c + 7)) i v)) := sV_nI (n := 16) (hs.2.2 7 (by decide) (by decide)) hi (by decide)
theorem mP16 {c : Nat} {τ : fr_S} (hs : Sm c τ) : oP τ 0 16 c = some (c + 8) := (oP_k hs.1).trans (hs.2.1 16 (by decide))
theorem mV8 {c i : Nat} {τ : fr_S} (hs : Sm c τ) (hi : i < 16) : oV τ 0 (c + 8) (nI i) = some (gV τ (c + 8) i) := oV_nI (n := 16) (hs.2.2 8 (by decide) (by decide)) hi (by decide)
theorem mS8 {c i : Nat} {τ : fr_S} {v : Int32} (hs : Sm c τ) (hi : i < 16) : sV τ 0 (c + 8) (nI i) v = some (pA τ (c + 8) (upd (gV τ (c + 8)) i v)) := sV_nI (n := 16) (hs.2.2 8 (by decide) (by decide)) hi (by decide)
theorem mP17 {c : Nat} {τ : fr_S} (hs : Sm c τ) : oP τ 0 17 c = some (c + 9) := (oP_k hs.1).trans (hs.2.1 17 (by decide))
theorem mV9 {c i : Nat} {τ : fr_S} (hs : Sm c τ) (hi : i < 1600) : oV τ 0 (c + 9) (nI i) = some (gV τ (c + 9) i) := oV_nI (n := 1600) (hs.2.2 9 (by decide) (by decide)) hi (by decide)
theorem mS9 {c i : Nat} {τ : fr_S} {v : Int32} (hs : Sm c τ) (hi : i < 1600) : sV τ 0 (c + 9) (nI i) v = some (pA τ (c + 9) (upd (gV τ (c + 9)) i v)) := sV_nI (n := 1600) (hs.2.2 9 (by decide) (by decide)) hi (by decide)
theorem mP18 {c : Nat} {τ : fr_S} (hs : Sm c τ) : oP τ 0 18 c = some (c + 10) := (oP_k hs.1).trans (hs.2.1 18 (by decide))
theorem mV10 {c i : Nat} {τ : fr_S} (hs : Sm c τ) (hi : i < 16) : oV τ 1 (c + 10) (nI i) = some (gV τ (c + 10) i) := oV_nI (n := 16) (hs.2.2 10 (by decide) (by decide)) hi (by decide)
theorem mS10 {c i : Nat} {τ : fr_S} {v : Int32} (hs : Sm c τ) (hi : i < 16) : sV τ 1 (c + 10) (nI i) v = some (pA τ (c + 10) (upd (gV τ (c + 10)) i v)) := sV_nI (n := 16) (hs.2.2 10 (by decide) (by decide)) hi (by decide)
theorem mP19 {c : Nat} {τ : fr_S} (hs : Sm c τ) : oP τ 0 19 c = some (c + 11) := (oP_k hs.1).trans (hs.2.1 19 (by decide))
theorem mV11 {c i : Nat} {τ : fr_S} (hs : Sm c τ) (hi : i < 16) : oV τ 1 (c + 11) (nI i) = some (gV τ (c + 11) i) := oV_nI (n := 16) (hs.2.2 11 (by decide) (by decide)) hi (by decide)
theorem mS11 {c i : Nat} {τ : fr_S} {v : Int32} (hs : Sm c τ) (hi : i < 16) : sV τ 1 (c + 11) (nI i) v = some (pA τ (c + 11) (upd (gV τ (c + 11)) i v)) := sV_nI (n := 16) (hs.2.2 11 (by decide) (by decide)) hi (by decide)
theorem mP20 {c : Nat} {τ : fr_S} (hs : Sm c τ) : oP τ 0 20 c = some (c + 12) := (oP_k hs.1).trans (hs.2.1 20 (by decide))
theorem mV12 {c i : Nat} {τ : fr_S} (hs : Sm c τ) (hi : i < 16) : oV τ 1 (c + 12) (nI i) = some (gV τ (c + 12) i) := oV_nI (n := 16) (hs.2.2 12 (by decide) (by decide)) hi (by decide)
theorem mS12 {c i : Nat} {τ : fr_S} {v : Int32} (hs : Sm c τ) (hi : i < 16) : sV τ 1 (c + 12) (nI i) v = some (pA τ (c + 12) (upd (gV τ (c + 12)) i v)) := sV_nI (n := 16) (hs.2.2 12 (by decide) (by decide)) hi (by decide)
theorem mP21 {c : Nat} {τ : fr_S} (hs : Sm c τ) : oP τ 0 21 c = some (c + 13) := (oP_k hs.1).trans (hs.2.1 21 (by decide))
theorem mV13 {c i : Nat} {τ : fr_S} (hs : Sm c τ) (hi : i < 16) : oV τ 1 (c + 13) (nI i) = some (gV τ (c + 13) i) := oV_nI (n := 16) (hs.2.2 13 (by decide) (by decide)) hi (by decide)
theorem mS13 {c i : Nat} {τ : fr_S} {v : Int32} (hs : Sm c τ) (hi : i < 16) : sV τ 1 (c + 13) (nI i) v = some (pA τ (c + 13) (upd (gV τ (c + 13)) i v)) := sV_nI (n := 16) (hs.2.2 13 (by decide) (by decide)) hi (by decide)
theorem mP22 {c : Nat} {τ : fr_S} (hs : Sm c τ) : oP τ 0 22 c = some (c + 14) := (oP_k hs.1).trans (hs.2.1 22 (by decide))
theorem mV14 {c i : Nat} {τ : fr_S} (hs : Sm c τ) (hi : i < 10) : oV τ 0 (c + 14) (nI i) = some (gV τ (c + 14) i) := oV_nI (n := 10) (hs.2.2 14 (by decide) (by decide)) hi (by decide)
theorem mS14 {c i : Nat} {τ : fr_S} {v : Int32} (hs : Sm c τ) (hi : i < 10) : sV τ 0 (c + 14) (nI i) v = some (pA τ (c + 14) (upd (gV τ (c + 14)) i v)) := sV_nI (n := 10) (hs.2.2 14 (by decide) (by decide)) hi (by decide)
theorem mP23 {c : Nat} {τ : fr_S} (hs : Sm c τ) : oP τ 0 23 c = some (c + 15) := (oP_k hs.1).trans (hs.2.1 23 (by decide))
theorem mV15 {c i : Nat} {τ : fr_S} (hs : Sm c τ) (hi : i < 10) : oV τ 0 (c + 15) (nI i) = some (gV τ (c + 15) i) := oV_nI (n := 10) (hs.2.2 15 (by decide) (by decide)) hi (by decide)
theorem mS15 {c i : Nat} {τ : fr_S} {v : Int32} (hs : Sm c τ) (hi : i < 10) : sV τ 0 (c + 15) (nI i) v = some (pA τ (c + 15) (upd (gV τ (c + 15)) i v)) := sV_nI (n := 10) (hs.2.2 15 (by decide) (by decide)) hi (by decide)
theorem mP24 {c : Nat} {τ : fr_S} (hs : Sm c τ) : oP τ 0 24 c = some (c + 16) := (oP_k hs.1).trans (hs.2.1 24 (by decide))
theorem mV16 {c i : Nat} {τ : fr_S} (hs : Sm c τ) (hi : i < 60) : oV τ 0 (c + 16) (nI i) = some (gV τ (c + 16) i) := oV_nI (n := 60) (hs.2.2 16 (by decide) (by decide)) hi (by decide)
theorem mS16 {c i : Nat} {τ : fr_S} {v : Int32} (hs : Sm c τ) (hi : i < 60) : sV τ 0 (c + 16) (nI i) v = some (pA τ (c + 16) (upd (gV τ (c + 16)) i v)) := sV_nI (n := 60) (hs.2.2 16 (by decide) (by decide)) hi (by decide)
theorem mP25 {c : Nat} {τ : fr_S} (hs : Sm c τ) : oP τ 0 25 c = some (c + 17) := (oP_k hs.1).trans (hs.2.1 25 (by decide))
theorem mV17 {c i : Nat} {τ : fr_S} (hs : Sm c τ) (hi : i < 10) : oV τ 0 (c + 17) (nI i) = some (gV τ (c + 17) i) := oV_nI (n := 10) (hs.2.2 17 (by decide) (by decide)) hi (by decide)
theorem mS17 {c i : Nat} {τ : fr_S} {v : Int32} (hs : Sm c τ) (hi : i < 10) : sV τ 0 (c + 17) (nI i) v = some (pA τ (c + 17) (upd (gV τ (c + 17)) i v)) := sV_nI (n := 10) (hs.2.2 17 (by decide) (by decide)) hi (by decide)
theorem mP26 {c : Nat} {τ : fr_S} (hs : Sm c τ) : oP τ 0 26 c = some (c + 18) := (oP_k hs.1).trans (hs.2.1 26 (by decide))
theorem mV18 {c i : Nat} {τ : fr_S} (hs : Sm c τ) (hi : i < 10) : oV τ 0 (c + 18) (nI i) = some (gV τ (c + 18) i) := oV_nI (n := 10) (hs.2.2 18 (by decide) (by decide)) hi (by decide)
theorem mS18 {c i : Nat} {τ : fr_S} {v : Int32} (hs : Sm c τ) (hi : i < 10) : sV τ 0 (c + 18) (nI i) v = some (pA τ (c + 18) (upd (gV τ (c + 18)) i v)) := sV_nI (n := 10) (hs.2.2 18 (by decide) (by decide)) hi (by decide)
theorem mP27 {c : Nat} {τ : fr_S} (hs : Sm c τ) : oP τ 0 27 c = some (c + 19) := (oP_k hs.1).trans (hs.2.1 27 (by decide))
theorem mV19 {c i : Nat} {τ : fr_S} (hs : Sm c τ) (hi : i < 10) : oV τ 0 (c + 19) (nI i) = some (gV τ (c + 19) i) := oV_nI (n := 10) (hs.2.2 19 (by decide) (by decide)) hi (by decide)
theorem mS19 {c i : Nat} {τ : fr_S} {v : Int32} (hs : Sm c τ) (hi : i < 10) : sV τ 0 (c + 19) (nI i) v = some (pA τ (c + 19) (upd (gV τ (c + 19)) i v)) := sV_nI (n := 10) (hs.2.2 19 (by decide) (by decide)) hi (by decide)
theorem mP28 {c : Nat} {τ : fr_S} (hs : Sm c τ) : oP τ 0 28 c = some (c + 20) := (oP_k hs.1).trans (hs.2.1 28 (by decide))
theorem mV20 {c i : Nat} {τ : fr_S} (hs : Sm c τ) (hi : i < 1000) : oV τ 0 (c + 20) (nI i) = some (gV τ (c + 20) i) := oV_nI (n := 1000) (hs.2.2 20 (by decide) (by decide)) hi (by decide)
theorem mS20 {c i : Nat} {τ : fr_S} {v : Int32} (hs : Sm c τ) (hi : i < 1000) : sV τ 0 (c + 20) (nI i) v = some (pA τ (c + 20) (upd (gV τ (c + 20)) i v)) := sV_nI (n := 1000) (hs.2.2 20 (by decide) (by decide)) hi (by decide)
theorem mP29 {c : Nat} {τ : fr_S} (hs : Sm c τ) : oP τ 0 29 c = some (c + 21) := (oP_k hs.1).trans (hs.2.1 29 (by decide))
theorem mV21 {c i : Nat} {τ : fr_S} (hs : Sm c τ) (hi : i < 10) : oV τ 0 (c + 21) (nI i) = some (gV τ (c + 21) i) := oV_nI (n := 10) (hs.2.2 21 (by decide) (by decide)) hi (by decide)
theorem mS21 {c i : Nat} {τ : fr_S} {v : Int32} (hs : Sm c τ) (hi : i < 10) : sV τ 0 (c + 21) (nI i) v = some (pA τ (c + 21) (upd (gV τ (c + 21)) i v)) := sV_nI (n := 10) (hs.2.2 21 (by decide) (by decide)) hi (by decide)
theorem mP30 {c : Nat} {τ : fr_S} (hs : Sm c τ) : oP τ 0 30 c = some (c + 22) := (oP_k hs.1).trans (hs.2.1 30 (by decide))
theorem mV22 {c i : Nat} {τ : fr_S} (hs : Sm c τ) (hi : i < 10) : oV τ 0 (c + 22) (nI i) = some (gV τ (c + 22) i) := oV_nI (n := 10) (hs.2.2 22 (by decide) (by decide)) hi (by decide)
theorem mS22 {c i : Nat} {τ : fr_S} {v : Int32} (hs : Sm c τ) (hi : i < 10) : sV τ 0 (c + 22) (nI i) v = some (pA τ (c + 22) (upd (gV τ (c + 22)) i v)) := sV_nI (n := 10) (hs.2.2 22 (by decide) (by decide)) hi (by decide)
theorem mP31 {c : Nat} {τ : fr_S} (hs : Sm c τ) : oP τ 0 31 c = some (c + 23) := (oP_k hs.1).trans (hs.2.1 31 (by decide))
theorem mV23 {c i : Nat} {τ : fr_S} (hs : Sm c τ) (hi : i < 10) : oV τ 0 (c + 23) (nI i) = some (gV τ (c + 23) i) := oV_nI (n := 10) (hs.2.2 23 (by decide) (by decide)) hi (by decide)
theorem mS23 {c i : Nat} {τ : fr_S} {v : Int32} (hs : Sm c τ) (hi : i < 10) : sV τ 0 (c + 23) (nI i) v = some (pA τ (c + 23) (upd (gV τ (c + 23)) i v)) := sV_nI (n := 10) (hs.2.2 23 (by decide) (by decide)) hi (by decide)
theorem mP32 {c : Nat} {τ : fr_S} (hs : Sm c τ) : oP τ 0 32 c = some (c + 24) := (oP_k hs.1).trans (hs.2.1 32 (by decide))
theorem mV24 {c i : Nat} {τ : fr_S} (hs : Sm c τ) (hi : i < 10) : oV τ 0 (c + 24) (nI i) = some (gV τ (c + 24) i) := oV_nI (n := 10) (hs.2.2 24 (by decide) (by decide)) hi (by decide)
theorem mS24 {c i : Nat} {τ : fr_S} {v : Int32} (hs : Sm c τ) (hi : i < 10) : sV τ 0 (c + 24) (nI i) v = some (pA τ (c + 24) (upd (gV τ (c + 24)) i v)) := sV_nI (n := 10) (hs.2.2 24 (by decide) (by decide)) hi (by decide)
theorem mP33 {c : Nat} {τ : fr_S} (hs : Sm c τ) : oP τ 0 33 c = some (c + 25) := (oP_k hs.1).trans (hs.2.1 33 (by decide))
theorem mV25 {c i : Nat} {τ : fr_S} (hs : Sm c τ) (hi : i < 10) : oV τ 0 (c + 25) (nI i) = some (gV τ (c + 25) i) := oV_nI (n := 10) (hs.2.2 25 (by decide) (by decide)) hi (by decide)
theorem mS25 {c i : Nat} {τ : fr_S} {v : Int32} (hs : Sm c τ) (hi : i < 10) : sV τ 0 (c + 25) (nI i) v = some (pA τ (c + 25) (upd (gV τ (c + 25)) i v)) := sV_nI (n := 10) (hs.2.2 25 (by decide) (by decide)) hi (by decide)
theorem mP34 {c : Nat} {τ : fr_S} (hs : Sm c τ) : oP τ 0 34 c = some (c + 26) := (oP_k hs.1).trans (hs.2.1 34 (by decide))
theorem mV26 {c i : Nat} {τ : fr_S} (hs : Sm c τ) (hi : i < 1000) : oV τ 0 (c + 26) (nI i) = some (gV τ (c + 26) i) := oV_nI (n := 1000) (hs.2.2 26 (by decide) (by decide)) hi (by decide)
theorem mS26 {c i : Nat} {τ : fr_S} {v : Int32} (hs : Sm c τ) (hi : i < 1000) : sV τ 0 (c + 26) (nI i) v = some (pA τ (c + 26) (upd (gV τ (c + 26)) i v)) := sV_nI (n := 1000) (hs.2.2 26 (by decide) (by decide)) hi (by decide)
theorem mP35 {c : Nat} {τ : fr_S} (hs : Sm c τ) : oP τ 0 35 c = some (c + 27) := (oP_k hs.1).trans (hs.2.1 35 (by decide))
theorem mV27 {c i : Nat} {τ : fr_S} (hs : Sm c τ) (hi : i < 400) : oV τ 0 (c + 27) (nI i) = some (gV τ (c + 27) i) := oV_nI (n := 400) (hs.2.2 27 (by decide) (by decide)) hi (by decide)
theorem mS27 {c i : Nat} {τ : fr_S} {v : Int32} (hs : Sm c τ) (hi : i < 400) : sV τ 0 (c + 27) (nI i) v = some (pA τ (c + 27) (upd (gV τ (c + 27)) i v)) := sV_nI (n := 400) (hs.2.2 27 (by decide) (by decide)) hi (by decide)
theorem mP36 {c : Nat} {τ : fr_S} (hs : Sm c τ) : oP τ 0 36 c = some (c + 28) := (oP_k hs.1).trans (hs.2.1 36 (by decide))
theorem mV28 {c i : Nat} {τ : fr_S} (hs : Sm c τ) (hi : i < 400) : oV τ 0 (c + 28) (nI i) = some (gV τ (c + 28) i) := oV_nI (n := 400) (hs.2.2 28 (by decide) (by decide)) hi (by decide)
theorem mS28 {c i : Nat} {τ : fr_S} {v : Int32} (hs : Sm c τ) (hi : i < 400) : sV τ 0 (c + 28) (nI i) v = some (pA τ (c + 28) (upd (gV τ (c + 28)) i v)) := sV_nI (n := 400) (hs.2.2 28 (by decide) (by decide)) hi (by decide)
theorem mP37 {c : Nat} {τ : fr_S} (hs : Sm c τ) : oP τ 0 37 c = some (c + 29) := (oP_k hs.1).trans (hs.2.1 37 (by decide))
theorem mV29 {c i : Nat} {τ : fr_S} (hs : Sm c τ) (hi : i < 400) : oV τ 0 (c + 29) (nI i) = some (gV τ (c + 29) i) := oV_nI (n := 400) (hs.2.2 29 (by decide) (by decide)) hi (by decide)
theorem mS29 {c i : Nat} {τ : fr_S} {v : Int32} (hs : Sm c τ) (hi : i < 400) : sV τ 0 (c + 29) (nI i) v = some (pA τ (c + 29) (upd (gV τ (c + 29)) i v)) := sV_nI (n := 400) (hs.2.2 29 (by decide) (by decide)) hi (by decide)
theorem mP38 {c : Nat} {τ : fr_S} (hs : Sm c τ) : oP τ 0 38 c = some (c + 30) := (oP_k hs.1).trans (hs.2.1 38 (by decide))
theorem mV30 {c i : Nat} {τ : fr_S} (hs : Sm c τ) (hi : i < 10) : oV τ 0 (c + 30) (nI i) = some (gV τ (c + 30) i) := oV_nI (n := 10) (hs.2.2 30 (by decide) (by decide)) hi (by decide)
theorem mS30 {c i : Nat} {τ : fr_S} {v : Int32} (hs : Sm c τ) (hi : i < 10) : sV τ 0 (c + 30) (nI i) v = some (pA τ (c + 30) (upd (gV τ (c + 30)) i v)) := sV_nI (n := 10) (hs.2.2 30 (by decide) (by decide)) hi (by decide)
theorem mP40 {c : Nat} {τ : fr_S} (hs : Sm c τ) : oP τ 0 40 c = some (c + 31) := (oP_k hs.1).trans (hs.2.1 40 (by decide))
theorem mV31 {c i : Nat} {τ : fr_S} (hs : Sm c τ) (hi : i < 40) : oV τ 0 (c + 31) (nI i) = some (gV τ (c + 31) i) := oV_nI (n := 40) (hs.2.2 31 (by decide) (by decide)) hi (by decide)
theorem mS31 {c i : Nat} {τ : fr_S} {v : Int32} (hs : Sm c τ) (hi : i < 40) : sV τ 0 (c + 31) (nI i) v = some (pA τ (c + 31) (upd (gV τ (c + 31)) i v)) := sV_nI (n := 40) (hs.2.2 31 (by decide) (by decide)) hi (by decide)
theorem mP41 {c : Nat} {τ : fr_S} (hs : Sm c τ) : oP τ 0 41 c = some (c + 32) := (oP_k hs.1).trans (hs.2.1 41 (by decide))
theorem mV32 {c i : Nat} {τ : fr_S} (hs : Sm c τ) (hi : i < 40) : oV τ 0 (c + 32) (nI i) = some (gV τ (c + 32) i) := oV_nI (n := 40) (hs.2.2 32 (by decide) (by decide)) hi (by decide)
theorem mS32 {c i : Nat} {τ : fr_S} {v : Int32} (hs : Sm c τ) (hi : i < 40) : sV τ 0 (c + 32) (nI i) v = some (pA τ (c + 32) (upd (gV τ (c + 32)) i v)) := sV_nI (n := 40) (hs.2.2 32 (by decide) (by decide)) hi (by decide)
theorem mP42 {c : Nat} {τ : fr_S} (hs : Sm c τ) : oP τ 0 42 c = some (c + 33) := (oP_k hs.1).trans (hs.2.1 42 (by decide))
theorem mV33 {c i : Nat} {τ : fr_S} (hs : Sm c τ) (hi : i < 40) : oV τ 0 (c + 33) (nI i) = some (gV τ (c + 33) i) := oV_nI (n := 40) (hs.2.2 33 (by decide) (by decide)) hi (by decide)
theorem mS33 {c i : Nat} {τ : fr_S} {v : Int32} (hs : Sm c τ) (hi : i < 40) : sV τ 0 (c + 33) (nI i) v = some (pA τ (c + 33) (upd (gV τ (c + 33)) i v)) := sV_nI (n := 40) (hs.2.2 33 (by decide) (by decide)) hi (by decide)
theorem mP43 {c : Nat} {τ : fr_S} (hs : Sm c τ) : oP τ 0 43 c = some (c + 34) := (oP_k hs.1).trans (hs.2.1 43 (by decide))
theorem mV34 {c i : Nat} {τ : fr_S} (hs : Sm c τ) (hi : i < 40) : oV τ 0 (c + 34) (nI i) = some (gV τ (c + 34) i) := oV_nI (n := 40) (hs.2.2 34 (by decide) (by decide)) hi (by decide)
theorem mS34 {c i : Nat} {τ : fr_S} {v : Int32} (hs : Sm c τ) (hi : i < 40) : sV τ 0 (c + 34) (nI i) v = some (pA τ (c + 34) (upd (gV τ (c + 34)) i v)) := sV_nI (n := 40) (hs.2.2 34 (by decide) (by decide)) hi (by decide)
/-! what a pure function comes to -/
def ev {α : Type} (o : Option α) (Q : α → Prop) : Prop := ∃ a, o = some a ∧ Q a
theorem ev_some {α : Type} {a : α} {Q : α → Prop} (h : Q a) : ev (some a) Q := ⟨a, rfl, h⟩
theorem ev_bs {α β : Type} {o : Option α} {a : α} {f : α → Option β} {Q : β → Prop} (ho : o = some a) (h : ev (f a) Q) : ev (o.bind f) Q := by
  obtain ⟨b, hb, hq⟩ := h
  exact ⟨b, by rw [ho]; exact hb, hq⟩
theorem ev_b {α β : Type} {o : Option α} {f : α → Option β} {P : α → Prop} {Q : β → Prop} (ho : ev o P) (h : ∀ a, P a → ev (f a) Q) : ev (o.bind f) Q := by
  obtain ⟨a, ha, hp⟩ := ho
  exact ev_bs ha (h a hp)
theorem ev_if {α : Type} {c : Prop} {hd : Decidable c} {x y : Option α} {Q : α → Prop} (h1 : c → ev x Q) (h2 : ¬ c → ev y Q) : ev (if c then x else y) Q := by
  by_cases hc : c
  · rw [if_pos hc]; exact h1 hc
  · rw [if_neg hc]; exact h2 hc
theorem ev_mono {α : Type} {o : Option α} {P Q : α → Prop} (h : ev o P) (hm : ∀ a, P a → Q a) : ev o Q := by
  obtain ⟨a, ha, hp⟩ := h
  exact ⟨a, ha, hm a hp⟩
/-- whole numbers: an Int32 between -1 and a bound is a number -/
theorem nI_get {x : Int32} {n : Nat} (hn : n < 2 ^ 31) (h0 : ¬ x < 0) (h1 : ¬ nI n ≤ x) : ∃ j : Nat, j < n ∧ x = nI j := by
  rcases pk_ix x hn with h | h | h
  · exact absurd h h0
  · exact absurd h h1
  · exact h
theorem nI_lit8 : (8 : Int32) = nI 8 := by decide +kernel
theorem nI_lit50 : (50 : Int32) = nI 50 := by decide +kernel
theorem nI_lit16 : (16 : Int32) = nI 16 := by decide +kernel
theorem nI_lit10 : (10 : Int32) = nI 10 := by decide +kernel
theorem nI_lit100 : (100 : Int32) = nI 100 := by decide +kernel
theorem nI_lit1 : (1 : Int32) = nI 1 := by decide +kernel
theorem nI_lit6 : (6 : Int32) = nI 6 := by decide +kernel
theorem nI_lit9 : (9 : Int32) = nI 9 := by decide +kernel
/-! THE REFERENCE'S INVARIANT, in pieces over its arrays -/
def I_pl (np : Nat) (ho ra le : Nat → Int32) : Prop := ∀ i, i < np → (∃ h, h < 8 ∧ ho i = nI h) ∧ (∃ r, 1 ≤ r ∧ r ≤ 50 ∧ ra i = nI r) ∧ (le i = -1 ∨ ∃ j, j < np ∧ le i = nI j)
def I_sz (si cu cb : Nat → Int32) : Prop := ∀ i, i < 16 → (∃ s, s ≤ 100 ∧ si i = nI s) ∧ (∃ k, k ≤ 9 ∧ cu i = nI k) ∧ ∃ k, k ≤ 100 ∧ cb i = nI k
def I_by (n : Nat) (by_ : Nat → Int32) : Prop := ∀ k, k < n → ∃ x, x < 256 ∧ by_ k = nI x
def I_wp (np : Nat) (pm po : Nat → Int32) : Prop := ∀ j, j < 10 → ∃ m, m ≤ 6 ∧ pm j = nI m ∧ ∀ k, k < m → ∃ p, p < np ∧ po (6 * j + k) = nI p
def I_ws (nw re : Nat) (pm st at_ ha fa : Nat → Int32) : Prop := ∀ j, j < 10 → (∃ s, s ≤ 4 ∧ st j = nI s ∧ ((s = 1 ∨ s = 2) → j < nw ∧ ∃ m a, m ≤ 6 ∧ pm j = nI m ∧ at_ j = nI a ∧ a < m)) ∧ (∃ n, n ≤ 100 ∧ ha j = nI n) ∧ ∃ f, f ≤ re ∧ fa j = nI f
def I_ke (nw nk : Nat) (go ke ks : Nat → Int32) : Prop := (∀ k, k < nk → (∃ j, j < nw ∧ ke k = go j) ∧ ∃ n, n ≤ 100 ∧ ks k = nI n) ∧ ∀ k k', k < k' → k' < nk → ke k ≠ ke k'
def I_to (np nw nt : Nat) (ba pm po st at_ tw tp : Nat → Int32) : Prop := (∀ i, i < nt → ∃ w k m p, w < nw ∧ m ≤ 6 ∧ pm w = nI m ∧ k < m ∧ p < np ∧ po (6 * w + k) = nI p ∧ tw i = nI w ∧ tp i = nI p ∧ ba p = 1 ∧ ((st w = 1 ∨ st w = 2) → ∀ a, at_ w = nI a → a < m → po (6 * w + a) ≠ nI p)) ∧ ∀ i i', i < i' → i' < nt → ¬ (tw i = tw i' ∧ tp i = tp i')
def I_la (nw nl : Nat) (la : Nat → Int32) : Prop := (∀ k, k < nl → ∃ w, w < nw ∧ la k = nI w) ∧ ∀ k k', k < k' → k' < nl → la k ≠ la k'
def I_fi (nf : Nat) (pa pn : Nat → Int32) : Prop := ∀ f, f < nf → ∃ a n, a + n ≤ 100 ∧ pa f = nI a ∧ pn f = nI n
def M_I (c np nw nk nt nl nf re : Nat) (τ : fr_S) : Prop :=
  (np ≤ 16 ∧ gI τ 6 c = nI np) ∧ (nw ≤ 10 ∧ gI τ 7 c = nI nw) ∧ gI τ 8 c = nI nk ∧ gI τ 9 c = nI nt ∧ gI τ 10 c = nI nl ∧ (nf ≤ 33 ∧ gI τ 39 c = nI nf) ∧ (re ≤ 5 ∧ gI τ 0 c = nI re) ∧
  I_pl np (gV τ (c + 3)) (gV τ (c + 4)) (gV τ (c + 6)) ∧ I_sz (gV τ (c + 5)) (gV τ (c + 7)) (gV τ (c + 8)) ∧ I_by 1600 (gV τ (c + 9)) ∧ I_wp np (gV τ (c + 15)) (gV τ (c + 16)) ∧ I_ws nw re (gV τ (c + 15)) (gV τ (c + 17)) (gV τ (c + 18)) (gV τ (c + 19)) (gV τ (c + 23)) ∧ I_by 1000 (gV τ (c + 20)) ∧ I_ke nw nk (gV τ (c + 14)) (gV τ (c + 24)) (gV τ (c + 25)) ∧ I_by 1000 (gV τ (c + 26)) ∧
  I_to np nw nt (gV τ (c + 13)) (gV τ (c + 15)) (gV τ (c + 16)) (gV τ (c + 17)) (gV τ (c + 18)) (gV τ (c + 27)) (gV τ (c + 28)) ∧ I_la nw nl (gV τ (c + 30)) ∧ I_fi nf (gV τ (c + 33)) (gV τ (c + 34))
def MI (c : Nat) (τ : fr_S) : Prop := Sm c τ ∧ ∃ np nw nk nt nl nf re, M_I c np nw nk nt nl nf re τ
theorem M_code {c : Nat} {τ : fr_S} {v : Int32} (h : MI c τ) : MI c (pI τ 1 c v) := by
  obtain ⟨hs, np, nw, nk, nt, nl, nf, re, hI⟩ := h
  refine ⟨hs, np, nw, nk, nt, nl, nf, re, ?_⟩
  simpa [M_I, gV_pI, gI_pIx] using hI
theorem md_isPlace {c np : Nat} {τ : fr_S} (hs : Sm c τ) (h1 : np ≤ 16 ∧ gI τ 6 c = nI np) (x : Int32) : ev (m_Md_isPlace c x τ) (fun r => (r = 0 ∧ ¬ (¬ x < 0 ∧ ¬ nI np ≤ x)) ∨ (r = 1 ∧ ∃ j, j < np ∧ x = nI j)) := by
  unfold m_Md_isPlace
  refine ev_if (fun h => ev_some (Or.inl ⟨rfl, fun z => z.1 h⟩)) (fun h => ?_)
  refine ev_bs ((mI hs).trans (congrArg some h1.2)) ?_
  refine ev_if (fun h2 => ev_some (Or.inl ⟨rfl, fun z => z.2 h2⟩)) (fun h2 => ev_some (Or.inr ⟨rfl, nI_get (by omega) h h2⟩))
theorem md_isWant {c nw : Nat} {τ : fr_S} (hs : Sm c τ) (h1 : nw ≤ 10 ∧ gI τ 7 c = nI nw) (x : Int32) : ev (m_Md_isWant c x τ) (fun r => (r = 0 ∧ ¬ (¬ x < 0 ∧ ¬ nI nw ≤ x)) ∨ (r = 1 ∧ ∃ j, j < nw ∧ x = nI j)) := by
  unfold m_Md_isWant
  refine ev_if (fun h => ev_some (Or.inl ⟨rfl, fun z => z.1 h⟩)) (fun h => ?_)
  refine ev_bs ((mI hs).trans (congrArg some h1.2)) ?_
  refine ev_if (fun h2 => ev_some (Or.inl ⟨rfl, fun z => z.2 h2⟩)) (fun h2 => ev_some (Or.inr ⟨rfl, nI_get (by omega) h h2⟩))
theorem md_credential {c : Nat} {τ : fr_S} (h : MI c τ) (x1 x2 : Int32) : ev (m_Md_credential c x1 x2 τ) (fun q => q.1 = (if x1 < 0 then 0 else if x1 < 8 then 1 else 0) ∧ MI c q.2) := by
  unfold m_Md_credential
  refine ev_bs (mSI h.1) ?_
  have h := M_code (v := 0) h
  generalize pI τ 1 c 0 = τ at h ⊢
  refine ev_if (fun h1 => ev_some ⟨by rw [if_pos h1], h⟩) (fun h1 => ?_)
  refine ev_if (fun h2 => ?_) (fun h2 => ev_some ⟨by rw [if_neg h1, if_neg h2], h⟩)
  obtain ⟨i, hi, rfl⟩ := nI_get (x := x1) (n := 8) (by decide) h1 (by rw [← nI_lit8]; exact Int32.not_le.mpr h2)
  refine ev_bs (mP4 h.1) ?_
  refine ev_bs (mS1 h.1 hi) ?_
  refine ev_some ⟨by rw [if_neg h1, if_pos h2], ?_⟩
  obtain ⟨hs, np, nw, nk, nt, nl, nf, re, hI⟩ := h
  refine ⟨hs, np, nw, nk, nt, nl, nf, re, ?_⟩
  simpa [M_I, gV_pAx, gI_pA] using hI
theorem nI_rng {x : Int32} {lo hi : Nat} (h1 : ¬ x < nI lo) (h2 : x ≤ nI hi) (hh : hi < 2 ^ 31) (hl : lo ≤ hi) : ∃ j : Nat, lo ≤ j ∧ j ≤ hi ∧ x = nI j := by
  rw [Int32.lt_iff_toInt_lt, nI_toInt (by omega)] at h1
  rw [Int32.le_iff_toInt_le, nI_toInt hh] at h2
  refine ⟨x.toInt.toNat, by omega, by omega, ?_⟩
  apply Int32.toInt_inj.mp
  rw [nI_toInt (by omega)]
  omega
theorem I_wp_mono {np : Nat} {pm po : Nat → Int32} (h : I_wp np pm po) : I_wp (np + 1) pm po := by
  intro j hj
  obtain ⟨m, h1, h2, h3⟩ := h j hj
  refine ⟨m, h1, h2, fun k hk => ?_⟩
  obtain ⟨p, g1, g2⟩ := h3 k hk
  exact ⟨p, by omega, g2⟩
theorem I_to_mono {np nw nt : Nat} {ba pm po st at_ tw tp : Nat → Int32} (h : I_to np nw nt ba pm po st at_ tw tp) : I_to (np + 1) nw nt ba pm po st at_ tw tp := by
  refine ⟨fun i hi => ?_, h.2⟩
  obtain ⟨w, k, m, p, h1, h2, h3, h4, h5, h6⟩ := h.1 i hi
  exact ⟨w, k, m, p, h1, h2, h3, h4, by omega, h6⟩
theorem I_pl_add {np h r : Nat} {ho ra le : Nat → Int32} (hI : I_pl np ho ra le) (hh : h < 8) (hr1 : 1 ≤ r) (hr : r ≤ 50) : I_pl (np + 1) (upd ho np (nI h)) (upd ra np (nI r)) (upd le np (-1)) := by
  intro i hi
  by_cases hin : i = np
  · subst hin
    exact ⟨⟨h, hh, upd_s⟩, ⟨r, hr1, hr, upd_s⟩, Or.inl upd_s⟩
  · obtain ⟨g1, g2, g3⟩ := hI i (by omega)
    rw [upd_n hin, upd_n hin, upd_n hin]
    refine ⟨g1, g2, ?_⟩
    rcases g3 with g3 | ⟨j, hj, g3⟩
    · exact Or.inl g3
    · exact Or.inr ⟨j, by omega, g3⟩
theorem I_ws_mono {nw re : Nat} {pm st at_ ha fa : Nat → Int32} (h : I_ws nw re pm st at_ ha fa) : I_ws (nw + 1) re pm st at_ ha fa := by
  intro j hj
  obtain ⟨⟨s, h1, h2, h3⟩, h4⟩ := h j hj
  refine ⟨⟨s, h1, h2, fun hb => ?_⟩, h4⟩
  obtain ⟨g1, g2⟩ := h3 hb
  exact ⟨by omega, g2⟩
theorem I_ke_new {nw nk : Nat} {go ke ks : Nat → Int32} {x : Int32} (h : I_ke nw nk go ke ks) : I_ke (nw + 1) nk (upd go nw x) ke ks := by
  refine ⟨fun k hk => ?_, h.2⟩
  obtain ⟨⟨j, hj, h1⟩, h2⟩ := h.1 k hk
  exact ⟨⟨j, by omega, by rw [upd_n (by omega)]; exact h1⟩, h2⟩
theorem I_to_monow {np nw nt : Nat} {ba pm po st at_ tw tp : Nat → Int32} (h : I_to np nw nt ba pm po st at_ tw tp) : I_to np (nw + 1) nt ba pm po st at_ tw tp := by
  refine ⟨fun i hi => ?_, h.2⟩
  obtain ⟨w, k, m, p, h1, h2⟩ := h.1 i hi
  exact ⟨w, k, m, p, by omega, h2⟩
theorem I_la_mono {nw nl : Nat} {la : Nat → Int32} (h : I_la nw nl la) : I_la (nw + 1) nl la := by
  refine ⟨fun k hk => ?_, h.2⟩
  obtain ⟨w, h1, h2⟩ := h.1 k hk
  exact ⟨w, by omega, h2⟩
theorem md_place {c : Nat} {τ : fr_S} (h : MI c τ) (x1 x2 : Int32) : ev (m_Md_place c x1 x2 τ) (fun q => MI c q.2) := by
  unfold m_Md_place
  refine ev_bs (mSI h.1) ?_
  have h := M_code (v := 0) h
  generalize pI τ 1 c 0 = τ at h ⊢
  obtain ⟨hs, np, nw, nk, nt, nl, nf, re, a1, a2, a3, a4, a5, a6, a7, a8, a9, a10, a11, a12, a13, a14, a15, a16, a17, a18⟩ := id h
  refine ev_bs ((mI hs).trans (congrArg some a1.2)) ?_
  refine ev_if (fun _ => ev_some h) (fun h16 => ?_)
  refine ev_if (fun _ => ev_some h) (fun h0 => ?_)
  refine ev_if (fun _ => ev_some h) (fun h8 => ?_)
  refine ev_if (fun _ => ev_some h) (fun h1 => ?_)
  refine ev_if (fun h50 => ?_) (fun _ => ev_some h)
  have hnp : np < 16 := by
    have h9 : ¬ np = 16 := fun z => h16 (by rw [z]; exact nI_lit16.symm)
    have := a1.1
    omega
  obtain ⟨hh, hh8, rfl⟩ := nI_get (x := x1) (n := 8) (by decide) h0 (by rw [← nI_lit8]; exact h8)
  obtain ⟨r, hr1, hr50, rfl⟩ := nI_rng (x := x2) (lo := 1) (hi := 50) (by rw [← nI_lit1]; exact h1) (by rw [← nI_lit50]; exact h50) (by decide) (by decide)
  refine ev_bs (mP11 hs) ?_
  refine ev_bs ((mI hs).trans (congrArg some a1.2)) ?_
  refine ev_bs (mS3 hs hnp) ?_
  refine ev_bs (mP12 hs) ?_
  refine ev_bs ((mI hs).trans (congrArg some a1.2)) ?_
  refine ev_bs (mS4 hs hnp) ?_
  refine ev_bs (mP14 hs) ?_
  refine ev_bs ((mI hs).trans (congrArg some a1.2)) ?_
  refine ev_bs (mS6 hs hnp) ?_
  refine ev_bs ((mI hs).trans (congrArg some a1.2)) ?_
  refine ev_bs (mSI hs) ?_
  refine ev_bs (mI hs) ?_
  refine ev_some ⟨hs, np + 1, nw, nk, nt, nl, nf, re, ⟨by omega, by simpa [gI_pIx] using nI_1 np⟩, (by simpa [gV_pI, gV_pAx, gI_pA, gI_pIx] using a2), (by simpa [gV_pI, gV_pAx, gI_pA, gI_pIx] using a3), (by simpa [gV_pI, gV_pAx, gI_pA, gI_pIx] using a4), (by simpa [gV_pI, gV_pAx, gI_pA, gI_pIx] using a5), (by simpa [gV_pI, gV_pAx, gI_pA, gI_pIx] using a6), (by simpa [gV_pI, gV_pAx, gI_pA, gI_pIx] using a7), (by simpa [gV_pI, gV_pAx] using I_pl_add a8 hh8 hr1 hr50), (by simpa [gV_pI, gV_pAx, gI_pA, gI_pIx] using a9), (by simpa [gV_pI, gV_pAx, gI_pA, gI_pIx] using a10), (by simpa [gV_pI, gV_pAx] using I_wp_mono a11), (by simpa [gV_pI, gV_pAx, gI_pA, gI_pIx] using a12), (by simpa [gV_pI, gV_pAx, gI_pA, gI_pIx] using a13), (by simpa [gV_pI, gV_pAx, gI_pA, gI_pIx] using a14), (by simpa [gV_pI, gV_pAx, gI_pA, gI_pIx] using a15), (by simpa [gV_pI, gV_pAx] using I_to_mono a16), (by simpa [gV_pI, gV_pAx, gI_pA, gI_pIx] using a17), (by simpa [gV_pI, gV_pAx, gI_pA, gI_pIx] using a18)⟩
theorem md_want {c : Nat} {τ : fr_S} (h : MI c τ) (x1 : Int32) : ev (m_Md_want c x1 τ) (fun q => MI c q.2) := by
  unfold m_Md_want
  refine ev_bs (mSI h.1) ?_
  have h := M_code (v := 0) h
  generalize pI τ 1 c 0 = τ at h ⊢
  obtain ⟨hs, np, nw, nk, nt, nl, nf, re, a1, a2, a3, a4, a5, a6, a7, a8, a9, a10, a11, a12, a13, a14, a15, a16, a17, a18⟩ := id h
  refine ev_bs ((mI hs).trans (congrArg some a2.2)) ?_
  refine ev_if (fun _ => ev_some h) (fun h10 => ?_)
  have hnw : nw < 10 := by
    have h9 : ¬ nw = 10 := fun z => h10 (by rw [z]; exact nI_lit10.symm)
    have := a2.1
    omega
  refine ev_bs (mP22 hs) ?_
  refine ev_bs ((mI hs).trans (congrArg some a2.2)) ?_
  refine ev_bs (mS14 hs hnw) ?_
  refine ev_bs ((mI hs).trans (congrArg some a2.2)) ?_
  refine ev_bs (mSI hs) ?_
  refine ev_bs (mI hs) ?_
  refine ev_some ⟨hs, np, nw + 1, nk, nt, nl, nf, re, (by simpa [gV_pI, gV_pAx, gI_pA, gI_pIx] using a1), ⟨by omega, by simpa [gI_pIx] using nI_1 nw⟩, (by simpa [gV_pI, gV_pAx, gI_pA, gI_pIx] using a3), (by simpa [gV_pI, gV_pAx, gI_pA, gI_pIx] using a4), (by simpa [gV_pI, gV_pAx, gI_pA, gI_pIx] using a5), (by simpa [gV_pI, gV_pAx, gI_pA, gI_pIx] using a6), (by simpa [gV_pI, gV_pAx, gI_pA, gI_pIx] using a7), (by simpa [gV_pI, gV_pAx, gI_pA, gI_pIx] using a8), (by simpa [gV_pI, gV_pAx, gI_pA, gI_pIx] using a9), (by simpa [gV_pI, gV_pAx, gI_pA, gI_pIx] using a10), (by simpa [gV_pI, gV_pAx, gI_pA, gI_pIx] using a11), (by simpa [gV_pI, gV_pAx] using I_ws_mono a12), (by simpa [gV_pI, gV_pAx, gI_pA, gI_pIx] using a13), (by simpa [gV_pI, gV_pAx] using I_ke_new a14), (by simpa [gV_pI, gV_pAx, gI_pA, gI_pIx] using a15), (by simpa [gV_pI, gV_pAx] using I_to_monow a16), (by simpa [gV_pI, gV_pAx] using I_la_mono a17), (by simpa [gV_pI, gV_pAx, gI_pA, gI_pIx] using a18)⟩
theorem md_offLine {c : Nat} {τ : fr_S} (h : MI c τ) (x1 : Int32) (hz : x1 = 0 ∨ x1 = 1) : ev (m_Md_offLine c x1 τ) (fun q => MI c q) := by
  unfold m_Md_offLine
  refine ev_bs (mSI h.1) ?_
  have h := M_code (v := 0) h
  generalize pI τ 1 c 0 = τ at h ⊢
  obtain ⟨hs, np, nw, nk, nt, nl, nf, re, a1, a2, a3, a4, a5, a6, a7, a8, a9, a10, a11, a12, a13, a14, a15, a16, a17, a18⟩ := id h
  refine ev_bs (mSZ hs hz) ?_
  refine ev_bs (mSI hs) ?_
  refine ev_some ⟨hs, np, nw, nk, nt, 0, nf, re, (by simpa [gV_pI, gV_pAx, gI_pA, gI_pIx] using a1), (by simpa [gV_pI, gV_pAx, gI_pA, gI_pIx] using a2), (by simpa [gV_pI, gV_pAx, gI_pA, gI_pIx] using a3), (by simpa [gV_pI, gV_pAx, gI_pA, gI_pIx] using a4), (by simpa [gI_pIx] using nI_0.symm), (by simpa [gV_pI, gV_pAx, gI_pA, gI_pIx] using a6), (by simpa [gV_pI, gV_pAx, gI_pA, gI_pIx] using a7), (by simpa [gV_pI, gV_pAx, gI_pA, gI_pIx] using a8), (by simpa [gV_pI, gV_pAx, gI_pA, gI_pIx] using a9), (by simpa [gV_pI, gV_pAx, gI_pA, gI_pIx] using a10), (by simpa [gV_pI, gV_pAx, gI_pA, gI_pIx] using a11), (by simpa [gV_pI, gV_pAx, gI_pA, gI_pIx] using a12), (by simpa [gV_pI, gV_pAx, gI_pA, gI_pIx] using a13), (by simpa [gV_pI, gV_pAx, gI_pA, gI_pIx] using a14), (by simpa [gV_pI, gV_pAx, gI_pA, gI_pIx] using a15), (by simpa [gV_pI, gV_pAx, gI_pA, gI_pIx] using a16), ⟨fun k hk => absurd hk (Nat.not_lt_zero k), fun k k' _ hk => absurd hk (Nat.not_lt_zero k')⟩, (by simpa [gV_pI, gV_pAx, gI_pA, gI_pIx] using a18)⟩
theorem I_sz_cut {i t n : Nat} {si cu cb : Nat → Int32} (hI : I_sz si cu cb) (ht : t ≤ 9) (hn : n ≤ 100) : I_sz si (upd cu i (nI t)) (upd cb i (nI n)) := by
  intro k hk
  obtain ⟨g1, g2, g3⟩ := hI k hk
  by_cases hki : k = i
  · subst hki
    exact ⟨g1, ⟨t, ht, upd_s⟩, ⟨n, hn, upd_s⟩⟩
  · rw [upd_n hki, upd_n hki]
    exact ⟨g1, g2, g3⟩
theorem md_cut {c : Nat} {τ : fr_S} (h : MI c τ) (x1 x2 x3 : Int32) : ev (m_Md_cut c x1 x2 x3 τ) (fun q => MI c q.2) := by
  unfold m_Md_cut
  refine ev_bs (mSI h.1) ?_
  have h := M_code (v := 0) h
  generalize pI τ 1 c 0 = τ at h ⊢
  obtain ⟨hs, np, nw, nk, nt, nl, nf, re, a1, a2, a3, a4, a5, a6, a7, a8, a9, a10, a11, a12, a13, a14, a15, a16, a17, a18⟩ := id h
  refine ev_bs (mK hs) ?_
  refine ev_b (md_isPlace hs a1 x1) (fun r hr => ?_)
  refine ev_if (fun _ => ev_some h) (fun hr0 => ?_)
  refine ev_if (fun _ => ev_some h) (fun h2 => ?_)
  refine ev_if (fun _ => ev_some h) (fun h2' => ?_)
  refine ev_if (fun _ => ev_some h) (fun h3 => ?_)
  refine ev_if (fun h3' => ?_) (fun _ => ev_some h)
  rcases hr with hr | ⟨-, i, hi, rfl⟩
  · exact absurd hr.1 hr0
  have hnp := a1.1
  obtain ⟨t, -, ht, rfl⟩ := nI_rng (x := x2) (lo := 0) (hi := 9) (by rw [nI_0]; exact h2) (by rw [← nI_lit9]; exact Int32.not_lt.mp h2') (by decide) (by decide)
  obtain ⟨n, -, hn, rfl⟩ := nI_rng (x := x3) (lo := 0) (hi := 100) (by rw [nI_0]; exact h3) (by rw [← nI_lit100]; exact h3') (by decide) (by decide)
  refine ev_bs (mP15 hs) ?_
  refine ev_bs (mS7 hs (by omega)) ?_
  refine ev_bs (mP16 hs) ?_
  refine ev_bs (mS8 hs (by omega)) ?_
  refine ev_some ⟨hs, np, nw, nk, nt, nl, nf, re, (by simpa [gV_pI, gV_pAx, gI_pA, gI_pIx] using a1), (by simpa [gV_pI, gV_pAx, gI_pA, gI_pIx] using a2), (by simpa [gV_pI, gV_pAx, gI_pA, gI_pIx] using a3), (by simpa [gV_pI, gV_pAx, gI_pA, gI_pIx] using a4), (by simpa [gV_pI, gV_pAx, gI_pA, gI_pIx] using a5), (by simpa [gV_pI, gV_pAx, gI_pA, gI_pIx] using a6), (by simpa [gV_pI, gV_pAx, gI_pA, gI_pIx] using a7), (by simpa [gV_pI, gV_pAx, gI_pA, gI_pIx] using a8), (by simpa [gV_pI, gV_pAx] using I_sz_cut a9 ht hn), (by simpa [gV_pI, gV_pAx, gI_pA, gI_pIx] using a10), (by simpa [gV_pI, gV_pAx, gI_pA, gI_pIx] using a11), (by simpa [gV_pI, gV_pAx, gI_pA, gI_pIx] using a12), (by simpa [gV_pI, gV_pAx, gI_pA, gI_pIx] using a13), (by simpa [gV_pI, gV_pAx, gI_pA, gI_pIx] using a14), (by simpa [gV_pI, gV_pAx, gI_pA, gI_pIx] using a15), (by simpa [gV_pI, gV_pAx, gI_pA, gI_pIx] using a16), (by simpa [gV_pI, gV_pAx, gI_pA, gI_pIx] using a17), (by simpa [gV_pI, gV_pAx, gI_pA, gI_pIx] using a18)⟩
/-! no more of a kind than there are places for them -/
theorem pigeon : ∀ (m n : Nat) (f : Nat → Nat), (∀ i, i < n → f i < m) → (∀ i j, i < j → j < n → f i ≠ f j) → n ≤ m := by
  intro m
  induction m with
  | zero =>
    intro n f h1 h2
    cases n with
    | zero => exact Nat.le_refl 0
    | succ n => exact absurd (h1 0 (Nat.succ_pos n)) (Nat.not_lt_zero _)
  | succ m ih =>
    intro n f h1 h2
    by_cases hex : ∃ i, i < n ∧ f i = m
    · obtain ⟨i0, hi0, hf0⟩ := hex
      have key : n - 1 ≤ m := by
        refine ih (n - 1) (fun j => if j < i0 then f j else f (j + 1)) (fun j hj => ?_) (fun i j hij hj => ?_)
        · by_cases hlt : j < i0
          · simp only [hlt, if_true]
            have g1 := h1 j (by omega)
            have g2 := h2 j i0 hlt hi0
            omega
          · simp only [hlt, if_false]
            have g1 := h1 (j + 1) (by omega)
            have g2 := h2 i0 (j + 1) (by omega) (by omega)
            omega
        · by_cases hi : i < i0
          · by_cases hjl : j < i0
            · simp only [hi, hjl, if_true]
              exact h2 i j hij (by omega)
            · simp only [hi, hjl, if_true, if_false]
              exact h2 i (j + 1) (by omega) (by omega)
          · have hjl : ¬ j < i0 := by omega
            simp only [hi, hjl, if_false]
            exact h2 (i + 1) (j + 1) (by omega) (by omega)
      omega
    · have key : n ≤ m := by
        refine ih n f (fun i hi => ?_) h2
        have g1 := h1 i hi
        have g2 : f i ≠ m := fun z => hex ⟨i, hi, z⟩
        omega
      omega
theorem nI_inj {a b : Nat} (ha : a < 2 ^ 31) (hb : b < 2 ^ 31) (h : nI a = nI b) : a = b := (nI_eq ha hb).mp h
theorem I_la_le {nw nl : Nat} {la : Nat → Int32} (h : I_la nw nl la) : nl ≤ nw := by
  obtain ⟨f, hf⟩ := Classical.skolem.mp (fun k : Nat => show ∃ w : Nat, k < nl → w < nw ∧ la k = nI w by
    by_cases hk : k < nl
    · obtain ⟨w, h1⟩ := h.1 k hk
      exact ⟨w, fun _ => h1⟩
    · exact ⟨0, fun z => absurd z hk⟩)
  refine pigeon nw nl f (fun i hi => (hf i hi).1) (fun i j hij hj hfe => ?_)
  exact h.2 i j hij hj (by rw [(hf i (by omega)).2, (hf j hj).2, hfe])
theorem I_la_add {nw nl w : Nat} {la : Nat → Int32} (h : I_la nw nl la) (hw : w < nw) (hn : ∀ k, k < nl → la k ≠ nI w) : I_la nw (nl + 1) (upd la nl (nI w)) := by
  refine ⟨fun k hk => ?_, fun k k' hkk hk' => ?_⟩
  · by_cases hkn : k = nl
    · subst hkn
      exact ⟨w, hw, upd_s⟩
    · rw [upd_n hkn]
      exact h.1 k (by omega)
  · rw [upd_n (show k ≠ nl by omega)]
    by_cases hkn : k' = nl
    · subst hkn
      rw [upd_s]
      exact hn k hkk
    · rw [upd_n hkn]
      exact h.2 k k' hkk (by omega)
theorem I_ke_le {nw nk : Nat} {go ke ks : Nat → Int32} (h : I_ke nw nk go ke ks) : nk ≤ nw := by
  obtain ⟨f, hf⟩ := Classical.skolem.mp (fun k : Nat => show ∃ w : Nat, k < nk → w < nw ∧ ke k = go w by
    by_cases hk : k < nk
    · obtain ⟨⟨w, h1⟩, -⟩ := h.1 k hk
      exact ⟨w, fun _ => h1⟩
    · exact ⟨0, fun z => absurd z hk⟩)
  refine pigeon nw nk f (fun i hi => (hf i hi).1) (fun i j hij hj hfe => ?_)
  exact h.2 i j hij hj (by rw [(hf i (by omega)).2, (hf j hj).2, hfe])
theorem I_ke_add {nw nk w n : Nat} {go ke ks : Nat → Int32} (h : I_ke nw nk go ke ks) (hw : w < nw) (hn : n ≤ 100) (hne : ∀ k, k < nk → ke k ≠ go w) : I_ke nw (nk + 1) go (upd ke nk (go w)) (upd ks nk (nI n)) := by
  refine ⟨fun k hk => ?_, fun k k' hkk hk' => ?_⟩
  · by_cases hkn : k = nk
    · subst hkn
      exact ⟨⟨w, hw, upd_s⟩, ⟨n, hn, upd_s⟩⟩
    · rw [upd_n hkn, upd_n hkn]
      exact h.1 k (by omega)
  · rw [upd_n (show k ≠ nk by omega)]
    by_cases hkn : k' = nk
    · subst hkn
      rw [upd_s]
      exact hne k hkk
    · rw [upd_n hkn]
      exact h.2 k k' hkk (by omega)
theorem I_to_le {np nw nt : Nat} {ba pm po st at_ tw tp : Nat → Int32} (h : I_to np nw nt ba pm po st at_ tw tp) (hw : nw ≤ 10) : nt ≤ 60 := by
  obtain ⟨f, hf⟩ := Classical.skolem.mp (fun i : Nat => show ∃ q : Nat, i < nt → ∃ w k, q = 6 * w + k ∧ k < 6 ∧ w < 10 ∧ tw i = nI w ∧ tp i = po (6 * w + k) by
    by_cases hi : i < nt
    · obtain ⟨w, k, m, p, g1, g2, g3, g4, g5, g6, g7, g8, -⟩ := h.1 i hi
      exact ⟨6 * w + k, fun _ => ⟨w, k, rfl, by omega, by omega, g7, by rw [g8, g6]⟩⟩
    · exact ⟨0, fun z => absurd z hi⟩)
  refine pigeon 60 nt f (fun i hi => ?_) (fun i j hij hj hfe => ?_)
  · obtain ⟨w, k, g1, g2, g3, -⟩ := hf i hi
    omega
  · obtain ⟨w, k, g1, g2, g3, g4, g5⟩ := hf i (by omega)
    obtain ⟨w', k', g1', g2', g3', g4', g5'⟩ := hf j hj
    have hw' : w = w' := by omega
    have hk' : k = k' := by omega
    subst hw'
    subst hk'
    exact h.2 i j hij hj ⟨by rw [g4, g4'], by rw [g5, g5']⟩
/-! reads: they change nothing but the code -/
theorem md_sent {c : Nat} {τ : fr_S} (h : MI c τ) (x1 : Int32) : ev (m_Md_sent c x1 τ) (fun q => MI c q.2) := by
  unfold m_Md_sent
  refine ev_bs (mSI h.1) ?_
  have h := M_code (v := 0) h
  generalize pI τ 1 c 0 = τ at h ⊢
  refine ev_if (fun _ => ev_some h) (fun h1 => ?_)
  refine ev_if (fun h2 => ?_) (fun _ => ev_some h)
  obtain ⟨i, hi, rfl⟩ := nI_get (x := x1) (n := 8) (by decide) h1 (by rw [← nI_lit8]; exact Int32.not_le.mpr h2)
  refine ev_bs (mP5 h.1) ?_
  refine ev_bs (mV2 h.1 hi) ?_
  exact ev_some h
theorem md_lacks {c : Nat} {τ : fr_S} (h : MI c τ) (x1 : Int32) : ev (m_Md_lacks c x1 τ) (fun q => MI c q.2) := by
  unfold m_Md_lacks
  refine ev_bs (mSI h.1) ?_
  have h := M_code (v := 0) h
  generalize pI τ 1 c 0 = τ at h ⊢
  obtain ⟨hs, np, nw, nk, nt, nl, nf, re, a1, a2, a3, a4, a5, a6, a7, a8, a9, a10, a11, a12, a13, a14, a15, a16, a17, a18⟩ := id h
  have hb := I_la_le a17
  have hw := a2.1
  refine ev_if (fun _ => ev_some h) (fun h1 => ?_)
  refine ev_bs ((mI hs).trans (congrArg some a5)) ?_
  refine ev_if (fun h2 => ?_) (fun _ => ev_some h)
  obtain ⟨i, hi, rfl⟩ := nI_get (x := x1) (n := nl) (by omega) h1 (Int32.not_le.mpr h2)
  refine ev_bs (mP38 hs) ?_
  refine ev_bs (mV30 hs (by omega)) ?_
  exact ev_some h
theorem md_came {c : Nat} {τ : fr_S} (h : MI c τ) (x1 : Int32) : ev (m_Md_came c x1 τ) (fun q => MI c q.2) := by
  unfold m_Md_came
  refine ev_bs (mSI h.1) ?_
  have h := M_code (v := 0) h
  generalize pI τ 1 c 0 = τ at h ⊢
  obtain ⟨hs, np, nw, nk, nt, nl, nf, re, a1, a2, a3, a4, a5, a6, a7, a8, a9, a10, a11, a12, a13, a14, a15, a16, a17, a18⟩ := id h
  have hb := I_to_le a16 a2.1
  refine ev_if (fun _ => ev_some h) (fun h1 => ?_)
  refine ev_bs ((mI hs).trans (congrArg some a4)) ?_
  refine ev_if (fun h2 => ?_) (fun _ => ev_some h)
  obtain ⟨i, hi, rfl⟩ := nI_get (x := x1) (n := nt) (by omega) h1 (Int32.not_le.mpr h2)
  refine ev_bs (mP37 hs) ?_
  refine ev_bs (mV29 hs (by omega)) ?_
  exact ev_some h
theorem md_barred {c : Nat} {τ : fr_S} (h : MI c τ) (x1 x2 : Int32) : ev (m_Md_barred c x1 x2 τ) (fun q => MI c q.2) := by
  unfold m_Md_barred
  refine ev_bs (mSI h.1) ?_
  have h := M_code (v := 0) h
  generalize pI τ 1 c 0 = τ at h ⊢
  obtain ⟨hs, np, nw, nk, nt, nl, nf, re, a1, a2, a3, a4, a5, a6, a7, a8, a9, a10, a11, a12, a13, a14, a15, a16, a17, a18⟩ := id h
  have hb := I_to_le a16 a2.1
  refine ev_if (fun _ => ev_some h) (fun h1 => ?_)
  refine ev_bs ((mI hs).trans (congrArg some a4)) ?_
  refine ev_if (fun h2 => ?_) (fun _ => ev_some h)
  obtain ⟨i, hi, rfl⟩ := nI_get (x := x1) (n := nt) (by omega) h1 (Int32.not_le.mpr h2)
  refine ev_if (fun _ => ?_) (fun _ => ?_)
  · refine ev_bs (mP35 hs) ?_
    refine ev_bs (mV27 hs (by omega)) ?_
    exact ev_some h
  · refine ev_if (fun _ => ?_) (fun _ => ev_some h)
    refine ev_bs (mP36 hs) ?_
    refine ev_bs (mV28 hs (by omega)) ?_
    exact ev_some h
theorem nI_m1 : (-1 : Int32) < 0 := by decide +kernel
theorem nI_100 (i k : Nat) : (100 * nI i) + nI k = nI (100 * i + k) := by rw [nI_lit100, pk_mul, nI_add]
theorem nI_6 (i k : Nat) : (6 * nI i) + nI k = nI (6 * i + k) := by rw [nI_lit6, pk_mul, nI_add]
/-- arrays that the invariant doesn't speak of -/
theorem MI_pA {c a : Nat} {τ : fr_S} {u : Nat → Int32} (h : MI c τ) (ha : a = 1 ∨ a = 2 ∨ a = 10 ∨ a = 11 ∨ a = 12 ∨ a = 21 ∨ a = 22 ∨ a = 29 ∨ a = 31 ∨ a = 32) : MI c (pA τ (c + a) u) := by
  obtain ⟨hs, np, nw, nk, nt, nl, nf, re, hI⟩ := h
  refine ⟨hs, np, nw, nk, nt, nl, nf, re, ?_⟩
  rcases ha with rfl | rfl | rfl | rfl | rfl | rfl | rfl | rfl | rfl | rfl <;> simpa [M_I, gV_pAx, gI_pA] using hI
theorem I_pl_lead {np i : Nat} {ho ra le : Nat → Int32} {v : Int32} (h : I_pl np ho ra le) (hv : v = -1 ∨ ∃ j, j < np ∧ v = nI j) : I_pl np ho ra (upd le i v) := by
  intro k hk
  obtain ⟨g1, g2, g3⟩ := h k hk
  refine ⟨g1, g2, ?_⟩
  by_cases hki : k = i
  · subst hki
    rw [upd_s]
    exact hv
  · rw [upd_n hki]
    exact g3
theorem md_B93 {c i : Nat} {τ : fr_S} (h : MI c τ) (hi : i < 16) (y2 y3 : Int32) : ev (m_Md_does_B93 c (nI i) y2 y3 τ) (fun q => MI c q.2) := by
  unfold m_Md_does_B93
  refine ev_if (fun _ => ?_) (fun _ => ev_some h)
  refine ev_bs (mP20 h.1) ?_
  refine ev_if (fun _ => ?_) (fun _ => ?_)
  · refine ev_bs (mS12 h.1 hi) ?_
    exact ev_some (MI_pA h (by decide))
  · refine ev_bs (mS12 h.1 hi) ?_
    exact ev_some (MI_pA h (by decide))
theorem md_B73 {c i : Nat} {τ : fr_S} (h : MI c τ) (hi : i < 16) (y2 y3 : Int32) : ev (m_Md_does_B73 c (nI i) y2 y3 τ) (fun q => MI c q.2) := by
  unfold m_Md_does_B73
  refine ev_if (fun _ => ?_) (fun _ => md_B93 h hi y2 y3)
  refine ev_bs (mP19 h.1) ?_
  refine ev_if (fun _ => ?_) (fun _ => ?_)
  · refine ev_bs (mS11 h.1 hi) ?_
    exact md_B93 (MI_pA h (by decide)) hi y2 y3
  · refine ev_bs (mS11 h.1 hi) ?_
    exact md_B93 (MI_pA h (by decide)) hi y2 y3
theorem md_B61 {c i : Nat} {τ : fr_S} (h : MI c τ) (hi : i < 16) (y2 y3 : Int32) (hy : y2 = 1 → y3 = -1 ∨ ∃ n j, gI τ 6 c = nI n ∧ n ≤ 16 ∧ j < n ∧ y3 = nI j) : ev (m_Md_does_B61 c (nI i) y2 y3 τ) (fun q => MI c q.2) := by
  unfold m_Md_does_B61
  refine ev_if (fun h1 => ?_) (fun _ => md_B73 h hi y2 y3)
  obtain ⟨hs, np, nw, nk, nt, nl, nf, re, a1, a2, a3, a4, a5, a6, a7, a8, a9, a10, a11, a12, a13, a14, a15, a16, a17, a18⟩ := id h
  refine ev_bs (mP14 hs) ?_
  refine ev_bs (mS6 hs hi) ?_
  have hv : y3 = -1 ∨ ∃ j, j < np ∧ y3 = nI j := by
    rcases hy h1 with g | ⟨n, j, g1, g2, g3, g4⟩
    · exact Or.inl g
    · have hn : n = np := nI_inj (by omega) (by have := a1.1; omega) (g1.symm.trans a1.2)
      exact Or.inr ⟨j, by omega, g4⟩
  have h2 : MI c (pA τ (c + 6) (upd (gV τ (c + 6)) i y3)) := ⟨hs, np, nw, nk, nt, nl, nf, re, (by simpa [gV_pI, gV_pAx, gI_pA, gI_pIx] using a1), (by simpa [gV_pI, gV_pAx, gI_pA, gI_pIx] using a2), (by simpa [gV_pI, gV_pAx, gI_pA, gI_pIx] using a3), (by simpa [gV_pI, gV_pAx, gI_pA, gI_pIx] using a4), (by simpa [gV_pI, gV_pAx, gI_pA, gI_pIx] using a5), (by simpa [gV_pI, gV_pAx, gI_pA, gI_pIx] using a6), (by simpa [gV_pI, gV_pAx, gI_pA, gI_pIx] using a7), (by simpa [gV_pAx] using I_pl_lead (i := i) a8 hv), (by simpa [gV_pI, gV_pAx, gI_pA, gI_pIx] using a9), (by simpa [gV_pI, gV_pAx, gI_pA, gI_pIx] using a10), (by simpa [gV_pI, gV_pAx, gI_pA, gI_pIx] using a11), (by simpa [gV_pI, gV_pAx, gI_pA, gI_pIx] using a12), (by simpa [gV_pI, gV_pAx, gI_pA, gI_pIx] using a13), (by simpa [gV_pI, gV_pAx, gI_pA, gI_pIx] using a14), (by simpa [gV_pI, gV_pAx, gI_pA, gI_pIx] using a15), (by simpa [gV_pI, gV_pAx, gI_pA, gI_pIx] using a16), (by simpa [gV_pI, gV_pAx, gI_pA, gI_pIx] using a17), (by simpa [gV_pI, gV_pAx, gI_pA, gI_pIx] using a18)⟩
  exact md_B73 h2 hi y2 y3
theorem md_B42 {c i : Nat} {τ : fr_S} (h : MI c τ) (hi : i < 16) (y2 y3 : Int32) (hy : y2 = 1 → y3 = -1 ∨ ∃ n j, gI τ 6 c = nI n ∧ n ≤ 16 ∧ j < n ∧ y3 = nI j) : ev (m_Md_does_B42 c (nI i) y2 y3 τ) (fun q => MI c q.2) := by
  unfold m_Md_does_B42
  refine ev_if (fun _ => ?_) (fun _ => md_B61 h hi y2 y3 hy)
  refine ev_bs (mP18 h.1) ?_
  refine ev_if (fun _ => ?_) (fun _ => ?_)
  · refine ev_bs (mS10 h.1 hi) ?_
    exact md_B61 (MI_pA h (by decide)) hi y2 y3 hy
  · refine ev_bs (mS10 h.1 hi) ?_
    exact md_B61 (MI_pA h (by decide)) hi y2 y3 hy
theorem md_does {c : Nat} {τ : fr_S} (h : MI c τ) (x1 x2 x3 : Int32) : ev (m_Md_does c x1 x2 x3 τ) (fun q => MI c q.2) := by
  unfold m_Md_does
  refine ev_bs (mSI h.1) ?_
  have h := M_code (v := 0) h
  generalize pI τ 1 c 0 = τ at h ⊢
  obtain ⟨hs, np, nw, nk, nt, nl, nf, re, a1, a2, a3, a4, a5, a6, a7, a8, a9, a10, a11, a12, a13, a14, a15, a16, a17, a18⟩ := id h
  refine ev_bs (mK hs) ?_
  refine ev_b (md_isPlace hs a1 x1) (fun r hr => ?_)
  refine ev_if (fun _ => ev_some h) (fun hr0 => ?_)
  rcases hr with hr | ⟨-, i, hi, rfl⟩
  · exact absurd hr.1 hr0
  have hnp := a1.1
  refine ev_if (fun _ => ev_some h) (fun _ => ?_)
  refine ev_if (fun _ => ev_some h) (fun _ => ?_)
  refine ev_if (fun h1 => ?_) (fun h1 => md_B42 h (by omega) x2 x3 (fun z => absurd z h1))
  refine ev_if (fun h2 => md_B42 h (by omega) x2 x3 (fun _ => Or.inl h2)) (fun _ => ?_)
  refine ev_bs (mK hs) ?_
  refine ev_b (md_isPlace hs a1 x3) (fun r2 hr2 => ?_)
  refine ev_if (fun _ => ev_some h) (fun hr20 => ?_)
  rcases hr2 with hr2 | ⟨-, j, hj, rfl⟩
  · exact absurd hr2.1 hr20
  exact md_B42 h (by omega) x2 _ (fun _ => Or.inr ⟨np, j, a1.2, a1.1, hj, rfl⟩)
/-- the digest of a row -/
def dg_n (s b : Int32) : Int32 := ((((s ^^^ b) <<< (5 &&& 31)) ||| (fr_ushr (s ^^^ b) 27)) * (-2048144777))
def dg (f : Nat → Int32) : Nat → Int32
  | 0 => 0
  | n + 1 => dg_n (dg f n) (f n)
theorem md_digest_L {c i np sz : Nat} {τ : fr_S} (hs : Sm c τ) (h1 : np ≤ 16 ∧ gI τ 6 c = nI np) (hi : i < np) (hz : sz ≤ 100 ∧ gV τ (c + 5) i = nI sz) : ∀ (n k : Nat), k ≤ sz → sz - k < n → ev (m_Md_digest_L9 n c (nI i) (dg (fun k => gV τ (c + 9) (100 * i + k)) k) (nI k) τ) (fun q => q = (dg (fun k => gV τ (c + 9) (100 * i + k)) sz, τ)) := by
  intro n
  induction n with
  | zero => intro k _ h; omega
  | succ n ih =>
    intro k hk hn
    unfold m_Md_digest_L9
    refine ev_bs (mK hs) ?_
    refine ev_b (md_isPlace hs h1 (nI i)) (fun r hr => ?_)
    have hnp := h1.1
    rcases hr with ⟨-, hr⟩ | ⟨rfl, -⟩
    · exact absurd ⟨nI_pos (by omega), nI_ge hi (by omega)⟩ hr
    refine ev_if (fun z => absurd z (by decide)) (fun _ => ?_)
    refine ev_bs (mP13 hs) ?_
    refine ev_bs ((mV5 hs (by omega)).trans (congrArg some hz.2)) ?_
    refine ev_if (fun z => ?_) (fun z => ?_)
    · rw [nI_leI (by omega) (by omega)] at z
      have hks : k = sz := by omega
      subst hks
      exact ev_some rfl
    · rw [nI_leI (by omega) (by omega)] at z
      refine ev_bs (mP17 hs) ?_
      rw [nI_100]
      refine ev_bs (mV9 hs (by omega)) ?_
      refine ev_bs (a := dg (fun k => gV τ (c + 9) (100 * i + k)) (k + 1)) rfl ?_
      rw [nI_1]
      exact ih (k + 1) (by omega) (by omega)
theorem md_digest {c : Nat} {τ : fr_S} (h : MI c τ) (x1 : Int32) : ev (m_Md_digest c x1 τ) (fun q => MI c q.2) := by
  unfold m_Md_digest
  refine ev_bs (mSI h.1) ?_
  have h := M_code (v := 0) h
  generalize pI τ 1 c 0 = τ at h ⊢
  obtain ⟨hs, np, nw, nk, nt, nl, nf, re, a1, a2, a3, a4, a5, a6, a7, a8, a9, a10, a11, a12, a13, a14, a15, a16, a17, a18⟩ := id h
  have hnp := a1.1
  by_cases hx : ¬ x1 < 0 ∧ ¬ nI np ≤ x1
  · obtain ⟨i, hi, rfl⟩ := nI_get (x := x1) (n := np) (by omega) hx.1 hx.2
    obtain ⟨⟨sz, g1, g2⟩, -⟩ := a9 i (by omega)
    have key := md_digest_L hs a1 hi ⟨g1, g2⟩ 1000 0 (by omega) (by omega)
    rw [nI_0] at key
    exact ev_mono key (fun q hq => by rw [hq]; exact h)
  · unfold m_Md_digest_L9
    refine ev_bs (mK hs) ?_
    refine ev_b (md_isPlace hs a1 x1) (fun r hr => ?_)
    rcases hr with ⟨rfl, -⟩ | ⟨-, j, hj, rfl⟩
    · refine ev_if (fun _ => ev_some h) (fun z => absurd rfl z)
    · exact absurd ⟨nI_pos (by omega), nI_ge hj (by omega)⟩ hx
theorem byte_of (z : Int64) : ∃ x, x < 256 ∧ (z &&& 255).toInt32 = nI x := by
  refine ⟨(z &&& 255).toBitVec.toNat, ?_, ?_⟩
  · have h : (z &&& 255).toBitVec = z.toBitVec &&& 255#64 := rfl
    rw [h, BitVec.toNat_and]
    exact Nat.lt_of_le_of_lt Nat.and_le_right (by decide)
  · apply Int32.toBitVec_inj.mp
    rw [Int64.toBitVec_toInt32]
    apply BitVec.eq_of_toNat_eq
    rw [BitVec.signExtend_eq_setWidth_of_le _ (by decide), BitVec.toNat_setWidth]
    have h2 : (nI (z &&& 255).toBitVec.toNat).toBitVec = BitVec.ofNat 32 (z &&& 255).toBitVec.toNat := rfl
    rw [h2, BitVec.toNat_ofNat]
theorem I_by_upd {n k x : Nat} {f : Nat → Int32} (h : I_by n f) (hx : x < 256) : I_by n (upd f k (nI x)) := by
  intro j hj
  by_cases hjk : j = k
  · subst hjk
    exact ⟨x, hx, upd_s⟩
  · rw [upd_n hjk]
    exact h j hj
theorem I_sz_size {i s : Nat} {si cu cb : Nat → Int32} (hI : I_sz si cu cb) (hn : s ≤ 100) : I_sz (upd si i (nI s)) cu cb := by
  intro k hk
  obtain ⟨g1, g2, g3⟩ := hI k hk
  by_cases hki : k = i
  · subst hki
    exact ⟨⟨s, hn, upd_s⟩, g2, g3⟩
  · rw [upd_n hki]
    exact ⟨g1, g2, g3⟩
theorem nI_r {r : Nat} (h : 0 < r) : nI r + (-1) = nI (r - 1) := by
  obtain ⟨q, rfl⟩ : ∃ q, r = q + 1 := ⟨r - 1, by omega⟩
  exact pk_m1 q
theorem md_content_L {c i : Nat} (w : Int64) (hi : i < 16) : ∀ (n r : Nat) (s : Nat) (τ : fr_S), MI c τ → gV τ (c + 5) i = nI s → s + r ≤ 100 → r < n → ev (m_Md_content_L48 n c (nI i) w (nI r + (-1)) τ) (fun q => MI c q.2) := by
  intro n
  induction n with
  | zero => intro r s τ _ _ _ h; omega
  | succ n ih =>
    intro r s τ h hz hsr hn
    unfold m_Md_content_L48
    cases r with
    | zero =>
      refine ev_if (fun _ => ev_some h) (fun z => absurd (by rw [nI_0]; decide) z)
    | succ r =>
      rw [pk_m1 r]
      refine ev_if (fun z => absurd z (nI_pos (by omega))) (fun _ => ?_)
      obtain ⟨hs, np, nw, nk, nt, nl, nf, re, a1, a2, a3, a4, a5, a6, a7, a8, a9, a10, a11, a12, a13, a14, a15, a16, a17, a18⟩ := id h
      refine ev_bs (mP17 hs) ?_
      refine ev_bs (mP13 hs) ?_
      refine ev_bs ((mV5 hs hi).trans (congrArg some hz)) ?_
      rw [nI_100]
      obtain ⟨x, hx, hxe⟩ := byte_of (w >>> ((8 * nI r).toInt64 &&& 63))
      rw [hxe]
      refine ev_bs (mS9 hs (by omega)) ?_
      refine ev_bs (mP13 hs) ?_
      have hz2 : gV (pA τ (c + 9) (upd (gV τ (c + 9)) (100 * i + s) (nI x))) (c + 5) i = nI s := by simpa [gV_pAx] using hz
      refine ev_bs (Eq.trans (mV5 hs hi) (congrArg some hz2)) ?_
      refine ev_bs (mS5 hs hi) ?_
      rw [nI_1]
      refine ih r (s + 1) _ ⟨hs, np, nw, nk, nt, nl, nf, re, (by simpa [gV_pI, gV_pAx, gI_pA, gI_pIx] using a1), (by simpa [gV_pI, gV_pAx, gI_pA, gI_pIx] using a2), (by simpa [gV_pI, gV_pAx, gI_pA, gI_pIx] using a3), (by simpa [gV_pI, gV_pAx, gI_pA, gI_pIx] using a4), (by simpa [gV_pI, gV_pAx, gI_pA, gI_pIx] using a5), (by simpa [gV_pI, gV_pAx, gI_pA, gI_pIx] using a6), (by simpa [gV_pI, gV_pAx, gI_pA, gI_pIx] using a7), (by simpa [gV_pI, gV_pAx, gI_pA, gI_pIx] using a8), (by simpa [gV_pAx] using I_sz_size (i := i) (s := s + 1) a9 (by omega)), (by simpa [gV_pAx] using I_by_upd (k := 100 * i + s) a10 hx), (by simpa [gV_pI, gV_pAx, gI_pA, gI_pIx] using a11), (by simpa [gV_pI, gV_pAx, gI_pA, gI_pIx] using a12), (by simpa [gV_pI, gV_pAx, gI_pA, gI_pIx] using a13), (by simpa [gV_pI, gV_pAx, gI_pA, gI_pIx] using a14), (by simpa [gV_pI, gV_pAx, gI_pA, gI_pIx] using a15), (by simpa [gV_pI, gV_pAx, gI_pA, gI_pIx] using a16), (by simpa [gV_pI, gV_pAx, gI_pA, gI_pIx] using a17), (by simpa [gV_pI, gV_pAx, gI_pA, gI_pIx] using a18)⟩ ?_ (by omega) (by omega)
      simp [gV_pAx, upd_s]
theorem nI_ple {s x : Nat} (hs : s ≤ 100) (hx : x ≤ 8) (h : nI s + nI x ≤ 100) : s + x ≤ 100 := by
  rw [nI_add, nI_lit100, nI_leI (by omega) (by omega)] at h
  exact h
theorem md_content {c : Nat} {τ : fr_S} (h : MI c τ) (x1 : Int32) (x2 : Int64) (x4 : Int32) : ev (m_Md_content c x1 x2 x4 τ) (fun q => MI c q.2) := by
  unfold m_Md_content
  refine ev_bs (mSI h.1) ?_
  have h := M_code (v := 0) h
  generalize pI τ 1 c 0 = τ at h ⊢
  obtain ⟨hs, np, nw, nk, nt, nl, nf, re, a1, a2, a3, a4, a5, a6, a7, a8, a9, a10, a11, a12, a13, a14, a15, a16, a17, a18⟩ := id h
  refine ev_bs (mK hs) ?_
  refine ev_b (md_isPlace hs a1 x1) (fun r hr => ?_)
  refine ev_if (fun _ => ev_some h) (fun hr0 => ?_)
  rcases hr with hr | ⟨-, i, hi, rfl⟩
  · exact absurd hr.1 hr0
  have hnp := a1.1
  refine ev_if (fun _ => ev_some h) (fun h1 => ?_)
  refine ev_if (fun _ => ev_some h) (fun h8 => ?_)
  obtain ⟨q, hq1, hq8, rfl⟩ := nI_rng (x := x4) (lo := 1) (hi := 8) (by rw [← nI_lit1]; exact h1) (by rw [← nI_lit8]; exact Int32.not_lt.mp h8) (by decide) (by decide)
  obtain ⟨⟨sz, g1, g2⟩, -⟩ := a9 i (by omega)
  refine ev_bs (mP13 hs) ?_
  refine ev_bs ((mV5 hs (by omega)).trans (congrArg some g2)) ?_
  refine ev_if (fun hle => ?_) (fun _ => ev_some h)
  have hle := nI_ple g1 hq8 hle
  have e1 : nI q - 1 = nI q + (-1) := by
    rw [nI_r (by omega)]
    obtain ⟨q', rfl⟩ : ∃ q', q = q' + 1 := ⟨q - 1, by omega⟩
    exact nI_pred q'
  rw [e1]
  exact md_content_L x2 (by omega) 1000 q sz τ h g2 (by omega) (by omega)
/-! from: a want's places -/
theorem I_wp_add {np j m p : Nat} {pm po : Nat → Int32} (h : I_wp np pm po) (hm : pm j = nI m) (hm6 : m < 6) (hp : p < np) : I_wp np (upd pm j (nI (m + 1))) (upd po (6 * j + m) (nI p)) := by
  intro i hi
  obtain ⟨m', g1, g2, g3⟩ := h i hi
  by_cases hij : i = j
  · subst hij
    have hmm : m' = m := nI_inj (by omega) (by omega) (g2.symm.trans hm)
    subst hmm
    refine ⟨m' + 1, by omega, upd_s, fun k hk => ?_⟩
    by_cases hkm : k = m'
    · subst hkm
      exact ⟨p, hp, upd_s⟩
    · rw [upd_n (show 6 * i + k ≠ 6 * i + m' by omega)]
      exact g3 k (by omega)
  · refine ⟨m', g1, by rw [upd_n hij]; exact g2, fun k hk => ?_⟩
    rw [upd_n (show 6 * i + k ≠ 6 * j + m by omega)]
    exact g3 k hk
theorem I_ws_pm {nw re j : Nat} {pm st at_ ha fa : Nat → Int32} {v : Int32} (h : I_ws nw re pm st at_ ha fa) (hst : st j = 0) : I_ws nw re (upd pm j v) st at_ ha fa := by
  intro i hi
  obtain ⟨⟨s, g1, g2, g3⟩, g4⟩ := h i hi
  refine ⟨⟨s, g1, g2, fun hb => ?_⟩, g4⟩
  by_cases hij : i = j
  · subst hij
    have hs0 : s = 0 := nI_inj (by omega) (by omega) (g2.symm.trans (hst.trans nI_0.symm))
    omega
  · rw [upd_n hij]
    exact g3 hb
theorem I_to_from {np nw nt j m p : Nat} {ba pm po st at_ tw tp : Nat → Int32} (h : I_to np nw nt ba pm po st at_ tw tp) (hm : pm j = nI m) (hm6 : m < 6) (hst : st j = 0) : I_to np nw nt ba (upd pm j (nI (m + 1))) (upd po (6 * j + m) (nI p)) st at_ tw tp := by
  refine ⟨fun i hi => ?_, h.2⟩
  obtain ⟨w, k, m', q, g1, g2, g3, g4, g5, g6, g7, g8, g9, g10⟩ := h.1 i hi
  by_cases hwj : w = j
  · subst hwj
    have hmm : m' = m := nI_inj (by omega) (by omega) (g3.symm.trans hm)
    subst hmm
    refine ⟨w, k, m' + 1, q, g1, by omega, upd_s, by omega, g5, ?_, g7, g8, g9, fun hb => ?_⟩
    · rw [upd_n (show 6 * w + k ≠ 6 * w + m' by omega)]
      exact g6
    · rw [hst] at hb
      exact absurd hb (by decide)
  · refine ⟨w, k, m', q, g1, g2, by rw [upd_n hwj]; exact g3, g4, g5, ?_, g7, g8, g9, fun hb a ha hal => ?_⟩
    · rw [upd_n (show 6 * w + k ≠ 6 * j + m by omega)]
      exact g6
    · rw [upd_n (show 6 * w + a ≠ 6 * j + m by omega)]
      exact g10 hb a ha hal
theorem md_from_L {c j p m : Nat} {τ : fr_S} (h : MI c τ) (hj : j < 10) (hst : gV τ (c + 17) j = 0) (hm : gV τ (c + 15) j = nI m) (hm6 : m < 6) (hp : ∃ n, gI τ 6 c = nI n ∧ n ≤ 16 ∧ p < n) : ∀ (n k : Nat), k ≤ m → m - k < n → ev (m_Md_from_L45 n c (nI j) (nI p) (nI k) τ) (fun q => MI c q.2) := by
  obtain ⟨hs, np, nw, nk, nt, nl, nf, re, a1, a2, a3, a4, a5, a6, a7, a8, a9, a10, a11, a12, a13, a14, a15, a16, a17, a18⟩ := id h
  obtain ⟨n0, p1, p2, p3⟩ := hp
  have hn0 : n0 = np := nI_inj (by omega) (by have := a1.1; omega) (p1.symm.trans a1.2)
  subst hn0
  intro n
  induction n with
  | zero => intro k _ hn; omega
  | succ n ih =>
    intro k hk hn
    unfold m_Md_from_L45
    refine ev_bs (mP23 hs) ?_
    refine ev_bs ((mV15 hs hj).trans (congrArg some hm)) ?_
    refine ev_if (fun z => ?_) (fun z => ?_)
    · refine ev_bs (mP24 hs) ?_
      refine ev_bs (mP23 hs) ?_
      refine ev_bs ((mV15 hs hj).trans (congrArg some hm)) ?_
      rw [nI_6]
      refine ev_bs (mS16 hs (by omega)) ?_
      refine ev_bs (mP23 hs) ?_
      have hm2 : gV (pA τ (c + 16) (upd (gV τ (c + 16)) (6 * j + m) (nI p))) (c + 15) j = nI m := by simpa [gV_pAx] using hm
      refine ev_bs (Eq.trans (mV15 hs hj) (congrArg some hm2)) ?_
      refine ev_bs (mS15 hs hj) ?_
      rw [nI_1]
      refine ev_some ⟨hs, n0, nw, nk, nt, nl, nf, re, (by simpa [gV_pI, gV_pAx, gI_pA, gI_pIx] using a1), (by simpa [gV_pI, gV_pAx, gI_pA, gI_pIx] using a2), (by simpa [gV_pI, gV_pAx, gI_pA, gI_pIx] using a3), (by simpa [gV_pI, gV_pAx, gI_pA, gI_pIx] using a4), (by simpa [gV_pI, gV_pAx, gI_pA, gI_pIx] using a5), (by simpa [gV_pI, gV_pAx, gI_pA, gI_pIx] using a6), (by simpa [gV_pI, gV_pAx, gI_pA, gI_pIx] using a7), (by simpa [gV_pI, gV_pAx, gI_pA, gI_pIx] using a8), (by simpa [gV_pI, gV_pAx, gI_pA, gI_pIx] using a9), (by simpa [gV_pI, gV_pAx, gI_pA, gI_pIx] using a10), (by simpa [gV_pAx] using I_wp_add a11 hm hm6 p3), (by simpa [gV_pAx] using I_ws_pm (v := nI (m + 1)) a12 hst), (by simpa [gV_pI, gV_pAx, gI_pA, gI_pIx] using a13), (by simpa [gV_pI, gV_pAx, gI_pA, gI_pIx] using a14), (by simpa [gV_pI, gV_pAx, gI_pA, gI_pIx] using a15), (by simpa [gV_pAx] using I_to_from (p := p) a16 hm hm6 hst), (by simpa [gV_pI, gV_pAx, gI_pA, gI_pIx] using a17), (by simpa [gV_pI, gV_pAx, gI_pA, gI_pIx] using a18)⟩
    · rw [nI_leI (by omega) (by omega)] at z
      refine ev_bs (mP24 hs) ?_
      rw [nI_6]
      refine ev_bs (mV16 hs (by omega)) ?_
      refine ev_if (fun _ => ev_some h) (fun _ => ?_)
      rw [nI_1]
      exact ih (k + 1) (by omega) (by omega)
theorem md_from {c : Nat} {τ : fr_S} (h : MI c τ) (x1 x2 : Int32) : ev (m_Md_from c x1 x2 τ) (fun q => MI c q.2) := by
  unfold m_Md_from
  refine ev_bs (mSI h.1) ?_
  have h := M_code (v := 0) h
  generalize pI τ 1 c 0 = τ at h ⊢
  obtain ⟨hs, np, nw, nk, nt, nl, nf, re, a1, a2, a3, a4, a5, a6, a7, a8, a9, a10, a11, a12, a13, a14, a15, a16, a17, a18⟩ := id h
  refine ev_bs (mK hs) ?_
  refine ev_b (md_isWant hs a2 x1) (fun r hr => ?_)
  refine ev_if (fun _ => ev_some h) (fun hr0 => ?_)
  rcases hr with hr | ⟨-, j, hj, rfl⟩
  · exact absurd hr.1 hr0
  refine ev_bs (mK hs) ?_
  refine ev_b (md_isPlace hs a1 x2) (fun r hr => ?_)
  refine ev_if (fun _ => ev_some h) (fun hr0 => ?_)
  rcases hr with hr | ⟨-, p, hp, rfl⟩
  · exact absurd hr.1 hr0
  have hnp := a1.1
  have hnw := a2.1
  refine ev_bs (mP25 hs) ?_
  refine ev_bs (mV17 hs (by omega)) ?_
  refine ev_if (fun hst => ?_) (fun _ => ev_some h)
  obtain ⟨m, g1, g2, g3⟩ := a11 j (by omega)
  refine ev_bs (mP23 hs) ?_
  refine ev_bs ((mV15 hs (by omega)).trans (congrArg some g2)) ?_
  refine ev_if (fun _ => ev_some h) (fun h6 => ?_)
  have hm6 : m < 6 := by
    have h9 : ¬ m = 6 := fun z => h6 (by rw [z]; exact nI_lit6.symm)
    omega
  have key := md_from_L (p := p) h (by omega) hst g2 hm6 ⟨np, a1.2, a1.1, hp⟩ 1000 0 (by omega) (by omega)
  rw [nI_0] at key
  exact key
theorem md_byteOf {c : Nat} {τ : fr_S} (h : MI c τ) (x1 x2 : Int32) : ev (m_Md_byteOf c x1 x2 τ) (fun q => MI c q.2) := by
  unfold m_Md_byteOf
  refine ev_bs (mSI h.1) ?_
  have h := M_code (v := 0) h
  generalize pI τ 1 c 0 = τ at h ⊢
  obtain ⟨hs, np, nw, nk, nt, nl, nf, re, a1, a2, a3, a4, a5, a6, a7, a8, a9, a10, a11, a12, a13, a14, a15, a16, a17, a18⟩ := id h
  refine ev_bs (mK hs) ?_
  refine ev_b (md_isWant hs a2 x1) (fun r hr => ?_)
  refine ev_if (fun _ => ev_some h) (fun hr0 => ?_)
  rcases hr with hr | ⟨-, j, hj, rfl⟩
  · exact absurd hr.1 hr0
  have hnw := a2.1
  refine ev_if (fun _ => ev_some h) (fun h2 => ?_)
  obtain ⟨-, ⟨n, g1, g2⟩, -⟩ := a12 j (by omega)
  refine ev_bs (mP27 hs) ?_
  refine ev_bs ((mV19 hs (by omega)).trans (congrArg some g2)) ?_
  refine ev_if (fun h3 => ?_) (fun _ => ev_some h)
  obtain ⟨i, hi, rfl⟩ := nI_get (x := x2) (n := n) (by omega) h2 (Int32.not_le.mpr h3)
  refine ev_bs (mP28 hs) ?_
  rw [nI_100]
  refine ev_bs (mV20 hs (by omega)) ?_
  exact ev_some h
theorem md_keptOf_L {c nk : Nat} {τ : fr_S} (hs : Sm c τ) (h3 : gI τ 8 c = nI nk) (hk10 : nk ≤ 10) (x : Int32) : ∀ (n i : Nat) (got : Int32), i ≤ nk → nk - i < n → ((got = -1 ∧ ∀ k, k < i → gV τ (c + 24) k ≠ x) ∨ ∃ k, k < i ∧ got = nI k ∧ gV τ (c + 24) k = x) → ev (m_Md_keptOf_L4 n c x got (nI i) τ) (fun r => (r = -1 ∧ ∀ k, k < nk → gV τ (c + 24) k ≠ x) ∨ ∃ k, k < nk ∧ r = nI k ∧ gV τ (c + 24) k = x) := by
  intro n
  induction n with
  | zero => intro i got _ h; omega
  | succ n ih =>
    intro i got hi hn hg
    unfold m_Md_keptOf_L4
    refine ev_bs ((mI hs).trans (congrArg some h3)) ?_
    refine ev_if (fun z => ?_) (fun z => ?_)
    · rw [nI_leI (by omega) (by omega)] at z
      have hin : i = nk := by omega
      subst hin
      exact ev_some hg
    · rw [nI_leI (by omega) (by omega)] at z
      refine ev_bs (mP32 hs) ?_
      refine ev_bs (mV24 hs (by omega)) ?_
      refine ev_if (fun he => ?_) (fun he => ?_)
      · rw [nI_1]
        exact ih (i + 1) (nI i) (by omega) (by omega) (Or.inr ⟨i, by omega, rfl, he⟩)
      · rw [nI_1]
        refine ih (i + 1) got (by omega) (by omega) ?_
        rcases hg with ⟨g1, g2⟩ | ⟨k, g1, g2, g3⟩
        · refine Or.inl ⟨g1, fun k hk => ?_⟩
          by_cases hki : k = i
          · subst hki; exact he
          · exact g2 k (by omega)
        · exact Or.inr ⟨k, by omega, g2, g3⟩
theorem md_keptOf {c nk : Nat} {τ : fr_S} (hs : Sm c τ) (h3 : gI τ 8 c = nI nk) (hk10 : nk ≤ 10) (x : Int32) : ev (m_Md_keptOf c x τ) (fun r => (r = -1 ∧ ∀ k, k < nk → gV τ (c + 24) k ≠ x) ∨ ∃ k, k < nk ∧ r = nI k ∧ gV τ (c + 24) k = x) := by
  unfold m_Md_keptOf
  have key := md_keptOf_L hs h3 hk10 x 1000 0 (-1) (Nat.zero_le _) (by omega) (Or.inl ⟨rfl, fun k hk => absurd hk (Nat.not_lt_zero k)⟩)
  rw [nI_0] at key
  exact key
theorem I_ws_go {nw re w s' k : Nat} {pm st at_ ha fa : Nat → Int32} (h : I_ws nw re pm (upd st w 4) at_ ha fa) (hw : w < nw) (hs : s' = 4 ∨ (s' = 1 ∧ ∃ m, m ≤ 6 ∧ pm w = nI m ∧ k < m)) : I_ws nw re pm (upd st w (nI s')) (upd at_ w (nI k)) (upd ha w 0) (upd fa w 0) := by
  intro j hj
  obtain ⟨⟨s, g1, g2, g3⟩, g4, g5⟩ := h j hj
  by_cases hjw : j = w
  · subst hjw
    refine ⟨⟨s', by omega, upd_s, fun hb => ?_⟩, ⟨0, Nat.zero_le _, upd_s.trans nI_0.symm⟩, ⟨0, Nat.zero_le _, upd_s.trans nI_0.symm⟩⟩
    rcases hs with hs | ⟨-, m, hm6, hm, hk⟩
    · omega
    · exact ⟨hw, m, k, hm6, hm, upd_s, hk⟩
  · rw [upd_n hjw] at g2
    rw [upd_n hjw, upd_n hjw, upd_n hjw, upd_n hjw]
    exact ⟨⟨s, g1, g2, g3⟩, g4, g5⟩
theorem I_to_go {np nw nt w s' k : Nat} {ba pm po st at_ tw tp : Nat → Int32} (h : I_to np nw nt ba pm po (upd st w 4) at_ tw tp) (hnp : np ≤ 16) (hk : k < 2 ^ 31) (hs : s' = 4 ∨ (s' = 1 ∧ ∃ p0, p0 < np ∧ po (6 * w + k) = nI p0 ∧ ba p0 = 0)) : I_to np nw nt ba pm po (upd st w (nI s')) (upd at_ w (nI k)) tw tp := by
  refine ⟨fun i hi => ?_, h.2⟩
  obtain ⟨w', k', m', q, g1, g2, g3, g4, g5, g6, g7, g8, g9, g10⟩ := h.1 i hi
  refine ⟨w', k', m', q, g1, g2, g3, g4, g5, g6, g7, g8, g9, fun hb a ha hal => ?_⟩
  by_cases hww : w' = w
  · subst hww
    rw [upd_s] at hb ha
    rcases hs with rfl | ⟨rfl, p0, hp0, hpo, hba⟩
    · exact absurd hb (by decide)
    · have hka : k = a := nI_inj hk (by omega) ha
      subst hka
      rw [hpo]
      intro he
      have hpq : p0 = q := nI_inj (by omega) (by omega) he
      subst hpq
      rw [hba] at g9
      exact absurd g9 (by decide)
  · rw [upd_n hww] at hb ha
    exact g10 (by rw [upd_n hww]; exact hb) a ha hal
theorem I_ws_4 {nw re w : Nat} {pm st at_ ha fa : Nat → Int32} (h : I_ws nw re pm st at_ ha fa) : I_ws nw re pm (upd st w 4) at_ ha fa := by
  intro j hj
  obtain ⟨⟨s, g1, g2, g3⟩, g4⟩ := h j hj
  by_cases hjw : j = w
  · subst hjw
    exact ⟨⟨4, by omega, upd_s, fun hb => by omega⟩, g4⟩
  · rw [upd_n hjw]
    exact ⟨⟨s, g1, g2, g3⟩, g4⟩
theorem I_to_4 {np nw nt w : Nat} {ba pm po st at_ tw tp : Nat → Int32} (h : I_to np nw nt ba pm po st at_ tw tp) : I_to np nw nt ba pm po (upd st w 4) at_ tw tp := by
  refine ⟨fun i hi => ?_, h.2⟩
  obtain ⟨w', k', m', q, g1, g2, g3, g4, g5, g6, g7, g8, g9, g10⟩ := h.1 i hi
  refine ⟨w', k', m', q, g1, g2, g3, g4, g5, g6, g7, g8, g9, fun hb a ha hal => ?_⟩
  by_cases hww : w' = w
  · subst hww
    rw [upd_s] at hb
    exact absurd hb (by decide)
  · rw [upd_n hww] at hb
    exact g10 hb a ha hal
/-- a want's state set aside -/
theorem MI_4 {c w : Nat} {τ : fr_S} (h : MI c τ) : MI c (pA τ (c + 17) (upd (gV τ (c + 17)) w 4)) := by
  obtain ⟨hs, np, nw, nk, nt, nl, nf, re, a1, a2, a3, a4, a5, a6, a7, a8, a9, a10, a11, a12, a13, a14, a15, a16, a17, a18⟩ := id h
  exact ⟨hs, np, nw, nk, nt, nl, nf, re, (by simpa [gV_pI, gV_pAx, gI_pA, gI_pIx] using a1), (by simpa [gV_pI, gV_pAx, gI_pA, gI_pIx] using a2), (by simpa [gV_pI, gV_pAx, gI_pA, gI_pIx] using a3), (by simpa [gV_pI, gV_pAx, gI_pA, gI_pIx] using a4), (by simpa [gV_pI, gV_pAx, gI_pA, gI_pIx] using a5), (by simpa [gV_pI, gV_pAx, gI_pA, gI_pIx] using a6), (by simpa [gV_pI, gV_pAx, gI_pA, gI_pIx] using a7), (by simpa [gV_pI, gV_pAx, gI_pA, gI_pIx] using a8), (by simpa [gV_pI, gV_pAx, gI_pA, gI_pIx] using a9), (by simpa [gV_pI, gV_pAx, gI_pA, gI_pIx] using a10), (by simpa [gV_pI, gV_pAx, gI_pA, gI_pIx] using a11), (by simpa [gV_pAx] using I_ws_4 (w := w) a12), (by simpa [gV_pI, gV_pAx, gI_pA, gI_pIx] using a13), (by simpa [gV_pI, gV_pAx, gI_pA, gI_pIx] using a14), (by simpa [gV_pI, gV_pAx, gI_pA, gI_pIx] using a15), (by simpa [gV_pAx] using I_to_4 (w := w) a16), (by simpa [gV_pI, gV_pAx, gI_pA, gI_pIx] using a17), (by simpa [gV_pI, gV_pAx, gI_pA, gI_pIx] using a18)⟩
theorem nI_v4 : nI 4 = 4 := by decide +kernel
theorem nI_v1 : nI 1 = 1 := by decide +kernel
theorem nI_v2 : nI 2 = 2 := by decide +kernel
theorem nI_v3 : nI 3 = 3 := by decide +kernel
theorem md_goOn_L {c w : Nat} {τ : fr_S} (h : MI c (pA τ (c + 17) (upd (gV τ (c + 17)) w 4))) (hw : ∃ n, gI τ 7 c = nI n ∧ n ≤ 10 ∧ w < n) (hh : gV τ (c + 19) w = 0) (hf : gV τ (c + 23) w = 0) : ∀ (n k : Nat), k ≤ 8 → 8 - k < n → ev (m_Md_goOn_L16 n c (nI w) (nI k) τ) (MI c) := by
  obtain ⟨hs, np, nw, nk, nt, nl, nf, re, a1, a2, a3, a4, a5, a6, a7, a8, a9, a10, a11, a12, a13, a14, a15, a16, a17, a18⟩ := id h
  have hs : Sm c τ := hs
  obtain ⟨n0, w1, w2, w3⟩ := hw
  have hn0 : n0 = nw := nI_inj (by omega) (by have := a2.1; omega) (w1.symm.trans a2.2)
  subst hn0
  have hnp := a1.1
  have a11' : I_wp np (gV τ (c + 15)) (gV τ (c + 16)) := by simpa [gV_pAx] using a11
  have a12' : I_ws n0 re (gV τ (c + 15)) (upd (gV τ (c + 17)) w 4) (gV τ (c + 18)) (gV τ (c + 19)) (gV τ (c + 23)) := by simpa [gV_pAx] using a12
  have a16' : I_to np n0 nt (gV τ (c + 13)) (gV τ (c + 15)) (gV τ (c + 16)) (upd (gV τ (c + 17)) w 4) (gV τ (c + 18)) (gV τ (c + 27)) (gV τ (c + 28)) := by simpa [gV_pAx] using a16
  obtain ⟨m, m1, m2, m3⟩ := a11' w (by omega)
  have e19 : upd (gV τ (c + 19)) w 0 = gV τ (c + 19) := by
    funext j
    by_cases hj : j = w
    · rw [hj, upd_s, hh]
    · rw [upd_n hj]
  have e23 : upd (gV τ (c + 23)) w 0 = gV τ (c + 23) := by
    funext j
    by_cases hj : j = w
    · rw [hj, upd_s, hf]
    · rw [upd_n hj]
  have fin : ∀ (k s' : Nat), k ≤ 8 → (s' = 4 ∨ (s' = 1 ∧ ∃ p0, p0 < np ∧ gV τ (c + 16) (6 * w + k) = nI p0 ∧ gV τ (c + 13) p0 = 0)) → (s' = 1 → k < m) → MI c (pA (pA τ (c + 18) (upd (gV τ (c + 18)) w (nI k))) (c + 17) (upd (gV τ (c + 17)) w (nI s'))) := by
    intro k s' hk8 hs1 hs2
    have b12 := I_ws_go (s' := s') (k := k) a12' w3 (by
      rcases hs1 with g | ⟨g, -⟩
      · exact Or.inl g
      · exact Or.inr ⟨g, m, m1, m2, hs2 g⟩)
    rw [e19, e23] at b12
    have b16 := I_to_go (s' := s') (k := k) a16' a1.1 (by omega) hs1
    exact ⟨hs, np, n0, nk, nt, nl, nf, re, (by simpa [gV_pI, gV_pAx, gI_pA, gI_pIx] using a1), (by simpa [gV_pI, gV_pAx, gI_pA, gI_pIx] using a2), (by simpa [gV_pI, gV_pAx, gI_pA, gI_pIx] using a3), (by simpa [gV_pI, gV_pAx, gI_pA, gI_pIx] using a4), (by simpa [gV_pI, gV_pAx, gI_pA, gI_pIx] using a5), (by simpa [gV_pI, gV_pAx, gI_pA, gI_pIx] using a6), (by simpa [gV_pI, gV_pAx, gI_pA, gI_pIx] using a7), (by simpa [gV_pI, gV_pAx, gI_pA, gI_pIx] using a8), (by simpa [gV_pI, gV_pAx, gI_pA, gI_pIx] using a9), (by simpa [gV_pI, gV_pAx, gI_pA, gI_pIx] using a10), (by simpa [gV_pI, gV_pAx, gI_pA, gI_pIx] using a11), (by simpa [gV_pAx] using b12), (by simpa [gV_pI, gV_pAx, gI_pA, gI_pIx] using a13), (by simpa [gV_pI, gV_pAx, gI_pA, gI_pIx] using a14), (by simpa [gV_pI, gV_pAx, gI_pA, gI_pIx] using a15), (by simpa [gV_pAx] using b16), (by simpa [gV_pI, gV_pAx, gI_pA, gI_pIx] using a17), (by simpa [gV_pI, gV_pAx, gI_pA, gI_pIx] using a18)⟩
  intro n
  induction n with
  | zero => intro k _ hn; omega
  | succ n ih =>
    intro k hk8 hn
    unfold m_Md_goOn_L16
    refine ev_bs (mP23 hs) ?_
    refine ev_bs ((mV15 hs (by omega)).trans (congrArg some m2)) ?_
    refine ev_if (fun z => ?_) (fun z => ?_)
    · refine ev_bs (mP26 hs) ?_
      refine ev_bs (mS18 hs (by omega)) ?_
      refine ev_bs (mP25 hs) ?_
      refine ev_bs (mP23 hs) ?_
      have m2' : gV (pA τ (c + 18) (upd (gV τ (c + 18)) w (nI k))) (c + 15) w = nI m := by simpa [gV_pAx] using m2
      refine ev_bs (Eq.trans (mV15 hs (by omega)) (congrArg some m2')) ?_
      refine ev_if (fun _ => ?_) (fun z' => absurd z z')
      refine ev_bs (mS17 hs (by omega)) ?_
      have key := fin k 4 hk8 (Or.inl rfl) (fun z => by omega)
      refine ev_some ?_
      simpa [gV_pAx, nI_v4] using key
    · rw [nI_leI (by omega) (by omega)] at z
      refine ev_bs (mP21 hs) ?_
      refine ev_bs (mP24 hs) ?_
      rw [nI_6]
      obtain ⟨p, p1, p2⟩ := m3 k (by omega)
      refine ev_bs ((mV16 hs (by omega)).trans (congrArg some p2)) ?_
      refine ev_bs (mV13 hs (by omega)) ?_
      refine ev_if (fun hb => ?_) (fun _ => ?_)
      · refine ev_bs (mP26 hs) ?_
        refine ev_bs (mS18 hs (by omega)) ?_
        refine ev_bs (mP25 hs) ?_
        refine ev_bs (mP23 hs) ?_
        have m2' : gV (pA τ (c + 18) (upd (gV τ (c + 18)) w (nI k))) (c + 15) w = nI m := by simpa [gV_pAx] using m2
        refine ev_bs (Eq.trans (mV15 hs (by omega)) (congrArg some m2')) ?_
        refine ev_if (fun z' => ?_) (fun _ => ?_)
        · rw [nI_leI (by omega) (by omega)] at z'
          omega
        · refine ev_bs (mS17 hs (by omega)) ?_
          have key := fin k 1 hk8 (Or.inr ⟨rfl, p, p1, p2, hb⟩) (fun _ => by omega)
          refine ev_some ?_
          simpa [gV_pAx, nI_v1] using key
      · rw [nI_1]
        exact ih (k + 1) (by omega) (by omega)
theorem md_goOn {c w f : Nat} {τ : fr_S} (h : MI c (pA τ (c + 17) (upd (gV τ (c + 17)) w 4))) (hw : ∃ n, gI τ 7 c = nI n ∧ n ≤ 10 ∧ w < n) (hf : f ≤ 8) : ev (m_Md_goOn c (nI w) (nI f) τ) (MI c) := by
  unfold m_Md_goOn
  have hs : Sm c τ := h.1
  obtain ⟨n0, w1, w2, w3⟩ := id hw
  refine ev_bs (mP27 hs) ?_
  refine ev_bs (mS19 hs (by omega)) ?_
  refine ev_bs (mP31 hs) ?_
  refine ev_bs (mS23 hs (by omega)) ?_
  refine md_goOn_L (w := w) ?_ (by exact hw) ?_ ?_ 1000 f hf (by omega)
  · obtain ⟨hs, np, nw, nk, nt, nl, nf, re, a1, a2, a3, a4, a5, a6, a7, a8, a9, a10, a11, a12, a13, a14, a15, a16, a17, a18⟩ := id h
    have b12 : I_ws nw re (gV τ (c + 15)) (upd (gV τ (c + 17)) w 4) (gV τ (c + 18)) (gV τ (c + 19)) (gV τ (c + 23)) := by simpa [gV_pAx] using a12
    exact ⟨hs, np, nw, nk, nt, nl, nf, re, (by simpa [gV_pI, gV_pAx, gI_pA, gI_pIx] using a1), (by simpa [gV_pI, gV_pAx, gI_pA, gI_pIx] using a2), (by simpa [gV_pI, gV_pAx, gI_pA, gI_pIx] using a3), (by simpa [gV_pI, gV_pAx, gI_pA, gI_pIx] using a4), (by simpa [gV_pI, gV_pAx, gI_pA, gI_pIx] using a5), (by simpa [gV_pI, gV_pAx, gI_pA, gI_pIx] using a6), (by simpa [gV_pI, gV_pAx, gI_pA, gI_pIx] using a7), (by simpa [gV_pI, gV_pAx, gI_pA, gI_pIx] using a8), (by simpa [gV_pI, gV_pAx, gI_pA, gI_pIx] using a9), (by simpa [gV_pI, gV_pAx, gI_pA, gI_pIx] using a10), (by simpa [gV_pI, gV_pAx, gI_pA, gI_pIx] using a11), (by
      have key : I_ws nw re (gV τ (c + 15)) (upd (gV τ (c + 17)) w 4) (gV τ (c + 18)) (upd (gV τ (c + 19)) w 0) (upd (gV τ (c + 23)) w 0) := by
        intro j hj
        obtain ⟨g1, g2, g3⟩ := b12 j hj
        by_cases hjw : j = w
        · subst hjw
          exact ⟨g1, ⟨0, Nat.zero_le _, upd_s.trans nI_0.symm⟩, ⟨0, Nat.zero_le _, upd_s.trans nI_0.symm⟩⟩
        · exact ⟨g1, by rw [upd_n hjw]; exact g2, by rw [upd_n hjw]; exact g3⟩
      simpa [gV_pAx] using key), (by simpa [gV_pI, gV_pAx, gI_pA, gI_pIx] using a13), (by simpa [gV_pI, gV_pAx, gI_pA, gI_pIx] using a14), (by simpa [gV_pI, gV_pAx, gI_pA, gI_pIx] using a15), (by simpa [gV_pI, gV_pAx, gI_pA, gI_pIx] using a16), (by simpa [gV_pI, gV_pAx, gI_pA, gI_pIx] using a17), (by simpa [gV_pI, gV_pAx, gI_pA, gI_pIx] using a18)⟩
  · simp [gV_pAx, upd_s]
  · simp [gV_pAx, upd_s]
