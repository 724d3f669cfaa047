theorem gK_pI {σ : fr_S} {f a b : Nat} {v : Int32} : gK (pI σ f a v) b = gK σ b := rfl
theorem gK_pA {σ : fr_S} {a b : Nat} {u : Nat → Int32} : gK (pA σ a u) b = gK σ b := rfl
theorem gP_pI {σ : fr_S} {f a g b : Nat} {v : Int32} : gP (pI σ f a v) g b = gP σ g b := rfl
theorem gP_pA {σ : fr_S} {a g b : Nat} {u : Nat → Int32} : gP (pA σ a u) g b = gP σ g b := rfl
theorem gQ_pI {σ : fr_S} {f a b : Nat} {v : Int32} : gQ (pI σ f a v) b = gQ σ b := rfl
theorem gQ_pA {σ : fr_S} {a b : Nat} {u : Nat → Int32} : gQ (pA σ a u) b = gQ σ b := rfl
theorem gI_pA {σ : fr_S} {a g b : Nat} {u : Nat → Int32} : gI (pA σ a u) g b = gI σ g b := rfl
theorem gV_pI {σ : fr_S} {f a b : Nat} {v : Int32} : gV (pI σ f a v) b = gV σ b := rfl
theorem gI_pIx {σ : fr_S} {f a g b : Nat} {v : Int32} : gI (pI σ f a v) g b = if g = f ∧ b = a then v else gI σ g b := rfl
theorem gV_pAx {σ : fr_S} {a b : Nat} {u : Nat → Int32} : gV (pA σ a u) b = if b = a then u else gV σ b := rfl
theorem gI_pIs {σ : fr_S} {f a : Nat} {v : Int32} : gI (pI σ f a v) f a = v := by rw [gI_pIx, if_pos ⟨rfl, rfl⟩]
theorem gI_pIf {σ : fr_S} {f a g b : Nat} {v : Int32} (h : g ≠ f) : gI (pI σ f a v) g b = gI σ g b := by rw [gI_pIx, if_neg (fun z => h z.1)]
theorem gI_pIa {σ : fr_S} {f a g b : Nat} {v : Int32} (h : b ≠ a) : gI (pI σ f a v) g b = gI σ g b := by rw [gI_pIx, if_neg (fun z => h z.2)]
theorem gV_pAs {σ : fr_S} {a : Nat} {u : Nat → Int32} : gV (pA σ a u) a = u := by rw [gV_pAx, if_pos rfl]
theorem gV_pAn {σ : fr_S} {a b : Nat} {u : Nat → Int32} (h : b ≠ a) : gV (pA σ a u) b = gV σ b := by rw [gV_pAx, if_neg h]
theorem oV_nI {σ : fr_S} {t a n i : Nat} (hk : gK σ a = some (.inr (t, n))) (hi : i < n) (hn : n < 2 ^ 31) : oV σ t a (nI i) = some (gV σ a i) := by
  unfold oV
  rw [hk]
  have h1 : (nI i).toNatClampNeg = i := nI_clamp (by omega)
  have h2 : ¬ (nI i < 0 ∨ n ≤ (nI i).toNatClampNeg) := nI_in hi hn
  rw [h1] at h2
  simp only [true_and, h1]
  rw [if_pos h2]
theorem sV_nI {σ : fr_S} {t a n i : Nat} {v : Int32} (hk : gK σ a = some (.inr (t, n))) (hi : i < n) (hn : n < 2 ^ 31) : sV σ t a (nI i) v = some (pA σ a (upd (gV σ a) i v)) := by
  unfold sV
  rw [hk]
  have h1 : (nI i).toNatClampNeg = i := nI_clamp (by omega)
  have h2 : ¬ (nI i < 0 ∨ n ≤ (nI i).toNatClampNeg) := nI_in hi hn
  rw [h1] at h2
  simp only [true_and, h1]
  rw [if_pos h2]
theorem oI_k {σ : fr_S} {ci f a : Nat} (hk : gK σ a = some (.inl ci)) : oI σ ci f a = some (gI σ f a) := if_pos hk
theorem sI_k {σ : fr_S} {ci f a : Nat} {v : Int32} (hk : gK σ a = some (.inl ci)) : sI σ ci f a v = some (pI σ f a v) := if_pos hk
theorem sZ_k {σ : fr_S} {ci f a : Nat} {v : Int32} (hk : gK σ a = some (.inl ci)) (hz : v = 0 ∨ v = 1) : sZ σ ci f a v = some (pI σ f a v) := if_pos ⟨hk, hz⟩
theorem oP_k {σ : fr_S} {ci f a : Nat} (hk : gK σ a = some (.inl ci)) : oP σ ci f a = gP σ f a := if_pos hk
theorem oK_k {σ : fr_S} {ci a : Nat} (hk : gK σ a = some (.inl ci)) : oK σ ci a = some () := if_pos hk
theorem upd_s {f : Nat → Int32} {k : Nat} {x : Int32} : upd f k x k = x := pk_us
theorem upd_n {f : Nat → Int32} {k j : Nat} {x : Int32} (h : j ≠ k) : upd f k x j = f j := pk_un h
theorem nar0 : vp_nar .boolean 0 = 0 := by decide +kernel
theorem nar1 : vp_nar .boolean 1 = 1 := by decide +kernel
/-! THE REFERENCE: where its arrays lie, how long they are -/
def md_A : Nat → Nat := fun f => match f with
  | 4 => 1
  | 5 => 2
  | 11 => 3
  | 12 => 4
  | 13 => 5
  | 14 => 6
  | 15 => 7
  | 16 => 8
  | 17 => 9
  | 18 => 10
  | 19 => 11
  | 20 => 12
  | 21 => 13
  | 22 => 14
  | 23 => 15
  | 24 => 16
  | 25 => 17
  | 26 => 18
  | 27 => 19
  | 28 => 20
  | 29 => 21
  | 30 => 22
  | 31 => 23
  | 32 => 24
  | 33 => 25
  | 34 => 26
  | 35 => 27
  | 36 => 28
  | 37 => 29
  | 38 => 30
  | 40 => 31
  | 41 => 32
  | 42 => 33
  | 43 => 34
  | _ => 0
def md_K : Nat → Nat × Nat := fun a => match a with
  | 1 => (1, 8)
  | 2 => (0, 8)
  | 3 => (0, 16)
  | 4 => (0, 16)
  | 5 => (0, 16)
  | 6 => (0, 16)
  | 7 => (0, 16)
  | 8 => (0, 16)
  | 9 => (0, 1600)
  | 10 => (1, 16)
  | 11 => (1, 16)
  | 12 => (1, 16)
  | 13 => (1, 16)
  | 14 => (0, 10)
  | 15 => (0, 10)
  | 16 => (0, 60)
  | 17 => (0, 10)
  | 18 => (0, 10)
  | 19 => (0, 10)
  | 20 => (0, 1000)
  | 21 => (0, 10)
  | 22 => (0, 10)
  | 23 => (0, 10)
  | 24 => (0, 10)
  | 25 => (0, 10)
  | 26 => (0, 1000)
  | 27 => (0, 400)
  | 28 => (0, 400)
  | 29 => (0, 400)
  | 30 => (0, 10)
  | 31 => (0, 40)
  | 32 => (0, 40)
  | 33 => (0, 40)
  | 34 => (0, 40)
  | _ => (0, 0)
def md_F : List Nat := [4, 5, 11, 12, 13, 14, 15, 16, 17, 18, 19, 20, 21, 22, 23, 24, 25, 26, 27, 28, 29, 30, 31, 32, 33, 34, 35, 36, 37, 38, 40, 41, 42, 43]
def Sm (c : Nat) (τ : fr_S) : Prop := gK τ c = some (.inl 0) ∧ (∀ f, f ∈ md_F → gP τ f c = some (c + md_A f)) ∧ ∀ a, 1 ≤ a → a ≤ 34 → gK τ (c + a) = some (.inr (md_K a))
theorem Sm_pA {c a : Nat} {τ : fr_S} {u : Nat → Int32} : Sm c (pA τ a u) = Sm c τ := rfl
theorem Sm_pI {c f a : Nat} {τ : fr_S} {v : Int32} : Sm c (pI τ f a v) = Sm c τ := rfl
theorem mI {c f : Nat} {τ : fr_S} (hs : Sm c τ) : oI τ 0 f c = some (gI τ f c) := oI_k hs.1
theorem mSI {c f : Nat} {τ : fr_S} {v : Int32} (hs : Sm c τ) : sI τ 0 f c v = some (pI τ f c v) := sI_k hs.1
theorem mSZ {c f : Nat} {τ : fr_S} {v : Int32} (hs : Sm c τ) (hz : v = 0 ∨ v = 1) : sZ τ 0 f c v = some (pI τ f c v) := sZ_k hs.1 hz
theorem mK {c : Nat} {τ : fr_S} (hs : Sm c τ) : oK τ 0 c = some () := oK_k hs.1
theorem mP4 {c : Nat} {τ : fr_S} (hs : Sm c τ) : oP τ 0 4 c = some (c + 1) := (oP_k hs.1).trans (hs.2.1 4 (by decide))
theorem mV1 {c i : Nat} {τ : fr_S} (hs : Sm c τ) (hi : i < 8) : oV τ 1 (c + 1) (nI i) = some (gV τ (c + 1) i) := oV_nI (n := 8) (hs.2.2 1 (by decide) (by decide)) hi (by decide)
theorem mS1 {c i : Nat} {τ : fr_S} {v : Int32} (hs : Sm c τ) (hi : i < 8) : sV τ 1 (c + 1) (nI i) v = some (pA τ (c + 1) (upd (gV τ (c + 1)) i v)) := sV_nI (n := 8) (hs.2.2 1 (by decide) (by decide)) hi (by decide)
theorem mP5 {c : Nat} {τ : fr_S} (hs : Sm c τ) : oP τ 0 5 c = some (c + 2) := (oP_k hs.1).trans (hs.2.1 5 (by decide))
theorem mV2 {c i : Nat} {τ : fr_S} (hs : Sm c τ) (hi : i < 8) : oV τ 0 (c + 2) (nI i) = some (gV τ (c + 2) i) := oV_nI (n := 8) (hs.2.2 2 (by decide) (by decide)) hi (by decide)
theorem mS2 {c i : Nat} {τ : fr_S} {v : Int32} (hs : Sm c τ) (hi : i < 8) : sV τ 0 (c + 2) (nI i) v = some (pA τ (c + 2) (upd (gV τ (c + 2)) i v)) := sV_nI (n := 8) (hs.2.2 2 (by decide) (by decide)) hi (by decide)
theorem mP11 {c : Nat} {τ : fr_S} (hs : Sm c τ) : oP τ 0 11 c = some (c + 3) := (oP_k hs.1).trans (hs.2.1 11 (by decide))
theorem mV3 {c i : Nat} {τ : fr_S} (hs : Sm c τ) (hi : i < 16) : oV τ 0 (c + 3) (nI i) = some (gV τ (c + 3) i) := oV_nI (n := 16) (hs.2.2 3 (by decide) (by decide)) hi (by decide)
theorem mS3 {c i : Nat} {τ : fr_S} {v : Int32} (hs : Sm c τ) (hi : i < 16) : sV τ 0 (c + 3) (nI i) v = some (pA τ (c + 3) (upd (gV τ (c + 3)) i v)) := sV_nI (n := 16) (hs.2.2 3 (by decide) (by decide)) hi (by decide)
theorem mP12 {c : Nat} {τ : fr_S} (hs : Sm c τ) : oP τ 0 12 c = some (c + 4) := (oP_k hs.1).trans (hs.2.1 12 (by decide))
theorem mV4 {c i : Nat} {τ : fr_S} (hs : Sm c τ) (hi : i < 16) : oV τ 0 (c + 4) (nI i) = some (gV τ (c + 4) i) := oV_nI (n := 16) (hs.2.2 4 (by decide) (by decide)) hi (by decide)
theorem mS4 {c i : Nat} {τ : fr_S} {v : Int32} (hs : Sm c τ) (hi : i < 16) : sV τ 0 (c + 4) (nI i) v = some (pA τ (c + 4) (upd (gV τ (c + 4)) i v)) := sV_nI (n := 16) (hs.2.2 4 (by decide) (by decide)) hi (by decide)
theorem mP13 {c : Nat} {τ : fr_S} (hs : Sm c τ) : oP τ 0 13 c = some (c + 5) := (oP_k hs.1).trans (hs.2.1 13 (by decide))
theorem mV5 {c i : Nat} {τ : fr_S} (hs : Sm c τ) (hi : i < 16) : oV τ 0 (c + 5) (nI i) = some (gV τ (c + 5) i) := oV_nI (n := 16) (hs.2.2 5 (by decide) (by decide)) hi (by decide)
theorem mS5 {c i : Nat} {τ : fr_S} {v : Int32} (hs : Sm c τ) (hi : i < 16) : sV τ 0 (c + 5) (nI i) v = some (pA τ (c + 5) (upd (gV τ (c + 5)) i v)) := sV_nI (n := 16) (hs.2.2 5 (by decide) (by decide)) hi (by decide)
theorem mP14 {c : Nat} {τ : fr_S} (hs : Sm c τ) : oP τ 0 14 c = some (c + 6) := (oP_k hs.1).trans (hs.2.1 14 (by decide))
theorem mV6 {c i : Nat} {τ : fr_S} (hs : Sm c τ) (hi : i < 16) : oV τ 0 (c + 6) (nI i) = some (gV τ (c + 6) i) := oV_nI (n := 16) (hs.2.2 6 (by decide) (by decide)) hi (by decide)
theorem mS6 {c i : Nat} {τ : fr_S} {v : Int32} (hs : Sm c τ) (hi : i < 16) : sV τ 0 (c + 6) (nI i) v = some (pA τ (c + 6) (upd (gV τ (c + 6)) i v)) := sV_nI (n := 16) (hs.2.2 6 (by decide) (by decide)) hi (by decide)
theorem mP15 {c : Nat} {τ : fr_S} (hs : Sm c τ) : oP τ 0 15 c = some (c + 7) := (oP_k hs.1).trans (hs.2.1 15 (by decide))
theorem mV7 {c i : Nat} {τ : fr_S} (hs : Sm c τ) (hi : i < 16) : oV τ 0 (c + 7) (nI i) = some (gV τ (c + 7) i) := oV_nI (n := 16) (hs.2.2 7 (by decide) (by decide)) hi (by decide)
theorem mS7 {c i : Nat} {τ : fr_S} {v : Int32} (hs : Sm c τ) (hi : i < 16) : sV τ 0 (c + 7) (nI i) v = some (pA τ (c + 7) (upd (gV τ (c + 7)) i v)) := sV_nI (n := 16) (hs.2.2 7 (by decide) (by decide)) hi (by decide)
theorem mP16 {c : Nat} {τ : fr_S} (hs : Sm c τ) : oP τ 0 16 c = some (c + 8) := (oP_k hs.1).trans (hs.2.1 16 (by decide))
theorem mV8 {c i : Nat} {τ : fr_S} (hs : Sm c τ) (hi : i < 16) : oV τ 0 (c + 8) (nI i) = some (gV τ (c + 8) i) := oV_nI (n := 16) (hs.2.2 8 (by decide) (by decide)) hi (by decide)
theorem mS8 {c i : Nat} {τ : fr_S} {v : Int32} (hs : Sm c τ) (hi : i < 16) : sV τ 0 (c + 8) (nI i) v = some (pA τ (c + 8) (upd (gV τ (c + 8)) i v)) := sV_nI (n := 16) (hs.2.2 8 (by decide) (by decide)) hi (by decide)
theorem mP17 {c : Nat} {τ : fr_S} (hs : Sm c τ) : oP τ 0 17 c = some (c + 9) := (oP_k hs.1).trans (hs.2.1 17 (by decide))
theorem mV9 {c i : Nat} {τ : fr_S} (hs : Sm c τ) (hi : i < 1600) : oV τ 0 (c + 9) (nI i) = some (gV τ (c + 9) i) := oV_nI (n := 1600) (hs.2.2 9 (by decide) (by decide)) hi (by decide)
theorem mS9 {c i : Nat} {τ : fr_S} {v : Int32} (hs : Sm c τ) (hi : i < 1600) : sV τ 0 (c + 9) (nI i) v = some (pA τ (c + 9) (upd (gV τ (c + 9)) i v)) := sV_nI (n := 1600) (hs.2.2 9 (by decide) (by decide)) hi (by decide)
theorem mP18 {c : Nat} {τ : fr_S} (hs : Sm c τ) : oP τ 0 18 c = some (c + 10) := (oP_k hs.1).trans (hs.2.1 18 (by decide))
theorem mV10 {c i : Nat} {τ : fr_S} (hs : Sm c τ) (hi : i < 16) : oV τ 1 (c + 10) (nI i) = some (gV τ (c + 10) i) := oV_nI (n := 16) (hs.2.2 10 (by decide) (by decide)) hi (by decide)
theorem mS10 {c i : Nat} {τ : fr_S} {v : Int32} (hs : Sm c τ) (hi : i < 16) : sV τ 1 (c + 10) (nI i) v = some (pA τ (c + 10) (upd (gV τ (c + 10)) i v)) := sV_nI (n := 16) (hs.2.2 10 (by decide) (by decide)) hi (by decide)
theorem mP19 {c : Nat} {τ : fr_S} (hs : Sm c τ) : oP τ 0 19 c = some (c + 11) := (oP_k hs.1).trans (hs.2.1 19 (by decide))
theorem mV11 {c i : Nat} {τ : fr_S} (hs : Sm c τ) (hi : i < 16) : oV τ 1 (c + 11) (nI i) = some (gV τ (c + 11) i) := oV_nI (n := 16) (hs.2.2 11 (by decide) (by decide)) hi (by decide)
theorem mS11 {c i : Nat} {τ : fr_S} {v : Int32} (hs : Sm c τ) (hi : i < 16) : sV τ 1 (c + 11) (nI i) v = some (pA τ (c + 11) (upd (gV τ (c + 11)) i v)) := sV_nI (n := 16) (hs.2.2 11 (by decide) (by decide)) hi (by decide)
theorem mP20 {c : Nat} {τ : fr_S} (hs : Sm c τ) : oP τ 0 20 c = some (c + 12) := (oP_k hs.1).trans (hs.2.1 20 (by decide))
theorem mV12 {c i : Nat} {τ : fr_S} (hs : Sm c τ) (hi : i < 16) : oV τ 1 (c + 12) (nI i) = some (gV τ (c + 12) i) := oV_nI (n := 16) (hs.2.2 12 (by decide) (by decide)) hi (by decide)
theorem mS12 {c i : Nat} {τ : fr_S} {v : Int32} (hs : Sm c τ) (hi : i < 16) : sV τ 1 (c + 12) (nI i) v = some (pA τ (c + 12) (upd (gV τ (c + 12)) i v)) := sV_nI (n := 16) (hs.2.2 12 (by decide) (by decide)) hi (by decide)
theorem mP21 {c : Nat} {τ : fr_S} (hs : Sm c τ) : oP τ 0 21 c = some (c + 13) := (oP_k hs.1).trans (hs.2.1 21 (by decide))
theorem mV13 {c i : Nat} {τ : fr_S} (hs : Sm c τ) (hi : i < 16) : oV τ 1 (c + 13) (nI i) = some (gV τ (c + 13) i) := oV_nI (n := 16) (hs.2.2 13 (by decide) (by decide)) hi (by decide)
theorem mS13 {c i : Nat} {τ : fr_S} {v : Int32} (hs : Sm c τ) (hi : i < 16) : sV τ 1 (c + 13) (nI i) v = some (pA τ (c + 13) (upd (gV τ (c + 13)) i v)) := sV_nI (n := 16) (hs.2.2 13 (by decide) (by decide)) hi (by decide)
theorem mP22 {c : Nat} {τ : fr_S} (hs : Sm c τ) : oP τ 0 22 c = some (c + 14) := (oP_k hs.1).trans (hs.2.1 22 (by decide))
theorem mV14 {c i : Nat} {τ : fr_S} (hs : Sm c τ) (hi : i < 10) : oV τ 0 (c + 14) (nI i) = some (gV τ (c + 14) i) := oV_nI (n := 10) (hs.2.2 14 (by decide) (by decide)) hi (by decide)
theorem mS14 {c i : Nat} {τ : fr_S} {v : Int32} (hs : Sm c τ) (hi : i < 10) : sV τ 0 (c + 14) (nI i) v = some (pA τ (c + 14) (upd (gV τ (c + 14)) i v)) := sV_nI (n := 10) (hs.2.2 14 (by decide) (by decide)) hi (by decide)
theorem mP23 {c : Nat} {τ : fr_S} (hs : Sm c τ) : oP τ 0 23 c = some (c + 15) := (oP_k hs.1).trans (hs.2.1 23 (by decide))
theorem mV15 {c i : Nat} {τ : fr_S} (hs : Sm c τ) (hi : i < 10) : oV τ 0 (c + 15) (nI i) = some (gV τ (c + 15) i) := oV_nI (n := 10) (hs.2.2 15 (by decide) (by decide)) hi (by decide)
theorem mS15 {c i : Nat} {τ : fr_S} {v : Int32} (hs : Sm c τ) (hi : i < 10) : sV τ 0 (c + 15) (nI i) v = some (pA τ (c + 15) (upd (gV τ (c + 15)) i v)) := sV_nI (n := 10) (hs.2.2 15 (by decide) (by decide)) hi (by decide)
theorem mP24 {c : Nat} {τ : fr_S} (hs : Sm c τ) : oP τ 0 24 c = some (c + 16) := (oP_k hs.1).trans (hs.2.1 24 (by decide))
theorem mV16 {c i : Nat} {τ : fr_S} (hs : Sm c τ) (hi : i < 60) : oV τ 0 (c + 16) (nI i) = some (gV τ (c + 16) i) := oV_nI (n := 60) (hs.2.2 16 (by decide) (by decide)) hi (by decide)
theorem mS16 {c i : Nat} {τ : fr_S} {v : Int32} (hs : Sm c τ) (hi : i < 60) : sV τ 0 (c + 16) (nI i) v = some (pA τ (c + 16) (upd (gV τ (c + 16)) i v)) := sV_nI (n := 60) (hs.2.2 16 (by decide) (by decide)) hi (by decide)
theorem mP25 {c : Nat} {τ : fr_S} (hs : Sm c τ) : oP τ 0 25 c = some (c + 17) := (oP_k hs.1).trans (hs.2.1 25 (by decide))
theorem mV17 {c i : Nat} {τ : fr_S} (hs : Sm c τ) (hi : i < 10) : oV τ 0 (c + 17) (nI i) = some (gV τ (c + 17) i) := oV_nI (n := 10) (hs.2.2 17 (by decide) (by decide)) hi (by decide)
theorem mS17 {c i : Nat} {τ : fr_S} {v : Int32} (hs : Sm c τ) (hi : i < 10) : sV τ 0 (c + 17) (nI i) v = some (pA τ (c + 17) (upd (gV τ (c + 17)) i v)) := sV_nI (n := 10) (hs.2.2 17 (by decide) (by decide)) hi (by decide)
theorem mP26 {c : Nat} {τ : fr_S} (hs : Sm c τ) : oP τ 0 26 c = some (c + 18) := (oP_k hs.1).trans (hs.2.1 26 (by decide))
theorem mV18 {c i : Nat} {τ : fr_S} (hs : Sm c τ) (hi : i < 10) : oV τ 0 (c + 18) (nI i) = some (gV τ (c + 18) i) := oV_nI (n := 10) (hs.2.2 18 (by decide) (by decide)) hi (by decide)
theorem mS18 {c i : Nat} {τ : fr_S} {v : Int32} (hs : Sm c τ) (hi : i < 10) : sV τ 0 (c + 18) (nI i) v = some (pA τ (c + 18) (upd (gV τ (c + 18)) i v)) := sV_nI (n := 10) (hs.2.2 18 (by decide) (by decide)) hi (by decide)
theorem mP27 {c : Nat} {τ : fr_S} (hs : Sm c τ) : oP τ 0 27 c = some (c + 19) := (oP_k hs.1).trans (hs.2.1 27 (by decide))
theorem mV19 {c i : Nat} {τ : fr_S} (hs : Sm c τ) (hi : i < 10) : oV τ 0 (c + 19) (nI i) = some (gV τ (c + 19) i) := oV_nI (n := 10) (hs.2.2 19 (by decide) (by decide)) hi (by decide)
theorem mS19 {c i : Nat} {τ : fr_S} {v : Int32} (hs : Sm c τ) (hi : i < 10) : sV τ 0 (c + 19) (nI i) v = some (pA τ (c + 19) (upd (gV τ (c + 19)) i v)) := sV_nI (n := 10) (hs.2.2 19 (by decide) (by decide)) hi (by decide)
theorem mP28 {c : Nat} {τ : fr_S} (hs : Sm c τ) : oP τ 0 28 c = some (c + 20) := (oP_k hs.1).trans (hs.2.1 28 (by decide))
theorem mV20 {c i : Nat} {τ : fr_S} (hs : Sm c τ) (hi : i < 1000) : oV τ 0 (c + 20) (nI i) = some (gV τ (c + 20) i) := oV_nI (n := 1000) (hs.2.2 20 (by decide) (by decide)) hi (by decide)
theorem mS20 {c i : Nat} {τ : fr_S} {v : Int32} (hs : Sm c τ) (hi : i < 1000) : sV τ 0 (c + 20) (nI i) v = some (pA τ (c + 20) (upd (gV τ (c + 20)) i v)) := sV_nI (n := 1000) (hs.2.2 20 (by decide) (by decide)) hi (by decide)
theorem mP29 {c : Nat} {τ : fr_S} (hs : Sm c τ) : oP τ 0 29 c = some (c + 21) := (oP_k hs.1).trans (hs.2.1 29 (by decide))
theorem mV21 {c i : Nat} {τ : fr_S} (hs : Sm c τ) (hi : i < 10) : oV τ 0 (c + 21) (nI i) = some (gV τ (c + 21) i) := oV_nI (n := 10) (hs.2.2 21 (by decide) (by decide)) hi (by decide)
theorem mS21 {c i : Nat} {τ : fr_S} {v : Int32} (hs : Sm c τ) (hi : i < 10) : sV τ 0 (c + 21) (nI i) v = some (pA τ (c + 21) (upd (gV τ (c + 21)) i v)) := sV_nI (n := 10) (hs.2.2 21 (by decide) (by decide)) hi (by decide)
theorem mP30 {c : Nat} {τ : fr_S} (hs : Sm c τ) : oP τ 0 30 c = some (c + 22) := (oP_k hs.1).trans (hs.2.1 30 (by decide))
theorem mV22 {c i : Nat} {τ : fr_S} (hs : Sm c τ) (hi : i < 10) : oV τ 0 (c + 22) (nI i) = some (gV τ (c + 22) i) := oV_nI (n := 10) (hs.2.2 22 (by decide) (by decide)) hi (by decide)
theorem mS22 {c i : Nat} {τ : fr_S} {v : Int32} (hs : Sm c τ) (hi : i < 10) : sV τ 0 (c + 22) (nI i) v = some (pA τ (c + 22) (upd (gV τ (c + 22)) i v)) := sV_nI (n := 10) (hs.2.2 22 (by decide) (by decide)) hi (by decide)
theorem mP31 {c : Nat} {τ : fr_S} (hs : Sm c τ) : oP τ 0 31 c = some (c + 23) := (oP_k hs.1).trans (hs.2.1 31 (by decide))
theorem mV23 {c i : Nat} {τ : fr_S} (hs : Sm c τ) (hi : i < 10) : oV τ 0 (c + 23) (nI i) = some (gV τ (c + 23) i) := oV_nI (n := 10) (hs.2.2 23 (by decide) (by decide)) hi (by decide)
theorem mS23 {c i : Nat} {τ : fr_S} {v : Int32} (hs : Sm c τ) (hi : i < 10) : sV τ 0 (c + 23) (nI i) v = some (pA τ (c + 23) (upd (gV τ (c + 23)) i v)) := sV_nI (n := 10) (hs.2.2 23 (by decide) (by decide)) hi (by decide)
theorem mP32 {c : Nat} {τ : fr_S} (hs : Sm c τ) : oP τ 0 32 c = some (c + 24) := (oP_k hs.1).trans (hs.2.1 32 (by decide))
theorem mV24 {c i : Nat} {τ : fr_S} (hs : Sm c τ) (hi : i < 10) : oV τ 0 (c + 24) (nI i) = some (gV τ (c + 24) i) := oV_nI (n := 10) (hs.2.2 24 (by decide) (by decide)) hi (by decide)
theorem mS24 {c i : Nat} {τ : fr_S} {v : Int32} (hs : Sm c τ) (hi : i < 10) : sV τ 0 (c + 24) (nI i) v = some (pA τ (c + 24) (upd (gV τ (c + 24)) i v)) := sV_nI (n := 10) (hs.2.2 24 (by decide) (by decide)) hi (by decide)
theorem mP33 {c : Nat} {τ : fr_S} (hs : Sm c τ) : oP τ 0 33 c = some (c + 25) := (oP_k hs.1).trans (hs.2.1 33 (by decide))
theorem mV25 {c i : Nat} {τ : fr_S} (hs : Sm c τ) (hi : i < 10) : oV τ 0 (c + 25) (nI i) = some (gV τ (c + 25) i) := oV_nI (n := 10) (hs.2.2 25 (by decide) (by decide)) hi (by decide)
theorem mS25 {c i : Nat} {τ : fr_S} {v : Int32} (hs : Sm c τ) (hi : i < 10) : sV τ 0 (c + 25) (nI i) v = some (pA τ (c + 25) (upd (gV τ (c + 25)) i v)) := sV_nI (n := 10) (hs.2.2 25 (by decide) (by decide)) hi (by decide)
theorem mP34 {c : Nat} {τ : fr_S} (hs : Sm c τ) : oP τ 0 34 c = some (c + 26) := (oP_k hs.1).trans (hs.2.1 34 (by decide))
theorem mV26 {c i : Nat} {τ : fr_S} (hs : Sm c τ) (hi : i < 1000) : oV τ 0 (c + 26) (nI i) = some (gV τ (c + 26) i) := oV_nI (n := 1000) (hs.2.2 26 (by decide) (by decide)) hi (by decide)
theorem mS26 {c i : Nat} {τ : fr_S} {v : Int32} (hs : Sm c τ) (hi : i < 1000) : sV τ 0 (c + 26) (nI i) v = some (pA τ (c + 26) (upd (gV τ (c + 26)) i v)) := sV_nI (n := 1000) (hs.2.2 26 (by decide) (by decide)) hi (by decide)
theorem mP35 {c : Nat} {τ : fr_S} (hs : Sm c τ) : oP τ 0 35 c = some (c + 27) := (oP_k hs.1).trans (hs.2.1 35 (by decide))
theorem mV27 {c i : Nat} {τ : fr_S} (hs : Sm c τ) (hi : i < 400) : oV τ 0 (c + 27) (nI i) = some (gV τ (c + 27) i) := oV_nI (n := 400) (hs.2.2 27 (by decide) (by decide)) hi (by decide)
theorem mS27 {c i : Nat} {τ : fr_S} {v : Int32} (hs : Sm c τ) (hi : i < 400) : sV τ 0 (c + 27) (nI i) v = some (pA τ (c + 27) (upd (gV τ (c + 27)) i v)) := sV_nI (n := 400) (hs.2.2 27 (by decide) (by decide)) hi (by decide)
theorem mP36 {c : Nat} {τ : fr_S} (hs : Sm c τ) : oP τ 0 36 c = some (c + 28) := (oP_k hs.1).trans (hs.2.1 36 (by decide))
theorem mV28 {c i : Nat} {τ : fr_S} (hs : Sm c τ) (hi : i < 400) : oV τ 0 (c + 28) (nI i) = some (gV τ (c + 28) i) := oV_nI (n := 400) (hs.2.2 28 (by decide) (by decide)) hi (by decide)
theorem mS28 {c i : Nat} {τ : fr_S} {v : Int32} (hs : Sm c τ) (hi : i < 400) : sV τ 0 (c + 28) (nI i) v = some (pA τ (c + 28) (upd (gV τ (c + 28)) i v)) := sV_nI (n := 400) (hs.2.2 28 (by decide) (by decide)) hi (by decide)
theorem mP37 {c : Nat} {τ : fr_S} (hs : Sm c τ) : oP τ 0 37 c = some (c + 29) := (oP_k hs.1).trans (hs.2.1 37 (by decide))
theorem mV29 {c i : Nat} {τ : fr_S} (hs : Sm c τ) (hi : i < 400) : oV τ 0 (c + 29) (nI i) = some (gV τ (c + 29) i) := oV_nI (n := 400) (hs.2.2 29 (by decide) (by decide)) hi (by decide)
theorem mS29 {c i : Nat} {τ : fr_S} {v : Int32} (hs : Sm c τ) (hi : i < 400) : sV τ 0 (c + 29) (nI i) v = some (pA τ (c + 29) (upd (gV τ (c + 29)) i v)) := sV_nI (n := 400) (hs.2.2 29 (by decide) (by decide)) hi (by decide)
theorem mP38 {c : Nat} {τ : fr_S} (hs : Sm c τ) : oP τ 0 38 c = some (c + 30) := (oP_k hs.1).trans (hs.2.1 38 (by decide))
theorem mV30 {c i : Nat} {τ : fr_S} (hs : Sm c τ) (hi : i < 10) : oV τ 0 (c + 30) (nI i) = some (gV τ (c + 30) i) := oV_nI (n := 10) (hs.2.2 30 (by decide) (by decide)) hi (by decide)
theorem mS30 {c i : Nat} {τ : fr_S} {v : Int32} (hs : Sm c τ) (hi : i < 10) : sV τ 0 (c + 30) (nI i) v = some (pA τ (c + 30) (upd (gV τ (c + 30)) i v)) := sV_nI (n := 10) (hs.2.2 30 (by decide) (by decide)) hi (by decide)
theorem mP40 {c : Nat} {τ : fr_S} (hs : Sm c τ) : oP τ 0 40 c = some (c + 31) := (oP_k hs.1).trans (hs.2.1 40 (by decide))
theorem mV31 {c i : Nat} {τ : fr_S} (hs : Sm c τ) (hi : i < 40) : oV τ 0 (c + 31) (nI i) = some (gV τ (c + 31) i) := oV_nI (n := 40) (hs.2.2 31 (by decide) (by decide)) hi (by decide)
theorem mS31 {c i : Nat} {τ : fr_S} {v : Int32} (hs : Sm c τ) (hi : i < 40) : sV τ 0 (c + 31) (nI i) v = some (pA τ (c + 31) (upd (gV τ (c + 31)) i v)) := sV_nI (n := 40) (hs.2.2 31 (by decide) (by decide)) hi (by decide)
theorem mP41 {c : Nat} {τ : fr_S} (hs : Sm c τ) : oP τ 0 41 c = some (c + 32) := (oP_k hs.1).trans (hs.2.1 41 (by decide))
theorem mV32 {c i : Nat} {τ : fr_S} (hs : Sm c τ) (hi : i < 40) : oV τ 0 (c + 32) (nI i) = some (gV τ (c + 32) i) := oV_nI (n := 40) (hs.2.2 32 (by decide) (by decide)) hi (by decide)
theorem mS32 {c i : Nat} {τ : fr_S} {v : Int32} (hs : Sm c τ) (hi : i < 40) : sV τ 0 (c + 32) (nI i) v = some (pA τ (c + 32) (upd (gV τ (c + 32)) i v)) := sV_nI (n := 40) (hs.2.2 32 (by decide) (by decide)) hi (by decide)
theorem mP42 {c : Nat} {τ : fr_S} (hs : Sm c τ) : oP τ 0 42 c = some (c + 33) := (oP_k hs.1).trans (hs.2.1 42 (by decide))
theorem mV33 {c i : Nat} {τ : fr_S} (hs : Sm c τ) (hi : i < 40) : oV τ 0 (c + 33) (nI i) = some (gV τ (c + 33) i) := oV_nI (n := 40) (hs.2.2 33 (by decide) (by decide)) hi (by decide)
theorem mS33 {c i : Nat} {τ : fr_S} {v : Int32} (hs : Sm c τ) (hi : i < 40) : sV τ 0 (c + 33) (nI i) v = some (pA τ (c + 33) (upd (gV τ (c + 33)) i v)) := sV_nI (n := 40) (hs.2.2 33 (by decide) (by decide)) hi (by decide)
theorem mP43 {c : Nat} {τ : fr_S} (hs : Sm c τ) : oP τ 0 43 c = some (c + 34) := (oP_k hs.1).trans (hs.2.1 43 (by decide))
theorem mV34 {c i : Nat} {τ : fr_S} (hs : Sm c τ) (hi : i < 40) : oV τ 0 (c + 34) (nI i) = some (gV τ (c + 34) i) := oV_nI (n := 40) (hs.2.2 34 (by decide) (by decide)) hi (by decide)
theorem mS34 {c i : Nat} {τ : fr_S} {v : Int32} (hs : Sm c τ) (hi : i < 40) : sV τ 0 (c + 34) (nI i) v = some (pA τ (c + 34) (upd (gV τ (c + 34)) i v)) := sV_nI (n := 40) (hs.2.2 34 (by decide) (by decide)) hi (by decide)
