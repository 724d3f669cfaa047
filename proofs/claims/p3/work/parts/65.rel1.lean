/-! TWO SIDES SIDE BY SIDE: both come to values, and these stand in a relation -/
def rel {α β : Type} (o : Option α) (o' : Option β) (Q : α → β → Prop) : Prop := ∃ a a', o = some a ∧ o' = some a' ∧ Q a a'
theorem rel_some {α β : Type} {a : α} {a' : β} {Q : α → β → Prop} (h : Q a a') : rel (some a) (some a') Q := ⟨a, a', rfl, rfl, h⟩
theorem rel_l {α β γ : Type} {o : Option α} {a : α} {f : α → Option β} {o' : Option γ} {Q : β → γ → Prop} (ho : o = some a) (h : rel (f a) o' Q) : rel (o.bind f) o' Q := by
  subst ho
  exact h
theorem rel_r {α β γ : Type} {o : Option α} {a : α} {f : α → Option β} {o' : Option γ} {Q : γ → β → Prop} (ho : o = some a) (h : rel o' (f a) Q) : rel o' (o.bind f) Q := by
  subst ho
  exact h
theorem rel_il {α β : Type} {c : Prop} {hd : Decidable c} {x y : Option α} {o' : Option β} {Q : α → β → Prop} (h1 : c → rel x o' Q) (h2 : ¬ c → rel y o' Q) : rel (if c then x else y) o' Q := by
  by_cases h : c
  · rw [if_pos h]; exact h1 h
  · rw [if_neg h]; exact h2 h
theorem rel_ir {α β : Type} {c : Prop} {hd : Decidable c} {x y : Option α} {o' : Option β} {Q : β → α → Prop} (h1 : c → rel o' x Q) (h2 : ¬ c → rel o' y Q) : rel o' (if c then x else y) Q := by
  by_cases h : c
  · rw [if_pos h]; exact h1 h
  · rw [if_neg h]; exact h2 h
theorem rel_el {α β γ : Type} {o : Option α} {P : α → Prop} {f : α → Option β} {o' : Option γ} {Q : β → γ → Prop} (ho : ev o P) (h : ∀ a, P a → rel (f a) o' Q) : rel (o.bind f) o' Q := by
  obtain ⟨a, rfl, ha⟩ := ho
  exact h a ha
theorem rel_er {α β γ : Type} {o : Option α} {P : α → Prop} {f : α → Option β} {o' : Option γ} {Q : γ → β → Prop} (ho : ev o P) (h : ∀ a, P a → rel o' (f a) Q) : rel o' (o.bind f) Q := by
  obtain ⟨a, rfl, ha⟩ := ho
  exact h a ha
theorem rel_b {α β γ δ : Type} {o : Option α} {o' : Option β} {f : α → Option γ} {g : β → Option δ} {P : α → β → Prop} {Q : γ → δ → Prop} (ho : rel o o' P) (h : ∀ a a', P a a' → rel (f a) (g a') Q) : rel (o.bind f) (o'.bind g) Q := by
  obtain ⟨a, a', rfl, rfl, ha⟩ := ho
  exact h a a' ha
/-- with what each side keeps by itself -/
theorem rel_ev {α β : Type} {o : Option α} {o' : Option β} {Q : α → β → Prop} {P : α → Prop} {P' : β → Prop} (h : rel o o' Q) (h1 : ev o P) (h2 : ev o' P') : rel o o' (fun a a' => Q a a' ∧ P a ∧ P' a') := by
  obtain ⟨a, a', rfl, rfl, ha⟩ := h
  obtain ⟨x, hx, px⟩ := h1
  obtain ⟨y, hy, py⟩ := h2
  cases hx
  cases hy
  exact ⟨a, a', rfl, rfl, ha, px, py⟩
theorem rel_mono {α β : Type} {o : Option α} {o' : Option β} {P Q : α → β → Prop} (h : rel o o' P) (hm : ∀ a a', P a a' → Q a a') : rel o o' Q := by
  obtain ⟨a, a', e, e', ha⟩ := h
  exact ⟨a, a', e, e', hm a a' ha⟩
/-! THE RELATION of class (cells from b) and reference (cells from c) -/
def R_c (b c np nw nk nt nl nf : Nat) (σ τ : fr_S) : Prop := (np ≤ 16 ∧ gI σ 68 b = nI np ∧ gI τ 6 c = nI np) ∧ (nw ≤ 10 ∧ gI σ 70 b = nI nw ∧ gI τ 7 c = nI nw) ∧ (nk ≤ 10 ∧ gI σ 322 (b + 5) = nI nk ∧ gI τ 8 c = nI nk) ∧ (nt ≤ 60 ∧ gI σ 387 (b + 28) = nI nt ∧ gI τ 9 c = nI nt) ∧ (nl ≤ 10 ∧ gI σ 74 b = nI nl ∧ gI τ 10 c = nI nl) ∧ (nf ≤ 33 ∧ gI σ 132 (b + 33) = nI nf ∧ gI τ 39 c = nI nf)
def R_g (b c : Nat) (σ τ : fr_S) : Prop := gI σ 64 b = gI τ 0 c ∧ gI σ 77 b = gI τ 2 c ∧ gI σ 76 b = gI τ 3 c
def R_h (b c : Nat) (σ τ : fr_S) : Prop := (∀ h, h < 8 → gV σ (b + 1) h = gV τ (c + 1) h) ∧ ∀ h, h < 8 → gV σ (b + 2) h = gV τ (c + 2) h
def R_p (b c np : Nat) (σ τ : fr_S) : Prop := ∀ i, i < 16 → gI σ 193 (b + 38 + 3 * i) = gV τ (c + 3) i ∧ gI σ 196 (b + 38 + 3 * i) = gV τ (c + 7) i ∧ gI σ 197 (b + 38 + 3 * i) = gV τ (c + 8) i ∧ gI σ 198 (b + 38 + 3 * i) = gV τ (c + 10) i ∧ gI σ 199 (b + 38 + 3 * i) = gV τ (c + 11) i ∧ gI σ 200 (b + 38 + 3 * i) = gV τ (c + 12) i ∧ gI σ 201 (b + 38 + 3 * i) = gV τ (c + 13) i ∧ (i < np → gI σ 194 (b + 38 + 3 * i) = gV τ (c + 4) i) ∧ (i < np → gI σ 195 (b + 38 + 3 * i) = gV τ (c + 6) i) ∧ (np ≤ i → gI σ 195 (b + 38 + 3 * i) = -1)
/-- a row of the class, and a piece of a row of the reference -/
def R_r (σ τ : fr_S) (r v : Nat) (n : Int32) (a o : Nat) : Prop := gI σ 257 r = n ∧ ∀ m k, n = nI m → m ≤ 100 → k < m → gV σ v k = gV τ a (o + k)
def R_b (b c : Nat) (σ τ : fr_S) : Prop := ∀ i, i < 16 → R_r σ τ (b + 39 + 3 * i) (b + 40 + 3 * i) (gV τ (c + 5) i) (c + 9) (100 * i)
def R_w (b c : Nat) (σ τ : fr_S) : Prop := ∀ j, j < 10 → gI σ 451 (b + 86 + 4 * j) = gV τ (c + 14) j ∧ gI σ 450 (b + 86 + 4 * j) = gV τ (c + 15) j ∧ gI σ 452 (b + 86 + 4 * j) = gV τ (c + 17) j ∧ gI σ 456 (b + 86 + 4 * j) = gV τ (c + 22) j ∧ (∀ m k, gV τ (c + 15) j = nI m → m ≤ 6 → k < m → gV σ (b + 89 + 4 * j) k = gV τ (c + 16) (6 * j + k)) ∧ ((gV τ (c + 17) j = 1 ∨ gV τ (c + 17) j = 2) → gI σ 453 (b + 86 + 4 * j) = gV τ (c + 18) j ∧ gI σ 454 (b + 86 + 4 * j) = gV τ (c + 23) j) ∧ (gV τ (c + 17) j = 2 → gI σ 455 (b + 86 + 4 * j) = gV τ (c + 21) j) ∧ (gV τ (c + 17) j ≠ 4 → R_r σ τ (b + 87 + 4 * j) (b + 88 + 4 * j) (gV τ (c + 19) j) (c + 20) (100 * j))
def R_k (b c nk : Nat) (σ τ : fr_S) : Prop := ∀ i, i < nk → gV σ (b + 6) i = gV τ (c + 24) i ∧ R_r σ τ (b + 8 + 2 * i) (b + 9 + 2 * i) (gV τ (c + 25) i) (c + 26) (100 * i)
def R_t (b c nt : Nat) (σ τ : fr_S) : Prop := ∀ i, i < nt → gV σ (b + 29) i = gV τ (c + 27) i ∧ gV σ (b + 30) i = gV τ (c + 28) i ∧ gV σ (b + 31) i = gV τ (c + 29) i
def R_l (b c nl : Nat) (σ τ : fr_S) : Prop := ∀ i, i < nl → gV σ (b + 32) i = gV τ (c + 30) i
def R_f (b c nf : Nat) (σ τ : fr_S) : Prop := ∀ i, i < nf → gV σ (b + 34) i = gV τ (c + 31) i ∧ gV σ (b + 35) i = gV τ (c + 32) i ∧ gV σ (b + 36) i = gV τ (c + 33) i ∧ gV σ (b + 37) i = gV τ (c + 34) i
def RN (b c np nw nk nt nl nf : Nat) (σ τ : fr_S) : Prop := R_c b c np nw nk nt nl nf σ τ ∧ R_g b c σ τ ∧ R_h b c σ τ ∧ R_p b c np σ τ ∧ R_b b c σ τ ∧ R_w b c σ τ ∧ R_k b c nk σ τ ∧ R_t b c nt σ τ ∧ R_l b c nl σ τ ∧ R_f b c nf σ τ
def RE (b c : Nat) (σ τ : fr_S) : Prop := ∃ np nw nk nt nl nf, RN b c np nw nk nt nl nf σ τ
def RR (b c : Nat) (σ τ : fr_S) : Prop := XI b σ ∧ MI c τ ∧ RE b c σ τ
theorem RN_1 {b c np nw nk nt nl nf : Nat} {σ τ : fr_S} {v : Int32} (h : RN b c np nw nk nt nl nf σ τ) : RN b c np nw nk nt nl nf σ (pI τ 1 c v) := h
/-! calls that change nothing -/
theorem r_sent {b c : Nat} {σ τ : fr_S} (h : RR b c σ τ) (x : Int32) : rel (m_FR_sent b x σ) (m_Md_sent c x τ) (fun r q => r = q.1 ∧ RR b c σ q.2) := by
  obtain ⟨h1, h2, np, nw, nk, nt, nl, nf, hR⟩ := h
  have hs := h1.1
  have hm := h2.1
  unfold m_FR_sent m_Md_sent
  refine rel_r (mSI hm) ?_
  have g2 : MI c (pI τ 1 c 0) := M_code h2
  have fin : RR b c σ (pI τ 1 c 0) := ⟨h1, g2, np, nw, nk, nt, nl, nf, hR⟩
  refine rel_el (x_isHost x σ) (fun r hr => ?_)
  refine rel_il (fun h0 => ?_) (fun h0 => ?_)
  · rcases hr with ⟨-, hr⟩ | ⟨hr, -⟩
    · refine rel_ir (fun _ => rel_some ⟨rfl, fin⟩) (fun z => ?_)
      refine rel_ir (fun z2 => ?_) (fun _ => rel_some ⟨rfl, fin⟩)
      exact absurd ⟨z, Int32.not_le.mpr z2⟩ hr
    · rw [hr] at h0
      exact absurd h0 (by decide)
  · rcases hr with ⟨hr, -⟩ | ⟨-, e1, e2, j, hj, rfl⟩
    · exact absurd hr h0
    refine rel_ir (fun z => absurd z e1) (fun z => ?_)
    refine rel_ir (fun _ => ?_) (fun z2 => absurd (Int32.not_le.mp e2) z2)
    refine rel_l (xp66 hs) ?_
    refine rel_l (oV_nI (n := 8) hs.1.2.2.1.2 hj (by decide)) ?_
    refine rel_r (mP5 (τ := pI τ 1 c 0) hm) ?_
    refine rel_r (mV2 (τ := pI τ 1 c 0) hm hj) ?_
    exact rel_some ⟨hR.2.2.1.2 j hj, fin⟩
