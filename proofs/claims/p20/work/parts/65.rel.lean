/-! TWO SIDES SIDE BY SIDE: both come to values, and these stand in a relation -/
def rel {α β : Type} (o : Option α) (o' : Option β) (Q : α → β → Prop) : Prop := ∃ a a', o = some a ∧ o' = some a' ∧ Q a a'
theorem rel_some {α β : Type} {a : α} {a' : β} {Q : α → β → Prop} (h : Q a a') : rel (some a) (some a') Q := ⟨a, a', rfl, rfl, h⟩
theorem rel_l {α β γ : Type} {o : Option α} {a : α} {f : α → Option β} {o' : Option γ} {Q : β → γ → Prop} (ho : o = some a) (h : rel (f a) o' Q) : rel (o.bind f) o' Q := by
  subst ho
  exact h
theorem rel_r {α β γ : Type} {o : Option α} {a : α} {f : α → Option β} {o' : Option γ} {Q : γ → β → Prop} (ho : o = some a) (h : rel o' (f a) Q) : rel o' (o.bind f) Q := by
  subst ho
  exact h
theorem rel_il {α β : Type} {c : Prop} {hd : Decidable c} {x y : Option α} {o' : Option β} {Q : α → β → Prop} (h1 : c → rel x o' Q) (h2 : ¬ c → rel y o' Q) : rel (if c then x else y) o' Q := by
  by_cases h : c
  · rw [if_pos h]; exact h1 h
  · rw [if_neg h]; exact h2 h
theorem rel_ir {α β : Type} {c : Prop} {hd : Decidable c} {x y : Option α} {o' : Option β} {Q : β → α → Prop} (h1 : c → rel o' x Q) (h2 : ¬ c → rel o' y Q) : rel o' (if c then x else y) Q := by
  by_cases h : c
  · rw [if_pos h]; exact h1 h
  · rw [if_neg h]; exact h2 h
theorem rel_el {α β γ : Type} {o : Option α} {P : α → Prop} {f : α → Option β} {o' : Option γ} {Q : β → γ → Prop} (ho : ev o P) (h : ∀ a, P a → rel (f a) o' Q) : rel (o.bind f) o' Q := by
  obtain ⟨a, rfl, ha⟩ := ho
  exact h a ha
theorem rel_er {α β γ : Type} {o : Option α} {P : α → Prop} {f : α → Option β} {o' : Option γ} {Q : γ → β → Prop} (ho : ev o P) (h : ∀ a, P a → rel o' (f a) Q) : rel o' (o.bind f) Q := by
  obtain ⟨a, rfl, ha⟩ := ho
  exact h a ha
theorem rel_b {α β γ δ : Type} {o : Option α} {o' : Option β} {f : α → Option γ} {g : β → Option δ} {P : α → β → Prop} {Q : γ → δ → Prop} (ho : rel o o' P) (h : ∀ a a', P a a' → rel (f a) (g a') Q) : rel (o.bind f) (o'.bind g) Q := by
  obtain ⟨a, a', rfl, rfl, ha⟩ := ho
  exact h a a' ha
/-- with what each side keeps by itself -/
theorem rel_ev {α β : Type} {o : Option α} {o' : Option β} {Q : α → β → Prop} {P : α → Prop} {P' : β → Prop} (h : rel o o' Q) (h1 : ev o P) (h2 : ev o' P') : rel o o' (fun a a' => Q a a' ∧ P a ∧ P' a') := by
  obtain ⟨a, a', rfl, rfl, ha⟩ := h
  obtain ⟨x, hx, px⟩ := h1
  obtain ⟨y, hy, py⟩ := h2
  cases hx
  cases hy
  exact ⟨a, a', rfl, rfl, ha, px, py⟩
theorem rel_mono {α β : Type} {o : Option α} {o' : Option β} {P Q : α → β → Prop} (h : rel o o' P) (hm : ∀ a a', P a a' → Q a a') : rel o o' Q := by
  obtain ⟨a, a', e, e', ha⟩ := h
  exact ⟨a, a', e, e', hm a a' ha⟩
/-! THE RELATION of class (cells from b) and reference (cells from c) -/
def R_c (b c np nw nk nt nl nf : Nat) (σ τ : fr_S) : Prop := (np ≤ 16 ∧ gI σ 68 b = nI np ∧ gI τ 6 c = nI np) ∧ (nw ≤ 10 ∧ gI σ 70 b = nI nw ∧ gI τ 7 c = nI nw) ∧ (nk ≤ 10 ∧ gI σ 322 (b + 5) = nI nk ∧ gI τ 8 c = nI nk) ∧ (nt ≤ 60 ∧ gI σ 387 (b + 28) = nI nt ∧ gI τ 9 c = nI nt) ∧ (nl ≤ 10 ∧ gI σ 74 b = nI nl ∧ gI τ 10 c = nI nl) ∧ (nf ≤ 33 ∧ gI σ 132 (b + 33) = nI nf ∧ gI τ 39 c = nI nf)
def R_g (b c : Nat) (σ τ : fr_S) : Prop := gI σ 64 b = gI τ 0 c ∧ gI σ 77 b = gI τ 2 c ∧ gI σ 76 b = gI τ 3 c
def R_h (b c : Nat) (σ τ : fr_S) : Prop := (∀ h, h < 8 → gV σ (b + 1) h = gV τ (c + 1) h) ∧ ∀ h, h < 8 → gV σ (b + 2) h = gV τ (c + 2) h
def R_p (b c np : Nat) (σ τ : fr_S) : Prop := ∀ i, i < 16 → gI σ 193 (b + 38 + 3 * i) = gV τ (c + 3) i ∧ gI σ 196 (b + 38 + 3 * i) = gV τ (c + 7) i ∧ gI σ 197 (b + 38 + 3 * i) = gV τ (c + 8) i ∧ gI σ 198 (b + 38 + 3 * i) = gV τ (c + 10) i ∧ gI σ 199 (b + 38 + 3 * i) = gV τ (c + 11) i ∧ gI σ 200 (b + 38 + 3 * i) = gV τ (c + 12) i ∧ gI σ 201 (b + 38 + 3 * i) = gV τ (c + 13) i ∧ (i < np → gI σ 194 (b + 38 + 3 * i) = gV τ (c + 4) i) ∧ (i < np → gI σ 195 (b + 38 + 3 * i) = gV τ (c + 6) i) ∧ (np ≤ i → gI σ 195 (b + 38 + 3 * i) = -1)
/-- a row of the class, and a piece of a row of the reference -/
def R_r (σ τ : fr_S) (r v : Nat) (n : Int32) (a o : Nat) : Prop := gI σ 257 r = n ∧ ∀ m k, n = nI m → m ≤ 100 → k < m → gV σ v k = gV τ a (o + k)
def R_b (b c : Nat) (σ τ : fr_S) : Prop := ∀ i, i < 16 → R_r σ τ (b + 39 + 3 * i) (b + 40 + 3 * i) (gV τ (c + 5) i) (c + 9) (100 * i)
def R_w (b c : Nat) (σ τ : fr_S) : Prop := ∀ j, j < 10 → gI σ 451 (b + 86 + 4 * j) = gV τ (c + 14) j ∧ gI σ 450 (b + 86 + 4 * j) = gV τ (c + 15) j ∧ gI σ 452 (b + 86 + 4 * j) = gV τ (c + 17) j ∧ gI σ 456 (b + 86 + 4 * j) = gV τ (c + 22) j ∧ (∀ m k, gV τ (c + 15) j = nI m → m ≤ 6 → k < m → gV σ (b + 89 + 4 * j) k = gV τ (c + 16) (6 * j + k)) ∧ ((gV τ (c + 17) j = 1 ∨ gV τ (c + 17) j = 2) → gI σ 453 (b + 86 + 4 * j) = gV τ (c + 18) j ∧ gI σ 454 (b + 86 + 4 * j) = gV τ (c + 23) j) ∧ (gV τ (c + 17) j = 2 → gI σ 455 (b + 86 + 4 * j) = gV τ (c + 21) j) ∧ (gV τ (c + 17) j ≠ 4 → R_r σ τ (b + 87 + 4 * j) (b + 88 + 4 * j) (gV τ (c + 19) j) (c + 20) (100 * j))
def R_k (b c nk : Nat) (σ τ : fr_S) : Prop := ∀ i, i < nk → gV σ (b + 6) i = gV τ (c + 24) i ∧ R_r σ τ (b + 8 + 2 * i) (b + 9 + 2 * i) (gV τ (c + 25) i) (c + 26) (100 * i)
def R_t (b c nt : Nat) (σ τ : fr_S) : Prop := ∀ i, i < nt → gV σ (b + 29) i = gV τ (c + 27) i ∧ gV σ (b + 30) i = gV τ (c + 28) i ∧ gV σ (b + 31) i = gV τ (c + 29) i
def R_l (b c nl : Nat) (σ τ : fr_S) : Prop := ∀ i, i < nl → gV σ (b + 32) i = gV τ (c + 30) i
def R_f (b c nf : Nat) (σ τ : fr_S) : Prop := ∀ i, i < nf → gV σ (b + 34) i = gV τ (c + 31) i ∧ gV σ (b + 35) i = gV τ (c + 32) i ∧ gV σ (b + 36) i = gV τ (c + 33) i ∧ gV σ (b + 37) i = gV τ (c + 34) i
def RN (b c np nw nk nt nl nf : Nat) (σ τ : fr_S) : Prop := R_c b c np nw nk nt nl nf σ τ ∧ R_g b c σ τ ∧ R_h b c σ τ ∧ R_p b c np σ τ ∧ R_b b c σ τ ∧ R_w b c σ τ ∧ R_k b c nk σ τ ∧ R_t b c nt σ τ ∧ R_l b c nl σ τ ∧ R_f b c nf σ τ
def RE (b c : Nat) (σ τ : fr_S) : Prop := ∃ np nw nk nt nl nf, RN b c np nw nk nt nl nf σ τ
def RR (b c : Nat) (σ τ : fr_S) : Prop := XI b σ ∧ MI c τ ∧ RE b c σ τ
theorem RN_1 {b c np nw nk nt nl nf : Nat} {σ τ : fr_S} {v : Int32} (h : RN b c np nw nk nt nl nf σ τ) : RN b c np nw nk nt nl nf σ (pI τ 1 c v) := h
/-! calls that change nothing -/
theorem r_sent {b c : Nat} {σ τ : fr_S} (h : RR b c σ τ) (x : Int32) : rel (m_FR_sent b x σ) (m_Md_sent c x τ) (fun r q => r = q.1 ∧ RR b c σ q.2) := by
  obtain ⟨h1, h2, np, nw, nk, nt, nl, nf, hR⟩ := h
  have hs := h1.1
  have hm := h2.1
  unfold m_FR_sent m_Md_sent
  refine rel_r (mSI hm) ?_
  have g2 : MI c (pI τ 1 c 0) := M_code h2
  have fin : RR b c σ (pI τ 1 c 0) := ⟨h1, g2, np, nw, nk, nt, nl, nf, hR⟩
  refine rel_el (x_isHost x σ) (fun r hr => ?_)
  refine rel_il (fun h0 => ?_) (fun h0 => ?_)
  · rcases hr with ⟨-, hr⟩ | ⟨hr, -⟩
    · refine rel_ir (fun _ => rel_some ⟨rfl, fin⟩) (fun z => ?_)
      refine rel_ir (fun z2 => ?_) (fun _ => rel_some ⟨rfl, fin⟩)
      exact absurd ⟨z, Int32.not_le.mpr z2⟩ hr
    · rw [hr] at h0
      exact absurd h0 (by decide)
  · rcases hr with ⟨hr, -⟩ | ⟨-, e1, e2, j, hj, rfl⟩
    · exact absurd hr h0
    refine rel_ir (fun z => absurd z e1) (fun z => ?_)
    refine rel_ir (fun _ => ?_) (fun z2 => absurd (Int32.not_le.mp e2) z2)
    refine rel_l (xp66 hs) ?_
    refine rel_l (oV_nI (n := 8) hs.1.2.2.1.2 hj (by decide)) ?_
    refine rel_r (mP5 (τ := pI τ 1 c 0) hm) ?_
    refine rel_r (mV2 (τ := pI τ 1 c 0) hm hj) ?_
    exact rel_some ⟨hR.2.2.1.2 j hj, fin⟩
/-! what a pair of writes leaves as it was -/
theorem RN_p193 {b c np nw nk nt nl nf : Nat} {σ τ : fr_S} {j : Nat} {v : Int32} (h : RN b c np nw nk nt nl nf σ τ) : RN b c np nw nk nt nl nf (pI σ 193 (b + 38 + 3 * j) v) (pA τ (c + 3) (upd (gV τ (c + 3)) j v)) := by
  obtain ⟨h_c, h_g, h_h, h_p, h_b, h_w, h_k, h_t, h_l, h_f⟩ := h
  refine ⟨?_, ?_, ?_, ?_, ?_, ?_, ?_, ?_, ?_, ?_⟩
  · simpa [R_c, gI_pIx, gV_pI, gI_pA, gV_pAx, upd] using h_c
  · simpa [R_g, gI_pIx, gV_pI, gI_pA, gV_pAx, upd] using h_g
  · simpa [R_h, gI_pIx, gV_pI, gI_pA, gV_pAx, upd] using h_h
  · intro i hi
    obtain ⟨g1, g2, g3, g4, g5, g6, g7, g8, g9, g10⟩ := h_p i hi
    by_cases e : i = j
    · subst e; simp [gI_pIx, gV_pI, gI_pA, gV_pAx, upd, g1, g2, g3, g4, g5, g6, g7]; exact ⟨g8, g9, g10⟩
    · have e3 : ¬ 3 * i = 3 * j := by omega
      simp [gI_pIx, gV_pI, gI_pA, gV_pAx, upd, e, e3, g1, g2, g3, g4, g5, g6, g7]; exact ⟨g8, g9, g10⟩
  · simpa [R_b, R_r, gI_pIx, gV_pI, gI_pA, gV_pAx, upd] using h_b
  · simpa [R_w, R_r, gI_pIx, gV_pI, gI_pA, gV_pAx, upd] using h_w
  · simpa [R_k, R_r, gI_pIx, gV_pI, gI_pA, gV_pAx, upd] using h_k
  · simpa [R_t, gI_pIx, gV_pI, gI_pA, gV_pAx, upd] using h_t
  · simpa [R_l, gI_pIx, gV_pI, gI_pA, gV_pAx, upd] using h_l
  · simpa [R_f, gI_pIx, gV_pI, gI_pA, gV_pAx, upd] using h_f
theorem RN_p196 {b c np nw nk nt nl nf : Nat} {σ τ : fr_S} {j : Nat} {v : Int32} (h : RN b c np nw nk nt nl nf σ τ) : RN b c np nw nk nt nl nf (pI σ 196 (b + 38 + 3 * j) v) (pA τ (c + 7) (upd (gV τ (c + 7)) j v)) := by
  obtain ⟨h_c, h_g, h_h, h_p, h_b, h_w, h_k, h_t, h_l, h_f⟩ := h
  refine ⟨?_, ?_, ?_, ?_, ?_, ?_, ?_, ?_, ?_, ?_⟩
  · simpa [R_c, gI_pIx, gV_pI, gI_pA, gV_pAx, upd] using h_c
  · simpa [R_g, gI_pIx, gV_pI, gI_pA, gV_pAx, upd] using h_g
  · simpa [R_h, gI_pIx, gV_pI, gI_pA, gV_pAx, upd] using h_h
  · intro i hi
    obtain ⟨g1, g2, g3, g4, g5, g6, g7, g8, g9, g10⟩ := h_p i hi
    by_cases e : i = j
    · subst e; simp [gI_pIx, gV_pI, gI_pA, gV_pAx, upd, g1, g2, g3, g4, g5, g6, g7]; exact ⟨g8, g9, g10⟩
    · have e3 : ¬ 3 * i = 3 * j := by omega
      simp [gI_pIx, gV_pI, gI_pA, gV_pAx, upd, e, e3, g1, g2, g3, g4, g5, g6, g7]; exact ⟨g8, g9, g10⟩
  · simpa [R_b, R_r, gI_pIx, gV_pI, gI_pA, gV_pAx, upd] using h_b
  · simpa [R_w, R_r, gI_pIx, gV_pI, gI_pA, gV_pAx, upd] using h_w
  · simpa [R_k, R_r, gI_pIx, gV_pI, gI_pA, gV_pAx, upd] using h_k
  · simpa [R_t, gI_pIx, gV_pI, gI_pA, gV_pAx, upd] using h_t
  · simpa [R_l, gI_pIx, gV_pI, gI_pA, gV_pAx, upd] using h_l
  · simpa [R_f, gI_pIx, gV_pI, gI_pA, gV_pAx, upd] using h_f
theorem RN_p197 {b c np nw nk nt nl nf : Nat} {σ τ : fr_S} {j : Nat} {v : Int32} (h : RN b c np nw nk nt nl nf σ τ) : RN b c np nw nk nt nl nf (pI σ 197 (b + 38 + 3 * j) v) (pA τ (c + 8) (upd (gV τ (c + 8)) j v)) := by
  obtain ⟨h_c, h_g, h_h, h_p, h_b, h_w, h_k, h_t, h_l, h_f⟩ := h
  refine ⟨?_, ?_, ?_, ?_, ?_, ?_, ?_, ?_, ?_, ?_⟩
  · simpa [R_c, gI_pIx, gV_pI, gI_pA, gV_pAx, upd] using h_c
  · simpa [R_g, gI_pIx, gV_pI, gI_pA, gV_pAx, upd] using h_g
  · simpa [R_h, gI_pIx, gV_pI, gI_pA, gV_pAx, upd] using h_h
  · intro i hi
    obtain ⟨g1, g2, g3, g4, g5, g6, g7, g8, g9, g10⟩ := h_p i hi
    by_cases e : i = j
    · subst e; simp [gI_pIx, gV_pI, gI_pA, gV_pAx, upd, g1, g2, g3, g4, g5, g6, g7]; exact ⟨g8, g9, g10⟩
    · have e3 : ¬ 3 * i = 3 * j := by omega
      simp [gI_pIx, gV_pI, gI_pA, gV_pAx, upd, e, e3, g1, g2, g3, g4, g5, g6, g7]; exact ⟨g8, g9, g10⟩
  · simpa [R_b, R_r, gI_pIx, gV_pI, gI_pA, gV_pAx, upd] using h_b
  · simpa [R_w, R_r, gI_pIx, gV_pI, gI_pA, gV_pAx, upd] using h_w
  · simpa [R_k, R_r, gI_pIx, gV_pI, gI_pA, gV_pAx, upd] using h_k
  · simpa [R_t, gI_pIx, gV_pI, gI_pA, gV_pAx, upd] using h_t
  · simpa [R_l, gI_pIx, gV_pI, gI_pA, gV_pAx, upd] using h_l
  · simpa [R_f, gI_pIx, gV_pI, gI_pA, gV_pAx, upd] using h_f
theorem RN_p198 {b c np nw nk nt nl nf : Nat} {σ τ : fr_S} {j : Nat} {v : Int32} (h : RN b c np nw nk nt nl nf σ τ) : RN b c np nw nk nt nl nf (pI σ 198 (b + 38 + 3 * j) v) (pA τ (c + 10) (upd (gV τ (c + 10)) j v)) := by
  obtain ⟨h_c, h_g, h_h, h_p, h_b, h_w, h_k, h_t, h_l, h_f⟩ := h
  refine ⟨?_, ?_, ?_, ?_, ?_, ?_, ?_, ?_, ?_, ?_⟩
  · simpa [R_c, gI_pIx, gV_pI, gI_pA, gV_pAx, upd] using h_c
  · simpa [R_g, gI_pIx, gV_pI, gI_pA, gV_pAx, upd] using h_g
  · simpa [R_h, gI_pIx, gV_pI, gI_pA, gV_pAx, upd] using h_h
  · intro i hi
    obtain ⟨g1, g2, g3, g4, g5, g6, g7, g8, g9, g10⟩ := h_p i hi
    by_cases e : i = j
    · subst e; simp [gI_pIx, gV_pI, gI_pA, gV_pAx, upd, g1, g2, g3, g4, g5, g6, g7]; exact ⟨g8, g9, g10⟩
    · have e3 : ¬ 3 * i = 3 * j := by omega
      simp [gI_pIx, gV_pI, gI_pA, gV_pAx, upd, e, e3, g1, g2, g3, g4, g5, g6, g7]; exact ⟨g8, g9, g10⟩
  · simpa [R_b, R_r, gI_pIx, gV_pI, gI_pA, gV_pAx, upd] using h_b
  · simpa [R_w, R_r, gI_pIx, gV_pI, gI_pA, gV_pAx, upd] using h_w
  · simpa [R_k, R_r, gI_pIx, gV_pI, gI_pA, gV_pAx, upd] using h_k
  · simpa [R_t, gI_pIx, gV_pI, gI_pA, gV_pAx, upd] using h_t
  · simpa [R_l, gI_pIx, gV_pI, gI_pA, gV_pAx, upd] using h_l
  · simpa [R_f, gI_pIx, gV_pI, gI_pA, gV_pAx, upd] using h_f
theorem RN_p199 {b c np nw nk nt nl nf : Nat} {σ τ : fr_S} {j : Nat} {v : Int32} (h : RN b c np nw nk nt nl nf σ τ) : RN b c np nw nk nt nl nf (pI σ 199 (b + 38 + 3 * j) v) (pA τ (c + 11) (upd (gV τ (c + 11)) j v)) := by
  obtain ⟨h_c, h_g, h_h, h_p, h_b, h_w, h_k, h_t, h_l, h_f⟩ := h
  refine ⟨?_, ?_, ?_, ?_, ?_, ?_, ?_, ?_, ?_, ?_⟩
  · simpa [R_c, gI_pIx, gV_pI, gI_pA, gV_pAx, upd] using h_c
  · simpa [R_g, gI_pIx, gV_pI, gI_pA, gV_pAx, upd] using h_g
  · simpa [R_h, gI_pIx, gV_pI, gI_pA, gV_pAx, upd] using h_h
  · intro i hi
    obtain ⟨g1, g2, g3, g4, g5, g6, g7, g8, g9, g10⟩ := h_p i hi
    by_cases e : i = j
    · subst e; simp [gI_pIx, gV_pI, gI_pA, gV_pAx, upd, g1, g2, g3, g4, g5, g6, g7]; exact ⟨g8, g9, g10⟩
    · have e3 : ¬ 3 * i = 3 * j := by omega
      simp [gI_pIx, gV_pI, gI_pA, gV_pAx, upd, e, e3, g1, g2, g3, g4, g5, g6, g7]; exact ⟨g8, g9, g10⟩
  · simpa [R_b, R_r, gI_pIx, gV_pI, gI_pA, gV_pAx, upd] using h_b
  · simpa [R_w, R_r, gI_pIx, gV_pI, gI_pA, gV_pAx, upd] using h_w
  · simpa [R_k, R_r, gI_pIx, gV_pI, gI_pA, gV_pAx, upd] using h_k
  · simpa [R_t, gI_pIx, gV_pI, gI_pA, gV_pAx, upd] using h_t
  · simpa [R_l, gI_pIx, gV_pI, gI_pA, gV_pAx, upd] using h_l
  · simpa [R_f, gI_pIx, gV_pI, gI_pA, gV_pAx, upd] using h_f
theorem RN_p200 {b c np nw nk nt nl nf : Nat} {σ τ : fr_S} {j : Nat} {v : Int32} (h : RN b c np nw nk nt nl nf σ τ) : RN b c np nw nk nt nl nf (pI σ 200 (b + 38 + 3 * j) v) (pA τ (c + 12) (upd (gV τ (c + 12)) j v)) := by
  obtain ⟨h_c, h_g, h_h, h_p, h_b, h_w, h_k, h_t, h_l, h_f⟩ := h
  refine ⟨?_, ?_, ?_, ?_, ?_, ?_, ?_, ?_, ?_, ?_⟩
  · simpa [R_c, gI_pIx, gV_pI, gI_pA, gV_pAx, upd] using h_c
  · simpa [R_g, gI_pIx, gV_pI, gI_pA, gV_pAx, upd] using h_g
  · simpa [R_h, gI_pIx, gV_pI, gI_pA, gV_pAx, upd] using h_h
  · intro i hi
    obtain ⟨g1, g2, g3, g4, g5, g6, g7, g8, g9, g10⟩ := h_p i hi
    by_cases e : i = j
    · subst e; simp [gI_pIx, gV_pI, gI_pA, gV_pAx, upd, g1, g2, g3, g4, g5, g6, g7]; exact ⟨g8, g9, g10⟩
    · have e3 : ¬ 3 * i = 3 * j := by omega
      simp [gI_pIx, gV_pI, gI_pA, gV_pAx, upd, e, e3, g1, g2, g3, g4, g5, g6, g7]; exact ⟨g8, g9, g10⟩
  · simpa [R_b, R_r, gI_pIx, gV_pI, gI_pA, gV_pAx, upd] using h_b
  · simpa [R_w, R_r, gI_pIx, gV_pI, gI_pA, gV_pAx, upd] using h_w
  · simpa [R_k, R_r, gI_pIx, gV_pI, gI_pA, gV_pAx, upd] using h_k
  · simpa [R_t, gI_pIx, gV_pI, gI_pA, gV_pAx, upd] using h_t
  · simpa [R_l, gI_pIx, gV_pI, gI_pA, gV_pAx, upd] using h_l
  · simpa [R_f, gI_pIx, gV_pI, gI_pA, gV_pAx, upd] using h_f
theorem RN_p201 {b c np nw nk nt nl nf : Nat} {σ τ : fr_S} {j : Nat} {v : Int32} (h : RN b c np nw nk nt nl nf σ τ) : RN b c np nw nk nt nl nf (pI σ 201 (b + 38 + 3 * j) v) (pA τ (c + 13) (upd (gV τ (c + 13)) j v)) := by
  obtain ⟨h_c, h_g, h_h, h_p, h_b, h_w, h_k, h_t, h_l, h_f⟩ := h
  refine ⟨?_, ?_, ?_, ?_, ?_, ?_, ?_, ?_, ?_, ?_⟩
  · simpa [R_c, gI_pIx, gV_pI, gI_pA, gV_pAx, upd] using h_c
  · simpa [R_g, gI_pIx, gV_pI, gI_pA, gV_pAx, upd] using h_g
  · simpa [R_h, gI_pIx, gV_pI, gI_pA, gV_pAx, upd] using h_h
  · intro i hi
    obtain ⟨g1, g2, g3, g4, g5, g6, g7, g8, g9, g10⟩ := h_p i hi
    by_cases e : i = j
    · subst e; simp [gI_pIx, gV_pI, gI_pA, gV_pAx, upd, g1, g2, g3, g4, g5, g6, g7]; exact ⟨g8, g9, g10⟩
    · have e3 : ¬ 3 * i = 3 * j := by omega
      simp [gI_pIx, gV_pI, gI_pA, gV_pAx, upd, e, e3, g1, g2, g3, g4, g5, g6, g7]; exact ⟨g8, g9, g10⟩
  · simpa [R_b, R_r, gI_pIx, gV_pI, gI_pA, gV_pAx, upd] using h_b
  · simpa [R_w, R_r, gI_pIx, gV_pI, gI_pA, gV_pAx, upd] using h_w
  · simpa [R_k, R_r, gI_pIx, gV_pI, gI_pA, gV_pAx, upd] using h_k
  · simpa [R_t, gI_pIx, gV_pI, gI_pA, gV_pAx, upd] using h_t
  · simpa [R_l, gI_pIx, gV_pI, gI_pA, gV_pAx, upd] using h_l
  · simpa [R_f, gI_pIx, gV_pI, gI_pA, gV_pAx, upd] using h_f
theorem RN_p194 {b c np nw nk nt nl nf : Nat} {σ τ : fr_S} {j : Nat} {v : Int32} (h : RN b c np nw nk nt nl nf σ τ) : RN b c np nw nk nt nl nf (pI σ 194 (b + 38 + 3 * j) v) (pA τ (c + 4) (upd (gV τ (c + 4)) j v)) := by
  obtain ⟨h_c, h_g, h_h, h_p, h_b, h_w, h_k, h_t, h_l, h_f⟩ := h
  refine ⟨?_, ?_, ?_, ?_, ?_, ?_, ?_, ?_, ?_, ?_⟩
  · simpa [R_c, gI_pIx, gV_pI, gI_pA, gV_pAx, upd] using h_c
  · simpa [R_g, gI_pIx, gV_pI, gI_pA, gV_pAx, upd] using h_g
  · simpa [R_h, gI_pIx, gV_pI, gI_pA, gV_pAx, upd] using h_h
  · intro i hi
    obtain ⟨g1, g2, g3, g4, g5, g6, g7, g8, g9, g10⟩ := h_p i hi
    by_cases e : i = j
    · subst e; simp [gI_pIx, gV_pI, gI_pA, gV_pAx, upd, g1, g2, g3, g4, g5, g6, g7]; exact ⟨g9, g10⟩
    · have e3 : ¬ 3 * i = 3 * j := by omega
      simp [gI_pIx, gV_pI, gI_pA, gV_pAx, upd, e, e3, g1, g2, g3, g4, g5, g6, g7]; exact ⟨g8, g9, g10⟩
  · simpa [R_b, R_r, gI_pIx, gV_pI, gI_pA, gV_pAx, upd] using h_b
  · simpa [R_w, R_r, gI_pIx, gV_pI, gI_pA, gV_pAx, upd] using h_w
  · simpa [R_k, R_r, gI_pIx, gV_pI, gI_pA, gV_pAx, upd] using h_k
  · simpa [R_t, gI_pIx, gV_pI, gI_pA, gV_pAx, upd] using h_t
  · simpa [R_l, gI_pIx, gV_pI, gI_pA, gV_pAx, upd] using h_l
  · simpa [R_f, gI_pIx, gV_pI, gI_pA, gV_pAx, upd] using h_f
theorem RN_p195 {b c np nw nk nt nl nf : Nat} {σ τ : fr_S} {j : Nat} {v : Int32} (hj : j < np) (h : RN b c np nw nk nt nl nf σ τ) : RN b c np nw nk nt nl nf (pI σ 195 (b + 38 + 3 * j) v) (pA τ (c + 6) (upd (gV τ (c + 6)) j v)) := by
  obtain ⟨h_c, h_g, h_h, h_p, h_b, h_w, h_k, h_t, h_l, h_f⟩ := h
  refine ⟨?_, ?_, ?_, ?_, ?_, ?_, ?_, ?_, ?_, ?_⟩
  · simpa [R_c, gI_pIx, gV_pI, gI_pA, gV_pAx, upd] using h_c
  · simpa [R_g, gI_pIx, gV_pI, gI_pA, gV_pAx, upd] using h_g
  · simpa [R_h, gI_pIx, gV_pI, gI_pA, gV_pAx, upd] using h_h
  · intro i hi
    obtain ⟨g1, g2, g3, g4, g5, g6, g7, g8, g9, g10⟩ := h_p i hi
    by_cases e : i = j
    · subst e; simp [gI_pIx, gV_pI, gI_pA, gV_pAx, upd, g1, g2, g3, g4, g5, g6, g7]; exact ⟨g8, fun z => by omega⟩
    · have e3 : ¬ 3 * i = 3 * j := by omega
      simp [gI_pIx, gV_pI, gI_pA, gV_pAx, upd, e, e3, g1, g2, g3, g4, g5, g6, g7]; exact ⟨g8, g9, g10⟩
  · simpa [R_b, R_r, gI_pIx, gV_pI, gI_pA, gV_pAx, upd] using h_b
  · simpa [R_w, R_r, gI_pIx, gV_pI, gI_pA, gV_pAx, upd] using h_w
  · simpa [R_k, R_r, gI_pIx, gV_pI, gI_pA, gV_pAx, upd] using h_k
  · simpa [R_t, gI_pIx, gV_pI, gI_pA, gV_pAx, upd] using h_t
  · simpa [R_l, gI_pIx, gV_pI, gI_pA, gV_pAx, upd] using h_l
  · simpa [R_f, gI_pIx, gV_pI, gI_pA, gV_pAx, upd] using h_f
theorem RN_lead {b c np nw nk nt nl nf : Nat} {σ τ : fr_S} {j : Nat} {v : Int32} (hj : np ≤ j) (h : RN b c np nw nk nt nl nf σ τ) : RN b c np nw nk nt nl nf σ (pA τ (c + 6) (upd (gV τ (c + 6)) j v)) := by
  obtain ⟨h_c, h_g, h_h, h_p, h_b, h_w, h_k, h_t, h_l, h_f⟩ := h
  refine ⟨?_, ?_, ?_, ?_, ?_, ?_, ?_, ?_, ?_, ?_⟩
  · simpa [R_c, gI_pIx, gV_pI, gI_pA, gV_pAx, upd] using h_c
  · simpa [R_g, gI_pIx, gV_pI, gI_pA, gV_pAx, upd] using h_g
  · simpa [R_h, gI_pIx, gV_pI, gI_pA, gV_pAx, upd] using h_h
  · intro i hi
    obtain ⟨g1, g2, g3, g4, g5, g6, g7, g8, g9, g10⟩ := h_p i hi
    refine ⟨by simp [gI_pIx, gV_pI, gI_pA, gV_pAx, upd, g1], by simp [gI_pIx, gV_pI, gI_pA, gV_pAx, upd, g2], by simp [gI_pIx, gV_pI, gI_pA, gV_pAx, upd, g3], by simp [gI_pIx, gV_pI, gI_pA, gV_pAx, upd, g4], by simp [gI_pIx, gV_pI, gI_pA, gV_pAx, upd, g5], by simp [gI_pIx, gV_pI, gI_pA, gV_pAx, upd, g6], by simp [gI_pIx, gV_pI, gI_pA, gV_pAx, upd, g7], by simpa [gI_pIx, gV_pI, gI_pA, gV_pAx, upd] using g8, fun z => ?_, g10⟩
    have e : i ≠ j := by omega
    simp [gI_pIx, gV_pI, gI_pA, gV_pAx, upd, e, g9 z]
  · simpa [R_b, R_r, gI_pIx, gV_pI, gI_pA, gV_pAx, upd] using h_b
  · simpa [R_w, R_r, gI_pIx, gV_pI, gI_pA, gV_pAx, upd] using h_w
  · simpa [R_k, R_r, gI_pIx, gV_pI, gI_pA, gV_pAx, upd] using h_k
  · simpa [R_t, gI_pIx, gV_pI, gI_pA, gV_pAx, upd] using h_t
  · simpa [R_l, gI_pIx, gV_pI, gI_pA, gV_pAx, upd] using h_l
  · simpa [R_f, gI_pIx, gV_pI, gI_pA, gV_pAx, upd] using h_f
theorem RN_h1 {b c np nw nk nt nl nf : Nat} {σ τ : fr_S} {j : Nat} {v : Int32} (h : RN b c np nw nk nt nl nf σ τ) : RN b c np nw nk nt nl nf (pA σ (b + 1) (upd (gV σ (b + 1)) j v)) (pA τ (c + 1) (upd (gV τ (c + 1)) j v)) := by
  obtain ⟨h_c, h_g, h_h, h_p, h_b, h_w, h_k, h_t, h_l, h_f⟩ := h
  refine ⟨?_, ?_, ?_, ?_, ?_, ?_, ?_, ?_, ?_, ?_⟩
  · simpa [R_c, gI_pIx, gV_pI, gI_pA, gV_pAx, upd] using h_c
  · simpa [R_g, gI_pIx, gV_pI, gI_pA, gV_pAx, upd] using h_g
  · refine ⟨fun i hi => ?_, fun i hi => ?_⟩
    · by_cases e : i = j
      · subst e; simp [gI_pIx, gV_pI, gI_pA, gV_pAx, upd, h_h.1 i hi]
      · simp [gI_pIx, gV_pI, gI_pA, gV_pAx, upd, e, h_h.1 i hi]
    · by_cases e : i = j
      · subst e; simp [gI_pIx, gV_pI, gI_pA, gV_pAx, upd, h_h.2 i hi]
      · simp [gI_pIx, gV_pI, gI_pA, gV_pAx, upd, e, h_h.2 i hi]
  · simpa [R_p, gI_pIx, gV_pI, gI_pA, gV_pAx, upd] using h_p
  · intro i hi
    obtain ⟨g1, g2⟩ := h_b i hi
    refine ⟨by simpa [gI_pIx, gV_pI, gI_pA, gV_pAx, upd] using g1, fun m k e hm hk => ?_⟩
    rw [gV_pAn (by omega)]
    simpa [gI_pIx, gV_pI, gI_pA, gV_pAx, upd] using g2 m k (by simpa [gI_pIx, gV_pI, gI_pA, gV_pAx, upd] using e) hm hk
  · intro i hi
    obtain ⟨g1, g2, g3, g4, g5, g6, g7, g8⟩ := h_w i hi
    refine ⟨by simpa [gI_pIx, gV_pI, gI_pA, gV_pAx, upd] using g1, by simpa [gI_pIx, gV_pI, gI_pA, gV_pAx, upd] using g2, by simpa [gI_pIx, gV_pI, gI_pA, gV_pAx, upd] using g3, by simpa [gI_pIx, gV_pI, gI_pA, gV_pAx, upd] using g4, fun m k e hm hk => ?_, by simpa [gI_pIx, gV_pI, gI_pA, gV_pAx, upd] using g6, by simpa [gI_pIx, gV_pI, gI_pA, gV_pAx, upd] using g7, fun z => ?_⟩
    · rw [gV_pAn (by omega)]
      simpa [gI_pIx, gV_pI, gI_pA, gV_pAx, upd] using g5 m k (by simpa [gI_pIx, gV_pI, gI_pA, gV_pAx, upd] using e) hm hk
    · have g8 := g8 (by simpa [gI_pIx, gV_pI, gI_pA, gV_pAx, upd] using z)
      refine ⟨by simpa [gI_pIx, gV_pI, gI_pA, gV_pAx, upd] using g8.1, fun m k e hm hk => ?_⟩
      rw [gV_pAn (by omega)]
      simpa [gI_pIx, gV_pI, gI_pA, gV_pAx, upd] using g8.2 m k (by simpa [gI_pIx, gV_pI, gI_pA, gV_pAx, upd] using e) hm hk
  · intro i hi
    have hnk := h_c.2.2.1.1
    obtain ⟨g1, g2⟩ := h_k i hi
    refine ⟨by simpa [gI_pIx, gV_pI, gI_pA, gV_pAx, upd] using g1, by simpa [gI_pIx, gV_pI, gI_pA, gV_pAx, upd] using g2.1, fun m k e hm hk => ?_⟩
    rw [gV_pAn (by omega)]
    simpa [gI_pIx, gV_pI, gI_pA, gV_pAx, upd] using g2.2 m k (by simpa [gI_pIx, gV_pI, gI_pA, gV_pAx, upd] using e) hm hk
  · simpa [R_t, gI_pIx, gV_pI, gI_pA, gV_pAx, upd] using h_t
  · simpa [R_l, gI_pIx, gV_pI, gI_pA, gV_pAx, upd] using h_l
  · simpa [R_f, gI_pIx, gV_pI, gI_pA, gV_pAx, upd] using h_f
theorem RN_h2 {b c np nw nk nt nl nf : Nat} {σ τ : fr_S} {j : Nat} {v : Int32} (h : RN b c np nw nk nt nl nf σ τ) : RN b c np nw nk nt nl nf (pA σ (b + 2) (upd (gV σ (b + 2)) j v)) (pA τ (c + 2) (upd (gV τ (c + 2)) j v)) := by
  obtain ⟨h_c, h_g, h_h, h_p, h_b, h_w, h_k, h_t, h_l, h_f⟩ := h
  refine ⟨?_, ?_, ?_, ?_, ?_, ?_, ?_, ?_, ?_, ?_⟩
  · simpa [R_c, gI_pIx, gV_pI, gI_pA, gV_pAx, upd] using h_c
  · simpa [R_g, gI_pIx, gV_pI, gI_pA, gV_pAx, upd] using h_g
  · refine ⟨fun i hi => ?_, fun i hi => ?_⟩
    · by_cases e : i = j
      · subst e; simp [gI_pIx, gV_pI, gI_pA, gV_pAx, upd, h_h.1 i hi]
      · simp [gI_pIx, gV_pI, gI_pA, gV_pAx, upd, e, h_h.1 i hi]
    · by_cases e : i = j
      · subst e; simp [gI_pIx, gV_pI, gI_pA, gV_pAx, upd, h_h.2 i hi]
      · simp [gI_pIx, gV_pI, gI_pA, gV_pAx, upd, e, h_h.2 i hi]
  · simpa [R_p, gI_pIx, gV_pI, gI_pA, gV_pAx, upd] using h_p
  · intro i hi
    obtain ⟨g1, g2⟩ := h_b i hi
    refine ⟨by simpa [gI_pIx, gV_pI, gI_pA, gV_pAx, upd] using g1, fun m k e hm hk => ?_⟩
    rw [gV_pAn (by omega)]
    simpa [gI_pIx, gV_pI, gI_pA, gV_pAx, upd] using g2 m k (by simpa [gI_pIx, gV_pI, gI_pA, gV_pAx, upd] using e) hm hk
  · intro i hi
    obtain ⟨g1, g2, g3, g4, g5, g6, g7, g8⟩ := h_w i hi
    refine ⟨by simpa [gI_pIx, gV_pI, gI_pA, gV_pAx, upd] using g1, by simpa [gI_pIx, gV_pI, gI_pA, gV_pAx, upd] using g2, by simpa [gI_pIx, gV_pI, gI_pA, gV_pAx, upd] using g3, by simpa [gI_pIx, gV_pI, gI_pA, gV_pAx, upd] using g4, fun m k e hm hk => ?_, by simpa [gI_pIx, gV_pI, gI_pA, gV_pAx, upd] using g6, by simpa [gI_pIx, gV_pI, gI_pA, gV_pAx, upd] using g7, fun z => ?_⟩
    · rw [gV_pAn (by omega)]
      simpa [gI_pIx, gV_pI, gI_pA, gV_pAx, upd] using g5 m k (by simpa [gI_pIx, gV_pI, gI_pA, gV_pAx, upd] using e) hm hk
    · have g8 := g8 (by simpa [gI_pIx, gV_pI, gI_pA, gV_pAx, upd] using z)
      refine ⟨by simpa [gI_pIx, gV_pI, gI_pA, gV_pAx, upd] using g8.1, fun m k e hm hk => ?_⟩
      rw [gV_pAn (by omega)]
      simpa [gI_pIx, gV_pI, gI_pA, gV_pAx, upd] using g8.2 m k (by simpa [gI_pIx, gV_pI, gI_pA, gV_pAx, upd] using e) hm hk
  · intro i hi
    have hnk := h_c.2.2.1.1
    obtain ⟨g1, g2⟩ := h_k i hi
    refine ⟨by simpa [gI_pIx, gV_pI, gI_pA, gV_pAx, upd] using g1, by simpa [gI_pIx, gV_pI, gI_pA, gV_pAx, upd] using g2.1, fun m k e hm hk => ?_⟩
    rw [gV_pAn (by omega)]
    simpa [gI_pIx, gV_pI, gI_pA, gV_pAx, upd] using g2.2 m k (by simpa [gI_pIx, gV_pI, gI_pA, gV_pAx, upd] using e) hm hk
  · simpa [R_t, gI_pIx, gV_pI, gI_pA, gV_pAx, upd] using h_t
  · simpa [R_l, gI_pIx, gV_pI, gI_pA, gV_pAx, upd] using h_l
  · simpa [R_f, gI_pIx, gV_pI, gI_pA, gV_pAx, upd] using h_f
theorem RN_w451 {b c np nw nk nt nl nf : Nat} {σ τ : fr_S} {j : Nat} {v : Int32} (h : RN b c np nw nk nt nl nf σ τ) : RN b c np nw nk nt nl nf (pI σ 451 (b + 86 + 4 * j) v) (pA τ (c + 14) (upd (gV τ (c + 14)) j v)) := by
  obtain ⟨h_c, h_g, h_h, h_p, h_b, h_w, h_k, h_t, h_l, h_f⟩ := h
  refine ⟨?_, ?_, ?_, ?_, ?_, ?_, ?_, ?_, ?_, ?_⟩
  · simpa [R_c, gI_pIx, gV_pI, gI_pA, gV_pAx, upd] using h_c
  · simpa [R_g, gI_pIx, gV_pI, gI_pA, gV_pAx, upd] using h_g
  · simpa [R_h, gI_pIx, gV_pI, gI_pA, gV_pAx, upd] using h_h
  · simpa [R_p, gI_pIx, gV_pI, gI_pA, gV_pAx, upd] using h_p
  · simpa [R_b, R_r, gI_pIx, gV_pI, gI_pA, gV_pAx, upd] using h_b
  · intro i hi
    obtain ⟨g1, g2, g3, g4, g5, g6, g7, g8⟩ := h_w i hi
    by_cases e : i = j
    · subst e
      refine ⟨?_, ?_, ?_, ?_, ?_, ?_, ?_, ?_⟩
      · simp [gI_pIx, gV_pI, gI_pA, gV_pAx, upd, g1]
      · simp [gI_pIx, gV_pI, gI_pA, gV_pAx, upd, g2]
      · simp [gI_pIx, gV_pI, gI_pA, gV_pAx, upd, g3]
      · simp [gI_pIx, gV_pI, gI_pA, gV_pAx, upd, g4]
      · simpa [gI_pIx, gV_pI, gI_pA, gV_pAx, upd] using g5
      · simpa [gI_pIx, gV_pI, gI_pA, gV_pAx, upd] using g6
      · simpa [gI_pIx, gV_pI, gI_pA, gV_pAx, upd] using g7
      · simpa [R_r, gI_pIx, gV_pI, gI_pA, gV_pAx, upd] using g8
    · have e4 : ¬ 4 * i = 4 * j := by omega
      refine ⟨?_, ?_, ?_, ?_, ?_, ?_, ?_, ?_⟩
      · simp [gI_pIx, gV_pI, gI_pA, gV_pAx, upd, e, e4, g1]
      · simp [gI_pIx, gV_pI, gI_pA, gV_pAx, upd, e, e4, g2]
      · simp [gI_pIx, gV_pI, gI_pA, gV_pAx, upd, e, e4, g3]
      · simp [gI_pIx, gV_pI, gI_pA, gV_pAx, upd, e, e4, g4]
      · simpa [gI_pIx, gV_pI, gI_pA, gV_pAx, upd, e, e4] using g5
      · simpa [gI_pIx, gV_pI, gI_pA, gV_pAx, upd, e, e4] using g6
      · simpa [gI_pIx, gV_pI, gI_pA, gV_pAx, upd, e, e4] using g7
      · simpa [R_r, gI_pIx, gV_pI, gI_pA, gV_pAx, upd, e, e4] using g8
  · simpa [R_k, R_r, gI_pIx, gV_pI, gI_pA, gV_pAx, upd] using h_k
  · simpa [R_t, gI_pIx, gV_pI, gI_pA, gV_pAx, upd] using h_t
  · simpa [R_l, gI_pIx, gV_pI, gI_pA, gV_pAx, upd] using h_l
  · simpa [R_f, gI_pIx, gV_pI, gI_pA, gV_pAx, upd] using h_f
theorem RN_w456 {b c np nw nk nt nl nf : Nat} {σ τ : fr_S} {j : Nat} {v : Int32} (h : RN b c np nw nk nt nl nf σ τ) : RN b c np nw nk nt nl nf (pI σ 456 (b + 86 + 4 * j) v) (pA τ (c + 22) (upd (gV τ (c + 22)) j v)) := by
  obtain ⟨h_c, h_g, h_h, h_p, h_b, h_w, h_k, h_t, h_l, h_f⟩ := h
  refine ⟨?_, ?_, ?_, ?_, ?_, ?_, ?_, ?_, ?_, ?_⟩
  · simpa [R_c, gI_pIx, gV_pI, gI_pA, gV_pAx, upd] using h_c
  · simpa [R_g, gI_pIx, gV_pI, gI_pA, gV_pAx, upd] using h_g
  · simpa [R_h, gI_pIx, gV_pI, gI_pA, gV_pAx, upd] using h_h
  · simpa [R_p, gI_pIx, gV_pI, gI_pA, gV_pAx, upd] using h_p
  · simpa [R_b, R_r, gI_pIx, gV_pI, gI_pA, gV_pAx, upd] using h_b
  · intro i hi
    obtain ⟨g1, g2, g3, g4, g5, g6, g7, g8⟩ := h_w i hi
    by_cases e : i = j
    · subst e
      refine ⟨?_, ?_, ?_, ?_, ?_, ?_, ?_, ?_⟩
      · simp [gI_pIx, gV_pI, gI_pA, gV_pAx, upd, g1]
      · simp [gI_pIx, gV_pI, gI_pA, gV_pAx, upd, g2]
      · simp [gI_pIx, gV_pI, gI_pA, gV_pAx, upd, g3]
      · simp [gI_pIx, gV_pI, gI_pA, gV_pAx, upd, g4]
      · simpa [gI_pIx, gV_pI, gI_pA, gV_pAx, upd] using g5
      · simpa [gI_pIx, gV_pI, gI_pA, gV_pAx, upd] using g6
      · simpa [gI_pIx, gV_pI, gI_pA, gV_pAx, upd] using g7
      · simpa [R_r, gI_pIx, gV_pI, gI_pA, gV_pAx, upd] using g8
    · have e4 : ¬ 4 * i = 4 * j := by omega
      refine ⟨?_, ?_, ?_, ?_, ?_, ?_, ?_, ?_⟩
      · simp [gI_pIx, gV_pI, gI_pA, gV_pAx, upd, e, e4, g1]
      · simp [gI_pIx, gV_pI, gI_pA, gV_pAx, upd, e, e4, g2]
      · simp [gI_pIx, gV_pI, gI_pA, gV_pAx, upd, e, e4, g3]
      · simp [gI_pIx, gV_pI, gI_pA, gV_pAx, upd, e, e4, g4]
      · simpa [gI_pIx, gV_pI, gI_pA, gV_pAx, upd, e, e4] using g5
      · simpa [gI_pIx, gV_pI, gI_pA, gV_pAx, upd, e, e4] using g6
      · simpa [gI_pIx, gV_pI, gI_pA, gV_pAx, upd, e, e4] using g7
      · simpa [R_r, gI_pIx, gV_pI, gI_pA, gV_pAx, upd, e, e4] using g8
  · simpa [R_k, R_r, gI_pIx, gV_pI, gI_pA, gV_pAx, upd] using h_k
  · simpa [R_t, gI_pIx, gV_pI, gI_pA, gV_pAx, upd] using h_t
  · simpa [R_l, gI_pIx, gV_pI, gI_pA, gV_pAx, upd] using h_l
  · simpa [R_f, gI_pIx, gV_pI, gI_pA, gV_pAx, upd] using h_f
theorem RN_cw {b c np nw nk nt nl nf : Nat} {σ τ : fr_S} {n : Nat} (hn : n ≤ 10) (h : RN b c np nw nk nt nl nf σ τ) : RN b c np n nk nt nl nf (pI σ 70 b (nI n)) (pI τ 7 c (nI n)) := by
  obtain ⟨h_c, h_g, h_h, h_p, h_b, h_w, h_k, h_t, h_l, h_f⟩ := h
  refine ⟨?_, ?_, ?_, ?_, ?_, ?_, ?_, ?_, ?_, ?_⟩
  · refine ⟨?_, ⟨hn, ?_, ?_⟩, ?_, ?_, ?_, ?_⟩
    · simpa [gI_pIx, gV_pI, gI_pA, gV_pAx, upd] using h_c.1
    · simp [gI_pIx, gV_pI, gI_pA, gV_pAx, upd]
    · simp [gI_pIx, gV_pI, gI_pA, gV_pAx, upd]
    · simpa [gI_pIx, gV_pI, gI_pA, gV_pAx, upd] using h_c.2.2.1
    · simpa [gI_pIx, gV_pI, gI_pA, gV_pAx, upd] using h_c.2.2.2.1
    · simpa [gI_pIx, gV_pI, gI_pA, gV_pAx, upd] using h_c.2.2.2.2.1
    · simpa [gI_pIx, gV_pI, gI_pA, gV_pAx, upd] using h_c.2.2.2.2.2
  · simpa [R_g, gI_pIx, gV_pI, gI_pA, gV_pAx, upd] using h_g
  · simpa [R_h, gI_pIx, gV_pI, gI_pA, gV_pAx, upd] using h_h
  · simpa [R_p, gI_pIx, gV_pI, gI_pA, gV_pAx, upd] using h_p
  · simpa [R_b, R_r, gI_pIx, gV_pI, gI_pA, gV_pAx, upd] using h_b
  · simpa [R_w, R_r, gI_pIx, gV_pI, gI_pA, gV_pAx, upd] using h_w
  · simpa [R_k, R_r, gI_pIx, gV_pI, gI_pA, gV_pAx, upd] using h_k
  · simpa [R_t, gI_pIx, gV_pI, gI_pA, gV_pAx, upd] using h_t
  · simpa [R_l, gI_pIx, gV_pI, gI_pA, gV_pAx, upd] using h_l
  · simpa [R_f, gI_pIx, gV_pI, gI_pA, gV_pAx, upd] using h_f
theorem RN_cp {b c np nw nk nt nl nf : Nat} {σ τ : fr_S} (hn : np + 1 ≤ 16) (h4 : gI σ 194 (b + 38 + 3 * np) = gV τ (c + 4) np) (h6 : gI σ 195 (b + 38 + 3 * np) = gV τ (c + 6) np) (h : RN b c np nw nk nt nl nf σ τ) : RN b c (np + 1) nw nk nt nl nf (pI σ 68 b (nI (np + 1))) (pI τ 6 c (nI (np + 1))) := by
  obtain ⟨h_c, h_g, h_h, h_p, h_b, h_w, h_k, h_t, h_l, h_f⟩ := h
  refine ⟨?_, ?_, ?_, ?_, ?_, ?_, ?_, ?_, ?_, ?_⟩
  · refine ⟨⟨hn, ?_, ?_⟩, ?_, ?_, ?_, ?_, ?_⟩
    · simp [gI_pIx, gV_pI, gI_pA, gV_pAx, upd]
    · simp [gI_pIx, gV_pI, gI_pA, gV_pAx, upd]
    · simpa [gI_pIx, gV_pI, gI_pA, gV_pAx, upd] using h_c.2.1
    · simpa [gI_pIx, gV_pI, gI_pA, gV_pAx, upd] using h_c.2.2.1
    · simpa [gI_pIx, gV_pI, gI_pA, gV_pAx, upd] using h_c.2.2.2.1
    · simpa [gI_pIx, gV_pI, gI_pA, gV_pAx, upd] using h_c.2.2.2.2.1
    · simpa [gI_pIx, gV_pI, gI_pA, gV_pAx, upd] using h_c.2.2.2.2.2
  · simpa [R_g, gI_pIx, gV_pI, gI_pA, gV_pAx, upd] using h_g
  · simpa [R_h, gI_pIx, gV_pI, gI_pA, gV_pAx, upd] using h_h
  · intro i hi
    obtain ⟨g1, g2, g3, g4, g5, g6, g7, g8, g9, g10⟩ := h_p i hi
    simp [gI_pIx, gV_pI, gI_pA, gV_pAx, upd, g1, g2, g3, g4, g5, g6, g7]
    refine ⟨fun z => ?_, fun z => ?_, fun z => g10 (by omega)⟩
    · by_cases e : i = np
      · subst e; exact h4
      · exact g8 (by omega)
    · by_cases e : i = np
      · subst e; exact h6
      · exact g9 (by omega)
  · simpa [R_b, R_r, gI_pIx, gV_pI, gI_pA, gV_pAx, upd] using h_b
  · simpa [R_w, R_r, gI_pIx, gV_pI, gI_pA, gV_pAx, upd] using h_w
  · simpa [R_k, R_r, gI_pIx, gV_pI, gI_pA, gV_pAx, upd] using h_k
  · simpa [R_t, gI_pIx, gV_pI, gI_pA, gV_pAx, upd] using h_t
  · simpa [R_l, gI_pIx, gV_pI, gI_pA, gV_pAx, upd] using h_l
  · simpa [R_f, gI_pIx, gV_pI, gI_pA, gV_pAx, upd] using h_f
theorem RN_off {b c np nw nk nt nl nf : Nat} {σ τ : fr_S} {v : Int32} (h : RN b c np nw nk nt nl nf σ τ) : RN b c np nw nk nt 0 nf (pI (pI σ 76 b v) 74 b 0) (pI (pI τ 3 c v) 10 c 0) := by
  obtain ⟨h_c, h_g, h_h, h_p, h_b, h_w, h_k, h_t, h_l, h_f⟩ := h
  refine ⟨?_, ?_, ?_, ?_, ?_, ?_, ?_, ?_, ?_, ?_⟩
  · refine ⟨?_, ?_, ?_, ?_, ⟨by omega, ?_, ?_⟩, ?_⟩
    · simpa [gI_pIx, gV_pI, gI_pA, gV_pAx, upd] using h_c.1
    · simpa [gI_pIx, gV_pI, gI_pA, gV_pAx, upd] using h_c.2.1
    · simpa [gI_pIx, gV_pI, gI_pA, gV_pAx, upd] using h_c.2.2.1
    · simpa [gI_pIx, gV_pI, gI_pA, gV_pAx, upd] using h_c.2.2.2.1
    · simp [gI_pIx, gV_pI, gI_pA, gV_pAx, upd, nI_0]
    · simp [gI_pIx, gV_pI, gI_pA, gV_pAx, upd, nI_0]
    · simpa [gI_pIx, gV_pI, gI_pA, gV_pAx, upd] using h_c.2.2.2.2.2
  · simp [R_g, gI_pIx, gV_pI, gI_pA, gV_pAx, upd]; exact ⟨h_g.1, h_g.2.1⟩
  · simpa [R_h, gI_pIx, gV_pI, gI_pA, gV_pAx, upd] using h_h
  · simpa [R_p, gI_pIx, gV_pI, gI_pA, gV_pAx, upd] using h_p
  · simpa [R_b, R_r, gI_pIx, gV_pI, gI_pA, gV_pAx, upd] using h_b
  · simpa [R_w, R_r, gI_pIx, gV_pI, gI_pA, gV_pAx, upd] using h_w
  · simpa [R_k, R_r, gI_pIx, gV_pI, gI_pA, gV_pAx, upd] using h_k
  · simpa [R_t, gI_pIx, gV_pI, gI_pA, gV_pAx, upd] using h_t
  · intro i hi; omega
  · simpa [R_f, gI_pIx, gV_pI, gI_pA, gV_pAx, upd] using h_f
theorem rel_ii {α β : Type} {c : Prop} {hd hd' : Decidable c} {x y : Option α} {x' y' : Option β} {Q : α → β → Prop} (h1 : c → rel x x' Q) (h2 : ¬ c → rel y y' Q) : rel (@ite _ c hd x y) (@ite _ c hd' x' y') Q := by
  by_cases h : c
  · rw [if_pos h, if_pos h]; exact h1 h
  · rw [if_neg h, if_neg h]; exact h2 h
/-- a read of the class, a call of the reference -/
def RQ (b c : Nat) (σ : fr_S) : Int32 → Int32 × fr_S → Prop := fun r q => r = q.1 ∧ RE b c σ q.2
/-- a call of both -/
def RS (b c : Nat) : Int32 × fr_S → Int32 × fr_S → Prop := fun q q' => q.1 = q'.1 ∧ RE b c q.2 q'.2
theorem RQ_end {b c : Nat} {σ : fr_S} {o : Option Int32} {o' : Option (Int32 × fr_S)} (h : rel o o' (RQ b c σ)) (hx : XI b σ) (hm : ev o' (fun q => MI c q.2)) : rel o o' (fun r q => r = q.1 ∧ RR b c σ q.2) := by
  obtain ⟨r, q, e, e', h1, h2⟩ := h
  obtain ⟨q', e2, h3⟩ := hm
  rw [e'] at e2
  cases e2
  exact ⟨r, q, e, e', h1, hx, h3, h2⟩
theorem RS_end {b c : Nat} {o o' : Option (Int32 × fr_S)} (h : rel o o' (RS b c)) (hx : ev o (fun q => XI b q.2)) (hm : ev o' (fun q => MI c q.2)) : rel o o' (fun q q' => q.1 = q'.1 ∧ RR b c q.2 q'.2) := by
  obtain ⟨r, q, e, e', h1, h2⟩ := h
  obtain ⟨q', e2, h3⟩ := hm
  obtain ⟨r', e3, h4⟩ := hx
  rw [e'] at e2
  cases e2
  rw [e] at e3
  cases e3
  exact ⟨r, q, e, e', h1, h4, h3, h2⟩
theorem r_idx {x : Int32} {n : Nat} (hn : n < 2 ^ 31) (h0 : ¬ x < 0) : (nI n ≤ x ∧ ¬ x < nI n) ∨ (¬ nI n ≤ x ∧ x < nI n ∧ ∃ j, j < n ∧ x = nI j) := by
  by_cases h : nI n ≤ x
  · exact Or.inl ⟨h, Int32.not_lt.mpr h⟩
  · exact Or.inr ⟨h, Int32.not_le.mp h, nI_get hn h0 h⟩
theorem r_isPlace {b c np nw nk nt nl nf : Nat} {σ τ : fr_S} (hs : Sx b σ) (hm : Sm c τ) (hR : RN b c np nw nk nt nl nf σ τ) (x : Int32) : rel (m_FR_isPlace b x σ) (m_Md_isPlace c x τ) (fun r r' => (r = 0 ∧ r' = 0) ∨ (r = 1 ∧ r' = 1 ∧ ∃ j, j < np ∧ x = nI j)) := by
  have hn := hR.1.1
  unfold m_FR_isPlace m_Md_isPlace
  refine rel_ii (fun _ => rel_some (Or.inl ⟨rfl, rfl⟩)) (fun h0 => ?_)
  refine rel_l ((xI hs).trans (congrArg some hn.2.1)) ?_
  refine rel_r ((mI hm).trans (congrArg some hn.2.2)) ?_
  exact rel_ii (fun _ => rel_some (Or.inl ⟨rfl, rfl⟩)) (fun h1 => rel_some (Or.inr ⟨rfl, rfl, nI_get (by omega) h0 h1⟩))
theorem r_isWant {b c np nw nk nt nl nf : Nat} {σ τ : fr_S} (hs : Sx b σ) (hm : Sm c τ) (hR : RN b c np nw nk nt nl nf σ τ) (x : Int32) : rel (m_FR_isWant b x σ) (m_Md_isWant c x τ) (fun r r' => (r = 0 ∧ r' = 0) ∨ (r = 1 ∧ r' = 1 ∧ ∃ j, j < nw ∧ x = nI j)) := by
  have hn := hR.1.2.1
  unfold m_FR_isWant m_Md_isWant
  refine rel_ii (fun _ => rel_some (Or.inl ⟨rfl, rfl⟩)) (fun h0 => ?_)
  refine rel_l ((xI hs).trans (congrArg some hn.2.1)) ?_
  refine rel_r ((mI hm).trans (congrArg some hn.2.2)) ?_
  exact rel_ii (fun _ => rel_some (Or.inl ⟨rfl, rfl⟩)) (fun h1 => rel_some (Or.inr ⟨rfl, rfl, nI_get (by omega) h0 h1⟩))
theorem r_lacks {b c : Nat} {σ τ : fr_S} (h : RR b c σ τ) (x : Int32) : rel (m_FR_lacks b x σ) (m_Md_lacks c x τ) (fun r q => r = q.1 ∧ RR b c σ q.2) := by
  obtain ⟨h1, h2, np, nw, nk, nt, nl, nf, hR⟩ := id h
  refine RQ_end ?_ h1 (md_lacks h2 x)
  have hs := h1.1
  have hm : Sm c (pI τ 1 c 0) := h2.1
  have hR : RN b c np nw nk nt nl nf σ (pI τ 1 c 0) := hR
  have hl := hR.1.2.2.2.2.1
  have fin : RE b c σ (pI τ 1 c 0) := ⟨np, nw, nk, nt, nl, nf, hR⟩
  unfold m_FR_lacks m_Md_lacks
  refine rel_r (mSI h2.1) ?_
  refine rel_ii (fun _ => rel_some ⟨rfl, fin⟩) (fun h0 => ?_)
  refine rel_l ((xI hs).trans (congrArg some hl.2.1)) ?_
  refine rel_r ((mI hm).trans (congrArg some hl.2.2)) ?_
  rcases r_idx (n := nl) (by omega) h0 with ⟨z1, z2⟩ | ⟨z1, z2, j, hj, rfl⟩
  · rw [if_pos z1, if_neg z2]
    exact rel_some ⟨rfl, fin⟩
  · rw [if_neg z1, if_pos z2]
    refine rel_l (xp73 hs) ?_
    refine rel_l (oV_nI (n := 10) hs.1.2.2.2.2.2.2.2.1.2 (by omega) (by decide)) ?_
    refine rel_r (mP38 hm) ?_
    refine rel_r (mV30 hm (by omega)) ?_
    exact rel_some ⟨hR.2.2.2.2.2.2.2.2.1 j hj, fin⟩
theorem r_has {b c np nw nk nt nl nf : Nat} {σ τ : fr_S} (hs : Sx b σ) (hR : RN b c np nw nk nt nl nf σ τ) (x : Int32) : ev (m_Tellings_has (b + 28) x σ) (fun r => (r = 0 ∧ (x < 0 ∨ ¬ x < 0 ∧ ¬ x < nI nt)) ∨ (r = 1 ∧ ¬ x < 0 ∧ x < nI nt ∧ ∃ j, j < nt ∧ x = nI j)) := by
  have hl := hR.1.2.2.2.1
  unfold m_Tellings_has
  refine ev_if (fun z => ev_some (Or.inl ⟨rfl, Or.inl z⟩)) (fun h0 => ?_)
  refine ev_bs ((oI_k hs.1.2.2.2.2.2.2.1.2.1).trans (congrArg some hl.2.1)) ?_
  rcases r_idx (n := nt) (by omega) h0 with ⟨z1, z2⟩ | ⟨z1, z2, j, hj, rfl⟩
  · rw [if_pos z1]
    exact ev_some (Or.inl ⟨rfl, Or.inr ⟨h0, z2⟩⟩)
  · rw [if_neg z1]
    exact ev_some (Or.inr ⟨rfl, h0, z2, j, hj, rfl⟩)
theorem r_came {b c : Nat} {σ τ : fr_S} (h : RR b c σ τ) (x : Int32) : rel (m_FR_came b x σ) (m_Md_came c x τ) (fun r q => r = q.1 ∧ RR b c σ q.2) := by
  obtain ⟨h1, h2, np, nw, nk, nt, nl, nf, hR⟩ := id h
  refine RQ_end ?_ h1 (md_came h2 x)
  have hs := h1.1
  have hm : Sm c (pI τ 1 c 0) := h2.1
  have hR : RN b c np nw nk nt nl nf σ (pI τ 1 c 0) := hR
  have hl := hR.1.2.2.2.1
  have fin : RE b c σ (pI τ 1 c 0) := ⟨np, nw, nk, nt, nl, nf, hR⟩
  have hT := hs.1.2.2.2.2.2.2.1
  unfold m_FR_came m_Md_came
  refine rel_r (mSI h2.1) ?_
  refine rel_l (xp72 hs) ?_
  refine rel_l (oK_k hT.2.1) ?_
  refine rel_el (r_has hs hR x) (fun r hr => ?_)
  rcases hr with ⟨rfl, hr⟩ | ⟨rfl, z0, z2, j, hj, rfl⟩
  · rw [if_pos rfl]
    refine rel_ir (fun _ => rel_some ⟨rfl, fin⟩) (fun z => ?_)
    refine rel_r ((mI hm).trans (congrArg some hl.2.2)) ?_
    refine rel_ir (fun z2 => ?_) (fun _ => rel_some ⟨rfl, fin⟩)
    rcases hr with hr | hr
    · exact absurd hr z
    · exact absurd z2 hr.2
  · rw [if_neg (by decide), if_neg z0]
    refine rel_r ((mI hm).trans (congrArg some hl.2.2)) ?_
    rw [if_pos z2]
    refine rel_l (xp72 hs) ?_
    refine rel_l (oP_g hT.2.1 hT.2.2.2.2.2.2.1) ?_
    refine rel_l (oV_nI (n := 60) hT.2.2.2.2.2.2.2 (by omega) (by decide)) ?_
    refine rel_r (mP37 hm) ?_
    refine rel_r (mV29 hm (by omega)) ?_
    exact rel_some ⟨(hR.2.2.2.2.2.2.2.1 j hj).2.2, fin⟩
theorem r_barred {b c : Nat} {σ τ : fr_S} (h : RR b c σ τ) (x y : Int32) : rel (m_FR_barred b x y σ) (m_Md_barred c x y τ) (fun r q => r = q.1 ∧ RR b c σ q.2) := by
  obtain ⟨h1, h2, np, nw, nk, nt, nl, nf, hR⟩ := id h
  refine RQ_end ?_ h1 (md_barred h2 x y)
  have hs := h1.1
  have hm : Sm c (pI τ 1 c 0) := h2.1
  have hR : RN b c np nw nk nt nl nf σ (pI τ 1 c 0) := hR
  have hl := hR.1.2.2.2.1
  have fin : RE b c σ (pI τ 1 c 0) := ⟨np, nw, nk, nt, nl, nf, hR⟩
  have hT := hs.1.2.2.2.2.2.2.1
  unfold m_FR_barred m_Md_barred
  refine rel_r (mSI h2.1) ?_
  refine rel_l (xp72 hs) ?_
  refine rel_l (oK_k hT.2.1) ?_
  refine rel_el (r_has hs hR x) (fun r hr => ?_)
  rcases hr with ⟨rfl, hr⟩ | ⟨rfl, z0, z2, j, hj, rfl⟩
  · rw [if_pos rfl]
    refine rel_ir (fun _ => rel_some ⟨rfl, fin⟩) (fun z => ?_)
    refine rel_r ((mI hm).trans (congrArg some hl.2.2)) ?_
    refine rel_ir (fun z2 => ?_) (fun _ => rel_some ⟨rfl, fin⟩)
    rcases hr with hr | hr
    · exact absurd hr z
    · exact absurd z2 hr.2
  · rw [if_neg (by decide), if_neg z0]
    refine rel_r ((mI hm).trans (congrArg some hl.2.2)) ?_
    rw [if_pos z2]
    refine rel_ii (fun _ => ?_) (fun _ => rel_ii (fun _ => ?_) (fun _ => rel_some ⟨rfl, fin⟩))
    · refine rel_l (xp72 hs) ?_
      refine rel_l (oP_g hT.2.1 hT.2.2.1) ?_
      refine rel_l (oV_nI (n := 60) hT.2.2.2.1 (by omega) (by decide)) ?_
      refine rel_r (mP35 hm) ?_
      refine rel_r (mV27 hm (by omega)) ?_
      exact rel_some ⟨(hR.2.2.2.2.2.2.2.1 j hj).1, fin⟩
    · refine rel_l (xp72 hs) ?_
      refine rel_l (oP_g hT.2.1 hT.2.2.2.2.1) ?_
      refine rel_l (oV_nI (n := 60) hT.2.2.2.2.2.1 (by omega) (by decide)) ?_
      refine rel_r (mP36 hm) ?_
      refine rel_r (mV28 hm (by omega)) ?_
      exact rel_some ⟨(hR.2.2.2.2.2.2.2.1 j hj).2.1, fin⟩
theorem r_file {b c : Nat} {σ τ : fr_S} (h : RR b c σ τ) (x y : Int32) : rel (m_FR_file b x y σ) (m_Md_file c x y τ) (fun r q => r = q.1 ∧ RR b c σ q.2) := by
  obtain ⟨h1, h2, np, nw, nk, nt, nl, nf, hR⟩ := id h
  refine RQ_end ?_ h1 (md_file h2 x y)
  have hs := h1.1
  have hm : Sm c (pI τ 1 c 0) := h2.1
  have hR : RN b c np nw nk nt nl nf σ (pI τ 1 c 0) := hR
  have hl := hR.1.2.2.2.2.2
  have fin : RE b c σ (pI τ 1 c 0) := ⟨np, nw, nk, nt, nl, nf, hR⟩
  have hF := hs.1.2.2.2.2.2.2.2.2
  have has : ev (m_Files_has (b + 33) x σ) (fun r => (r = 0 ∧ (x < 0 ∨ ¬ x < 0 ∧ ¬ x < nI nf)) ∨ (r = 1 ∧ ¬ x < 0 ∧ x < nI nf ∧ ∃ j, j < nf ∧ x = nI j)) := by
    unfold m_Files_has
    refine ev_if (fun z => ev_some (Or.inl ⟨rfl, Or.inl z⟩)) (fun h0 => ?_)
    refine ev_bs ((oI_k hF.2.1).trans (congrArg some hl.2.1)) ?_
    rcases r_idx (n := nf) (by omega) h0 with ⟨z1, z2⟩ | ⟨z1, z2, j, hj, rfl⟩
    · rw [if_pos z1]
      exact ev_some (Or.inl ⟨rfl, Or.inr ⟨h0, z2⟩⟩)
    · rw [if_neg z1]
      exact ev_some (Or.inr ⟨rfl, h0, z2, j, hj, rfl⟩)
  unfold m_FR_file m_Md_file
  refine rel_r (mSI h2.1) ?_
  refine rel_l (xp75 hs) ?_
  refine rel_l (oK_k hF.2.1) ?_
  refine rel_el has (fun r hr => ?_)
  rcases hr with ⟨rfl, hr⟩ | ⟨rfl, z0, z2, j, hj, rfl⟩
  · rw [if_pos rfl]
    refine rel_ir (fun _ => rel_some ⟨rfl, fin⟩) (fun z => ?_)
    refine rel_r ((mI hm).trans (congrArg some hl.2.2)) ?_
    refine rel_ir (fun z2 => ?_) (fun _ => rel_some ⟨rfl, fin⟩)
    rcases hr with hr | hr
    · exact absurd hr z
    · exact absurd z2 hr.2
  · rw [if_neg (by decide), if_neg z0]
    refine rel_r ((mI hm).trans (congrArg some hl.2.2)) ?_
    rw [if_pos z2]
    have hf := hR.2.2.2.2.2.2.2.2.2 j hj
    refine rel_ii (fun _ => ?_) (fun _ => rel_ii (fun _ => ?_) (fun _ => rel_ii (fun _ => ?_) (fun _ => rel_ii (fun _ => ?_) (fun _ => rel_some ⟨rfl, fin⟩))))
    · exact rel_l (xp75 hs) (rel_l (oP_g hF.2.1 hF.2.2.1) (rel_l (oV_nI (n := 33) hF.2.2.2.1 (by omega) (by decide)) (rel_r (mP40 hm) (rel_r (mV31 hm (by omega)) (rel_some ⟨hf.1, fin⟩)))))
    · exact rel_l (xp75 hs) (rel_l (oP_g hF.2.1 hF.2.2.2.2.1) (rel_l (oV_nI (n := 33) hF.2.2.2.2.2.1 (by omega) (by decide)) (rel_r (mP41 hm) (rel_r (mV32 hm (by omega)) (rel_some ⟨hf.2.1, fin⟩)))))
    · exact rel_l (xp75 hs) (rel_l (oP_g hF.2.1 hF.2.2.2.2.2.2.1) (rel_l (oV_nI (n := 33) hF.2.2.2.2.2.2.2.1 (by omega) (by decide)) (rel_r (mP42 hm) (rel_r (mV33 hm (by omega)) (rel_some ⟨hf.2.2.1, fin⟩)))))
    · exact rel_l (xp75 hs) (rel_l (oP_g hF.2.1 hF.2.2.2.2.2.2.2.2.1) (rel_l (oV_nI (n := 33) hF.2.2.2.2.2.2.2.2.2 (by omega) (by decide)) (rel_r (mP43 hm) (rel_r (mV34 hm (by omega)) (rel_some ⟨hf.2.2.2, fin⟩)))))
theorem r_credential {b c : Nat} {σ τ : fr_S} (h : RR b c σ τ) (x y : Int32) : rel (m_FR_credential b x y σ) (m_Md_credential c x y τ) (fun q q' => q.1 = q'.1 ∧ RR b c q.2 q'.2) := by
  obtain ⟨h1, h2, np, nw, nk, nt, nl, nf, hR⟩ := id h
  refine RS_end ?_ (ev_mono (x_credential h1 x y) (fun _ z => z.2)) (ev_mono (md_credential h2 x y) (fun _ z => z.2))
  have hs := h1.1
  have hm : Sm c (pI τ 1 c 0) := h2.1
  have hR : RN b c np nw nk nt nl nf σ (pI τ 1 c 0) := hR
  have fin : RE b c σ (pI τ 1 c 0) := ⟨np, nw, nk, nt, nl, nf, hR⟩
  unfold m_FR_credential m_Md_credential
  refine rel_r (mSI h2.1) ?_
  refine rel_el (x_isHost x σ) (fun r hr => ?_)
  rcases hr with ⟨rfl, hr⟩ | ⟨rfl, e1, e2, j, hj, rfl⟩
  · rw [if_pos rfl]
    refine rel_ir (fun _ => rel_some ⟨rfl, fin⟩) (fun z => ?_)
    refine rel_ir (fun z2 => ?_) (fun _ => rel_some ⟨rfl, fin⟩)
    exact absurd ⟨z, Int32.not_le.mpr z2⟩ hr
  · rw [if_neg (by decide), if_neg e1, if_pos (Int32.not_le.mp e2)]
    refine rel_l (xp65 hs) ?_
    refine rel_l (sV_nI (n := 8) hs.1.2.1.2 hj (by decide)) ?_
    refine rel_r (mP4 hm) ?_
    refine rel_r (mS1 hm hj) ?_
    exact rel_some ⟨rfl, np, nw, nk, nt, nl, nf, RN_h1 hR⟩
theorem r_want {b c : Nat} {σ τ : fr_S} (h : RR b c σ τ) (x : Int32) : rel (m_FR_want b x σ) (m_Md_want c x τ) (fun q q' => q.1 = q'.1 ∧ RR b c q.2 q'.2) := by
  obtain ⟨h1, h2, np, nw, nk, nt, nl, nf, hR⟩ := id h
  refine RS_end ?_ (x_want h1 x) (md_want h2 x)
  have hs := h1.1
  have hm : Sm c (pI τ 1 c 0) := h2.1
  have hR : RN b c np nw nk nt nl nf σ (pI τ 1 c 0) := hR
  have hn := hR.1.2.1
  have fin : RE b c σ (pI τ 1 c 0) := ⟨np, nw, nk, nt, nl, nf, hR⟩
  unfold m_FR_want m_Md_want
  refine rel_r (mSI h2.1) ?_
  refine rel_l ((xI hs).trans (congrArg some hn.2.1)) ?_
  refine rel_r ((mI hm).trans (congrArg some hn.2.2)) ?_
  refine rel_il (fun h10 => ?_) (fun h10 => ?_)
  · rw [nI_lit10, nI_ltI (by omega) (by omega)] at h10
    refine rel_ir (fun z => ?_) (fun _ => ?_)
    · rw [nI_lit10] at z
      have := nI_inj (by omega) (by omega) z
      omega
    refine rel_l (xp69 hs) ?_
    refine rel_l ((xI hs).trans (congrArg some hn.2.1)) ?_
    refine rel_l (xW hs h10) ?_
    refine rel_l (sI_k (wt_k hs h10)) ?_
    refine rel_r (mP22 hm) ?_
    refine rel_r ((mI hm).trans (congrArg some hn.2.2)) ?_
    refine rel_r (mS14 hm h10) ?_
    have hR2 := RN_w451 (j := nw) (v := x) hR
    have hs2 : Sx b (pI σ 451 (b + 86 + 4 * nw) x) := hs
    have hm2 : Sm c (pA (pI τ 1 c 0) (c + 14) (upd (gV (pI τ 1 c 0) (c + 14)) nw x)) := hm
    generalize pI σ 451 (b + 86 + 4 * nw) x = σ2 at hR2 hs2 ⊢
    generalize pA (pI τ 1 c 0) (c + 14) (upd (gV (pI τ 1 c 0) (c + 14)) nw x) = τ2 at hR2 hm2 ⊢
    have hn2 := hR2.1.2.1
    refine rel_l ((xI hs2).trans (congrArg some hn2.2.1)) ?_
    refine rel_l (sI_k hs2.1.1) ?_
    refine rel_r ((mI hm2).trans (congrArg some hn2.2.2)) ?_
    refine rel_r (mSI hm2) ?_
    rw [nI_1]
    have hR3 := RN_cw (n := nw + 1) (by omega) hR2
    have hm3 : Sm c (pI τ2 7 c (nI (nw + 1))) := hm2
    refine rel_r ((mI hm3).trans (congrArg some hR3.1.2.1.2.2)) ?_
    exact rel_some ⟨show nI nw = nI (nw + 1) - 1 by rw [nI_sm (by omega)]; rfl, np, nw + 1, nk, nt, nl, nf, hR3⟩
  · rw [nI_lit10, nI_ltI (by omega) (by omega)] at h10
    have e : nw = 10 := by omega
    refine rel_ir (fun _ => rel_some ⟨rfl, fin⟩) (fun z => ?_)
    rw [e] at z
    exact absurd nI_lit10.symm z
theorem rel_lp {α β : Type} {c : Prop} {hd : Decidable c} {x y : Option α} {o' : Option β} {Q : α → β → Prop} (hc : c) (h : rel x o' Q) : rel (if c then x else y) o' Q := by rw [if_pos hc]; exact h
theorem rel_ln {α β : Type} {c : Prop} {hd : Decidable c} {x y : Option α} {o' : Option β} {Q : α → β → Prop} (hc : ¬ c) (h : rel y o' Q) : rel (if c then x else y) o' Q := by rw [if_neg hc]; exact h
theorem rel_rp {α β : Type} {c : Prop} {hd : Decidable c} {x y : Option α} {o' : Option β} {Q : β → α → Prop} (hc : c) (h : rel o' x Q) : rel o' (if c then x else y) Q := by rw [if_pos hc]; exact h
theorem rel_rn {α β : Type} {c : Prop} {hd : Decidable c} {x y : Option α} {o' : Option β} {Q : β → α → Prop} (hc : ¬ c) (h : rel o' y Q) : rel o' (if c then x else y) Q := by rw [if_neg hc]; exact h
theorem r_offLine {b c : Nat} {σ τ : fr_S} (h : RR b c σ τ) (x : Int32) (hz : x = 0 ∨ x = 1) : rel (m_FR_offLine b x σ) (m_Md_offLine c x τ) (fun q q' => RR b c q q') := by
  obtain ⟨h1, h2, np, nw, nk, nt, nl, nf, hR⟩ := id h
  have hs := h1.1
  have hm : Sm c (pI τ 1 c 0) := h2.1
  have hR : RN b c np nw nk nt nl nf σ (pI τ 1 c 0) := hR
  have key : rel (m_FR_offLine b x σ) (m_Md_offLine c x τ) (fun q q' => RE b c q q') := by
    unfold m_FR_offLine m_Md_offLine
    refine rel_r (mSI h2.1) ?_
    refine rel_l (sZ_k hs.1.1 hz) ?_
    refine rel_l (sI_k (show gK (pI σ 76 b x) b = _ from hs.1.1)) ?_
    refine rel_r (mSZ hm hz) ?_
    refine rel_r (mSI (τ := pI (pI τ 1 c 0) 3 c x) hm) ?_
    exact rel_some ⟨np, nw, nk, nt, 0, nf, RN_off hR⟩
  refine rel_mono (rel_ev key (x_offLine h1 x hz) (md_offLine h2 x hz)) (fun q q' z => ⟨z.2.1, z.2.2, z.1⟩)
theorem r_place {b c : Nat} {σ τ : fr_S} (h : RR b c σ τ) (x y : Int32) : rel (m_FR_place b x y σ) (m_Md_place c x y τ) (fun q q' => q.1 = q'.1 ∧ RR b c q.2 q'.2) := by
  obtain ⟨h1, h2, np, nw, nk, nt, nl, nf, hR⟩ := id h
  refine RS_end ?_ (x_place h1 x y) (md_place h2 x y)
  have hs := h1.1
  have hm : Sm c (pI τ 1 c 0) := h2.1
  have hR : RN b c np nw nk nt nl nf σ (pI τ 1 c 0) := hR
  have hn := hR.1.1
  have fin : RE b c σ (pI τ 1 c 0) := ⟨np, nw, nk, nt, nl, nf, hR⟩
  unfold m_FR_place m_Md_place
  refine rel_r (mSI h2.1) ?_
  generalize pI τ 1 c 0 = τ1 at hm hR hn fin ⊢
  refine rel_l ((xI hs).trans (congrArg some hn.2.1)) ?_
  refine rel_r ((mI hm).trans (congrArg some hn.2.2)) ?_
  refine rel_il (fun h16 => ?_) (fun h16 => ?_)
  · rw [nI_lit16, nI_leI (by omega) (by omega)] at h16
    have e : np = 16 := by omega
    refine rel_ir (fun _ => rel_some ⟨rfl, fin⟩) (fun z => ?_)
    rw [e] at z
    exact absurd nI_lit16.symm z
  rw [nI_lit16, nI_leI (by omega) (by omega)] at h16
  have hnp : np < 16 := by omega
  refine rel_ir (fun z => ?_) (fun _ => ?_)
  · rw [nI_lit16] at z
    have := nI_inj (by omega) (by omega) z
    omega
  refine rel_el (x_isHost x σ) (fun r hr => ?_)
  rcases hr with ⟨rfl, hr⟩ | ⟨rfl, e1, e2, j, hj, rfl⟩
  · rw [if_pos rfl]
    refine rel_ir (fun _ => rel_some ⟨rfl, fin⟩) (fun z => ?_)
    refine rel_ir (fun _ => rel_some ⟨rfl, fin⟩) (fun z2 => ?_)
    exact absurd ⟨z, z2⟩ hr
  rw [if_neg (by decide), if_neg e1, if_neg e2]
  refine rel_ii (fun _ => rel_some ⟨rfl, fin⟩) (fun _ => ?_)
  refine rel_ii (fun _ => ?_) (fun _ => rel_some ⟨rfl, fin⟩)
  refine rel_l (xp67 hs) ?_
  refine rel_l ((xI hs).trans (congrArg some hn.2.1)) ?_
  refine rel_l (xP hs hnp) ?_
  refine rel_l (sI_k (pl_k hs hnp)) ?_
  refine rel_r (mP11 hm) ?_
  refine rel_r ((mI hm).trans (congrArg some hn.2.2)) ?_
  refine rel_r (mS3 hm hnp) ?_
  have hR2 := RN_p193 (j := np) (v := nI j) hR
  have hs2 : Sx b (pI σ 193 (b + 38 + 3 * np) (nI j)) := hs
  have hm2 : Sm c (pA τ1 (c + 3) (upd (gV τ1 (c + 3)) np (nI j))) := hm
  generalize pI σ 193 (b + 38 + 3 * np) (nI j) = σ2 at hR2 hs2 ⊢
  generalize pA τ1 (c + 3) (upd (gV τ1 (c + 3)) np (nI j)) = τ2 at hR2 hm2 ⊢
  refine rel_l (sI_k (pl_k hs2 hnp)) ?_
  refine rel_r (mP12 hm2) ?_
  refine rel_r ((mI hm2).trans (congrArg some hR2.1.1.2.2)) ?_
  refine rel_r (mS4 hm2 hnp) ?_
  have hR3 := RN_p194 (j := np) (v := y) hR2
  have hs3 : Sx b (pI σ2 194 (b + 38 + 3 * np) y) := hs2
  have hm3 : Sm c (pA τ2 (c + 4) (upd (gV τ2 (c + 4)) np y)) := hm2
  have e4 : gI (pI σ2 194 (b + 38 + 3 * np) y) 194 (b + 38 + 3 * np) = gV (pA τ2 (c + 4) (upd (gV τ2 (c + 4)) np y)) (c + 4) np := by rw [gI_pIs, gV_pAs, upd_s]
  generalize pI σ2 194 (b + 38 + 3 * np) y = σ3 at hR3 hs3 e4 ⊢
  generalize pA τ2 (c + 4) (upd (gV τ2 (c + 4)) np y) = τ3 at hR3 hm3 e4 ⊢
  refine rel_r (mP14 hm3) ?_
  refine rel_r ((mI hm3).trans (congrArg some hR3.1.1.2.2)) ?_
  refine rel_r (mS6 hm3 hnp) ?_
  have hR4 := RN_lead (j := np) (v := -1) (Nat.le_refl np) hR3
  have hm4 : Sm c (pA τ3 (c + 6) (upd (gV τ3 (c + 6)) np (-1))) := hm3
  have e4' : gI σ3 194 (b + 38 + 3 * np) = gV (pA τ3 (c + 6) (upd (gV τ3 (c + 6)) np (-1))) (c + 4) np := by rw [gV_pAn (by omega)]; exact e4
  have e6 : gI σ3 195 (b + 38 + 3 * np) = gV (pA τ3 (c + 6) (upd (gV τ3 (c + 6)) np (-1))) (c + 6) np := by
    rw [gV_pAs, upd_s]
    exact (hR3.2.2.2.1 np hnp).2.2.2.2.2.2.2.2.2 (Nat.le_refl np)
  generalize pA τ3 (c + 6) (upd (gV τ3 (c + 6)) np (-1)) = τ4 at hR4 hm4 e4' e6 ⊢
  refine rel_l ((xI hs3).trans (congrArg some hR4.1.1.2.1)) ?_
  refine rel_l (sI_k hs3.1.1) ?_
  refine rel_r ((mI hm4).trans (congrArg some hR4.1.1.2.2)) ?_
  refine rel_r (mSI hm4) ?_
  rw [nI_1]
  have hR5 := RN_cp (by omega) e4' e6 hR4
  have hm5 : Sm c (pI τ4 6 c (nI (np + 1))) := hm4
  refine rel_r ((mI hm5).trans (congrArg some hR5.1.1.2.2)) ?_
  exact rel_some ⟨show nI np = nI (np + 1) - 1 by rw [nI_sm (by omega)]; rfl, np + 1, nw, nk, nt, nl, nf, hR5⟩
theorem r_cut {b c : Nat} {σ τ : fr_S} (h : RR b c σ τ) (x y z : Int32) : rel (m_FR_cut b x y z σ) (m_Md_cut c x y z τ) (fun q q' => q.1 = q'.1 ∧ RR b c q.2 q'.2) := by
  obtain ⟨h1, h2, np, nw, nk, nt, nl, nf, hR⟩ := id h
  refine RS_end ?_ (x_cut h1 x y z) (md_cut h2 x y z)
  have hs := h1.1
  have hm : Sm c (pI τ 1 c 0) := h2.1
  have hR : RN b c np nw nk nt nl nf σ (pI τ 1 c 0) := hR
  have hn := hR.1.1
  have fin : RE b c σ (pI τ 1 c 0) := ⟨np, nw, nk, nt, nl, nf, hR⟩
  unfold m_FR_cut m_Md_cut
  refine rel_r (mSI h2.1) ?_
  generalize pI τ 1 c 0 = τ1 at hm hR hn fin ⊢
  refine rel_l (xK hs) ?_
  refine rel_r (mK hm) ?_
  refine rel_b (r_isPlace hs hm hR x) (fun r r' hr => ?_)
  rcases hr with ⟨rfl, rfl⟩ | ⟨rfl, rfl, j, hj, rfl⟩
  · exact rel_lp rfl (rel_rp rfl (rel_some ⟨rfl, fin⟩))
  refine rel_ln (by decide) (rel_rn (by decide) ?_)
  refine rel_ii (fun _ => rel_some ⟨rfl, fin⟩) (fun _ => ?_)
  refine rel_ii (fun _ => rel_some ⟨rfl, fin⟩) (fun _ => ?_)
  refine rel_ii (fun _ => rel_some ⟨rfl, fin⟩) (fun _ => ?_)
  refine rel_ii (fun _ => ?_) (fun _ => rel_some ⟨rfl, fin⟩)
  have hj16 : j < 16 := by omega
  refine rel_l (xp67 hs) ?_
  refine rel_l (xP hs hj16) ?_
  refine rel_l (sI_k (pl_k hs hj16)) ?_
  refine rel_r (mP15 hm) ?_
  refine rel_r (mS7 hm hj16) ?_
  have hR2 := RN_p196 (j := j) (v := y) hR
  have hs2 : Sx b (pI σ 196 (b + 38 + 3 * j) y) := hs
  have hm2 : Sm c (pA τ1 (c + 7) (upd (gV τ1 (c + 7)) j y)) := hm
  generalize pI σ 196 (b + 38 + 3 * j) y = σ2 at hR2 hs2 ⊢
  generalize pA τ1 (c + 7) (upd (gV τ1 (c + 7)) j y) = τ2 at hR2 hm2 ⊢
  refine rel_l (xp67 hs2) ?_
  refine rel_l (xP hs2 hj16) ?_
  refine rel_l (sI_k (pl_k hs2 hj16)) ?_
  refine rel_r (mP16 hm2) ?_
  refine rel_r (mS8 hm2 hj16) ?_
  exact rel_some ⟨rfl, np, nw, nk, nt, nl, nf, RN_p197 hR2⟩
theorem r_does {b c : Nat} {σ τ : fr_S} (h : RR b c σ τ) (x y z : Int32) : rel (m_FR_does b x y z σ) (m_Md_does c x y z τ) (fun q q' => q.1 = q'.1 ∧ RR b c q.2 q'.2) := by
  obtain ⟨h1, h2, np, nw, nk, nt, nl, nf, hR⟩ := id h
  refine RS_end ?_ (x_does h1 x y z) (md_does h2 x y z)
  have hs := h1.1
  have hm : Sm c (pI τ 1 c 0) := h2.1
  have hR : RN b c np nw nk nt nl nf σ (pI τ 1 c 0) := hR
  have hn := hR.1.1
  have fin : RE b c σ (pI τ 1 c 0) := ⟨np, nw, nk, nt, nl, nf, hR⟩
  unfold m_FR_does m_Md_does
  refine rel_r (mSI h2.1) ?_
  generalize pI τ 1 c 0 = τ1 at hm hR hn fin ⊢
  refine rel_l (xK hs) ?_
  refine rel_r (mK hm) ?_
  refine rel_b (r_isPlace hs hm hR x) (fun r r' hr => ?_)
  rcases hr with ⟨rfl, rfl⟩ | ⟨rfl, rfl, j, hj, rfl⟩
  · exact rel_lp rfl (rel_rp rfl (rel_some ⟨rfl, fin⟩))
  refine rel_ln (by decide) (rel_rn (by decide) ?_)
  have hj16 : j < 16 := by omega
  have hk := pl_k hs hj16
  refine rel_l (xp67 hs) ?_
  refine rel_l (xP hs hj16) ?_
  by_cases y0 : y = 0
  · subst y0
    refine rel_lp rfl (rel_rn (by decide) (rel_rn (by decide) (rel_rn (by decide) ?_)))
    unfold m_Md_does_B42
    refine rel_rp rfl ?_
    refine rel_r (mP18 hm) ?_
    refine rel_ii (fun _ => ?_) (fun _ => ?_)
    · refine rel_l (sZ_k hk (Or.inl rfl)) ?_
      refine rel_r (mS10 hm hj16) ?_
      unfold m_Md_does_B61 m_Md_does_B73 m_Md_does_B93
      refine rel_rn (by decide) (rel_rn (by decide) (rel_rn (by decide) ?_))
      rw [nar0]
      exact rel_some ⟨rfl, np, nw, nk, nt, nl, nf, RN_p198 hR⟩
    · refine rel_l (sZ_k hk (Or.inr rfl)) ?_
      refine rel_r (mS10 hm hj16) ?_
      unfold m_Md_does_B61 m_Md_does_B73 m_Md_does_B93
      refine rel_rn (by decide) (rel_rn (by decide) (rel_rn (by decide) ?_))
      rw [nar1]
      exact rel_some ⟨rfl, np, nw, nk, nt, nl, nf, RN_p198 hR⟩
  refine rel_ln y0 ?_
  by_cases y1 : y = 1
  · subst y1
    refine rel_lp rfl (rel_rn (by decide) (rel_rn (by decide) (rel_rp rfl ?_)))
    have go : rel ((sI σ 3 195 (b + 38 + 3 * j) z).bind fun σ_12 => some ((1 : Int32), σ_12)) (m_Md_does_B42 c (nI j) 1 z τ1) (RS b c) := by
      unfold m_Md_does_B42 m_Md_does_B61
      refine rel_rn (by decide) (rel_rp rfl ?_)
      refine rel_l (sI_k hk) ?_
      refine rel_r (mP14 hm) ?_
      refine rel_r (mS6 hm hj16) ?_
      unfold m_Md_does_B73 m_Md_does_B93
      refine rel_rn (by decide) (rel_rn (by decide) ?_)
      exact rel_some ⟨rfl, np, nw, nk, nt, nl, nf, RN_p195 hj hR⟩
    refine rel_ii (fun _ => go) (fun _ => ?_)
    refine rel_l (xK hs) ?_
    refine rel_r (mK hm) ?_
    refine rel_b (r_isPlace hs hm hR z) (fun r r' hr => ?_)
    rcases hr with ⟨rfl, rfl⟩ | ⟨rfl, rfl, -⟩
    · exact rel_lp rfl (rel_rp rfl (rel_some ⟨rfl, fin⟩))
    exact rel_ln (by decide) (rel_rn (by decide) go)
  refine rel_ln y1 ?_
  by_cases y2 : y = 2
  · subst y2
    refine rel_lp rfl (rel_rn (by decide) (rel_rn (by decide) (rel_rn (by decide) ?_)))
    unfold m_Md_does_B42 m_Md_does_B61 m_Md_does_B73
    refine rel_rn (by decide) (rel_rn (by decide) (rel_rp rfl ?_))
    refine rel_r (mP19 hm) ?_
    refine rel_ii (fun _ => ?_) (fun _ => ?_)
    · refine rel_l (sZ_k hk (Or.inl rfl)) ?_
      refine rel_r (mS11 hm hj16) ?_
      unfold m_Md_does_B93
      refine rel_rn (by decide) ?_
      rw [nar0]
      exact rel_some ⟨rfl, np, nw, nk, nt, nl, nf, RN_p199 hR⟩
    · refine rel_l (sZ_k hk (Or.inr rfl)) ?_
      refine rel_r (mS11 hm hj16) ?_
      unfold m_Md_does_B93
      refine rel_rn (by decide) ?_
      rw [nar1]
      exact rel_some ⟨rfl, np, nw, nk, nt, nl, nf, RN_p199 hR⟩
  refine rel_ln y2 ?_
  by_cases y3 : y = 3
  · subst y3
    refine rel_lp rfl (rel_rn (by decide) (rel_rn (by decide) (rel_rn (by decide) ?_)))
    unfold m_Md_does_B42 m_Md_does_B61 m_Md_does_B73 m_Md_does_B93
    refine rel_rn (by decide) (rel_rn (by decide) (rel_rn (by decide) (rel_rp rfl ?_)))
    refine rel_r (mP20 hm) ?_
    refine rel_ii (fun _ => ?_) (fun _ => ?_)
    · refine rel_l (sZ_k hk (Or.inl rfl)) ?_
      refine rel_r (mS12 hm hj16) ?_
      rw [nar0]
      exact rel_some ⟨rfl, np, nw, nk, nt, nl, nf, RN_p200 hR⟩
    · refine rel_l (sZ_k hk (Or.inr rfl)) ?_
      refine rel_r (mS12 hm hj16) ?_
      rw [nar1]
      exact rel_some ⟨rfl, np, nw, nk, nt, nl, nf, RN_p200 hR⟩
  refine rel_ln y3 ?_
  refine rel_ir (fun _ => rel_some ⟨rfl, fin⟩) (fun z1 => ?_)
  refine rel_ir (fun _ => rel_some ⟨rfl, fin⟩) (fun z2 => ?_)
  exfalso
  obtain ⟨q, -, hq, rfl⟩ := nI_rng (x := y) (lo := 0) (hi := 3) (by rw [nI_0]; exact z1) (by rw [nI_v3]; exact Int32.not_lt.mp z2) (by decide) (by decide)
  have : q = 0 ∨ q = 1 ∨ q = 2 ∨ q = 3 := by omega
  rcases this with rfl | rfl | rfl | rfl
  · exact y0 nI_0
  · exact y1 nI_v1
  · exact y2 nI_v2
  · exact y3 nI_v3
theorem b255_32 : ∀ k, k < 32 → (255#32).getLsbD k = decide (k < 8) := by decide
theorem b255_64 : ∀ k, k < 32 → (255#64).getLsbD k = decide (k < 8) := by decide
theorem byte_bv (w : BitVec 64) {s : Nat} (hs : s ≤ 56) : ((w >>> s).signExtend 32 &&& 255#32) = ((w.sshiftRight s) &&& 255#64).signExtend 32 := by
  apply BitVec.eq_of_getLsbD_eq
  intro k hk
  rw [BitVec.getLsbD_and, b255_32 k hk, BitVec.getLsbD_signExtend, BitVec.getLsbD_signExtend, BitVec.getLsbD_and, b255_64 k hk, BitVec.getLsbD_ushiftRight, BitVec.getLsbD_sshiftRight]
  have h1 : k < 64 := by omega
  by_cases h8 : k < 8
  · have h2 : s + k < 64 := by omega
    have h3 : ¬ 64 ≤ k := by omega
    simp [hk, h1, h8, h2, h3]
  · simp [h8, h1]
theorem byte_eq (w : Int64) {q : Nat} (hq : q < 8) : ((fr_lushr w (8 * nI q)).toInt32 &&& 255) = ((w >>> ((8 * nI q).toInt64 &&& 63)) &&& (255)).toInt32 := by
  have : q = 0 ∨ q = 1 ∨ q = 2 ∨ q = 3 ∨ q = 4 ∨ q = 5 ∨ q = 6 ∨ q = 7 := by omega
  apply Int32.toBitVec_inj.mp
  rcases this with rfl | rfl | rfl | rfl | rfl | rfl | rfl | rfl
  · exact byte_bv w.toBitVec (s := 0) (by omega)
  · exact byte_bv w.toBitVec (s := 8) (by omega)
  · exact byte_bv w.toBitVec (s := 16) (by omega)
  · exact byte_bv w.toBitVec (s := 24) (by omega)
  · exact byte_bv w.toBitVec (s := 32) (by omega)
  · exact byte_bv w.toBitVec (s := 40) (by omega)
  · exact byte_bv w.toBitVec (s := 48) (by omega)
  · exact byte_bv w.toBitVec (s := 56) (by omega)
