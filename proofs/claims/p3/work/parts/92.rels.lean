/-! AS THEY ARE MADE: all is 0 but the retries, the rates and where an empty place leads -/
def al {α : Type} (o : Option α) (P : α → Prop) : Prop := ∀ a, o = some a → P a
theorem al_b {α β : Type} {o : Option α} {f : α → Option β} {P : α → Prop} {Q : β → Prop} (h : al o P) (h2 : ∀ a, P a → al (f a) Q) : al (o.bind f) Q := by
  intro z hz
  cases o with
  | none => cases hz
  | some a => exact h2 a (h a rfl) z hz
theorem al_s {α β : Type} {o : Option α} {f : α → Option β} {Q : β → Prop} (h2 : ∀ a, al (f a) Q) : al (o.bind f) Q := al_b (P := fun _ => True) (fun _ _ => trivial) (fun a _ => h2 a)
theorem al_some {α : Type} {a : α} {P : α → Prop} (h : P a) : al (some a) P := by
  intro z hz
  cases hz
  exact h
theorem al_if {α : Type} {c : Prop} {hd : Decidable c} {x y : Option α} {P : α → Prop} (h1 : c → al x P) (h2 : ¬ c → al y P) : al (if c then x else y) P := by
  by_cases h : c
  · rw [if_pos h]; exact h1 h
  · rw [if_neg h]; exact h2 h
def ZX (σ : fr_S) : Prop := (∀ f a, f ≠ 0 → f ≠ 64 → f ≠ 194 → f ≠ 195 → gI σ f a = 0) ∧ ∀ a k, gV σ a k = 0
theorem ZX_pI {σ : fr_S} {f a : Nat} {v : Int32} (h : ZX σ) (hv : v = 0 ∨ f = 0 ∨ f = 64 ∨ f = 194 ∨ f = 195) : ZX (pI σ f a v) := by
  refine ⟨fun g b h0 h1 h2 h3 => ?_, h.2⟩
  rw [gI_pIx]
  by_cases e : g = f ∧ b = a
  · rw [if_pos e]
    rcases hv with hv | hv | hv | hv | hv
    · exact hv
    · exact absurd (e.1.trans hv) h0
    · exact absurd (e.1.trans hv) h1
    · exact absurd (e.1.trans hv) h2
    · exact absurd (e.1.trans hv) h3
  · rw [if_neg e]
    exact h.1 g b h0 h1 h2 h3
theorem ZX_pN {σ : fr_S} {a : Nat} {k : fr_K} (h : ZX σ) : ZX (pN σ a k) := by
  refine ⟨fun g b h0 h1 h2 h3 => ?_, fun b i => ?_⟩
  · rw [z_gI_pN]
    by_cases e : b = a
    · rw [if_pos e]
    · rw [if_neg e]
      exact h.1 g b h0 h1 h2 h3
  · rw [z_gV_pN]
    by_cases e : b = a
    · rw [if_pos e]
    · rw [if_neg e]
      exact h.2 b i
theorem zI {σ : fr_S} {ci f a : Nat} {v : Int32} (h : ZX σ) (hv : v = 0 ∨ f = 0 ∨ f = 64 ∨ f = 194 ∨ f = 195) : al (sI σ ci f a v) ZX := by
  unfold sI
  exact al_if (fun _ => al_some (ZX_pI h hv)) (fun _ z hz => by cases hz)
theorem zZ {σ : fr_S} {ci f a : Nat} {v : Int32} (h : ZX σ) (hv : v = 0 ∨ f = 0 ∨ f = 64 ∨ f = 194 ∨ f = 195) : al (sZ σ ci f a v) ZX := by
  unfold sZ
  exact al_if (fun _ => al_some (ZX_pI h hv)) (fun _ z hz => by cases hz)
theorem zP {σ : fr_S} {ci f a r : Nat} (h : ZX σ) : al (sP σ ci f a r) ZX := by
  unfold sP
  exact al_if (fun _ => al_some h) (fun _ z hz => by cases hz)
theorem zN {σ : fr_S} {a : Nat} {k : fr_K} (h : ZX σ) : al (nC σ a k) ZX := al_some (ZX_pN h)
theorem zQ {σ : fr_S} {t ci a : Nat} {i : Int32} {r : Nat} (h : ZX σ) : al (sQ σ t ci a i r) ZX := by
  intro z hz
  unfold sQ at hz
  split at hz
  · split at hz
    · cases hz
      exact h
    · cases hz
  · cases hz
theorem z_row {h0 : Nat} {σ : fr_S} {nx : Nat} (h : ZX σ) : al (m_Row_init h0 σ nx) (fun q => ZX q.1) := by
  unfold m_Row_init
  refine al_b (zN h) (fun _ h => ?_)
  refine al_b (zP h) (fun _ h => ?_)
  refine al_b (zI h (by simp)) (fun _ h => ?_)
  exact al_some h
theorem z_store_L {b0 : Nat} : ∀ (n : Nat) {y : Int32} {σ : fr_S} {nx cl sl : Nat}, ZX σ → al (m_Store_init_L28 n b0 y σ nx cl sl) (fun q => ZX q.1) := by
  intro n
  induction n with
  | zero => intro y σ nx cl sl h z hz; cases hz
  | succ n ih =>
    intro y σ nx cl sl h
    unfold m_Store_init_L28
    refine al_if (fun _ => ?_) (fun _ => ?_)
    · skip
      refine al_s (fun _ => ?_)
      exact al_some h
    · skip
      refine al_s (fun _ => ?_)
      refine al_s (fun _ => ?_)
      refine al_b (zN h) (fun _ h => ?_)
      refine al_s (fun _ => ?_)
      refine al_b (z_row h) (fun _ h => ?_)
      refine al_b (zQ h) (fun _ h => ?_)
      exact ih h
theorem z_store {h0 : Nat} {σ : fr_S} {nx : Nat} (h : ZX σ) : al (m_Store_init h0 σ nx) (fun q => ZX q.1) := by
  unfold m_Store_init
  refine al_b (zN h) (fun _ h => ?_)
  refine al_b (zP h) (fun _ h => ?_)
  refine al_b (zN h) (fun _ h => ?_)
  refine al_b (zP h) (fun _ h => ?_)
  refine al_b (zI h (by simp)) (fun _ h => ?_)
  exact z_store_L 1000 h
theorem z_tell {h0 : Nat} {σ : fr_S} {nx : Nat} (h : ZX σ) : al (m_Tellings_init h0 σ nx) (fun q => ZX q.1) := by
  unfold m_Tellings_init
  refine al_b (zN h) (fun _ h => ?_)
  refine al_b (zP h) (fun _ h => ?_)
  refine al_b (zN h) (fun _ h => ?_)
  refine al_b (zP h) (fun _ h => ?_)
  refine al_b (zN h) (fun _ h => ?_)
  refine al_b (zP h) (fun _ h => ?_)
  refine al_b (zI h (by simp)) (fun _ h => ?_)
  exact al_some h
theorem z_files {h0 : Nat} {σ : fr_S} {nx : Nat} (h : ZX σ) : al (m_Files_init h0 σ nx) (fun q => ZX q.1) := by
  unfold m_Files_init
  refine al_b (zN h) (fun _ h => ?_)
  refine al_b (zP h) (fun _ h => ?_)
  refine al_b (zN h) (fun _ h => ?_)
  refine al_b (zP h) (fun _ h => ?_)
  refine al_b (zN h) (fun _ h => ?_)
  refine al_b (zP h) (fun _ h => ?_)
  refine al_b (zN h) (fun _ h => ?_)
  refine al_b (zP h) (fun _ h => ?_)
  refine al_b (zI h (by simp)) (fun _ h => ?_)
  exact al_some h
theorem z_place {h0 : Nat} {σ : fr_S} {nx : Nat} (h : ZX σ) : al (m_Place_init h0 σ nx) (fun q => ZX q.1) := by
  unfold m_Place_init
  refine al_b (zN h) (fun _ h => ?_)
  refine al_b (z_row h) (fun _ h => ?_)
  refine al_b (zP h) (fun _ h => ?_)
  refine al_b (zI h (by simp)) (fun _ h => ?_)
  refine al_b (zI h (by simp)) (fun _ h => ?_)
  refine al_b (zI h (by simp)) (fun _ h => ?_)
  refine al_b (zI h (by simp)) (fun _ h => ?_)
  refine al_b (zI h (by simp)) (fun _ h => ?_)
  refine al_b (zZ h (by simp)) (fun _ h => ?_)
  refine al_b (zZ h (by simp)) (fun _ h => ?_)
  refine al_b (zZ h (by simp)) (fun _ h => ?_)
  refine al_b (zZ h (by simp)) (fun _ h => ?_)
  exact al_some h
theorem z_want {h0 : Nat} {σ : fr_S} {nx : Nat} (h : ZX σ) : al (m_Want_init h0 σ nx) (fun q => ZX q.1) := by
  unfold m_Want_init
  refine al_b (zN h) (fun _ h => ?_)
  refine al_b (z_row h) (fun _ h => ?_)
  refine al_b (zP h) (fun _ h => ?_)
  refine al_b (zN h) (fun _ h => ?_)
  refine al_b (zP h) (fun _ h => ?_)
  refine al_b (zI h (by simp)) (fun _ h => ?_)
  refine al_b (zI h (by simp)) (fun _ h => ?_)
  refine al_b (zI h (by simp)) (fun _ h => ?_)
  refine al_b (zI h (by simp)) (fun _ h => ?_)
  refine al_b (zI h (by simp)) (fun _ h => ?_)
  refine al_b (zI h (by simp)) (fun _ h => ?_)
  refine al_b (zI h (by simp)) (fun _ h => ?_)
  exact al_some h
theorem z_wants {b0 : Nat} : ∀ (n : Nat) {y : Int32} {σ : fr_S} {nx cl sl : Nat}, ZX σ → al (m_FR_init_L146 n b0 y σ nx cl sl) (fun q => ZX q.1) := by
  intro n
  induction n with
  | zero => intro y σ nx cl sl h z hz; cases hz
  | succ n ih =>
    intro y σ nx cl sl h
    unfold m_FR_init_L146
    refine al_if (fun _ => ?_) (fun _ => ?_)
    · skip
      refine al_s (fun _ => ?_)
      exact al_some h
    · skip
      refine al_s (fun _ => ?_)
      refine al_s (fun _ => ?_)
      refine al_b (zN h) (fun _ h => ?_)
      refine al_s (fun _ => ?_)
      refine al_b (z_want h) (fun _ h => ?_)
      refine al_b (zQ h) (fun _ h => ?_)
      exact ih h
theorem z_places {b0 : Nat} : ∀ (n : Nat) {y : Int32} {σ : fr_S} {nx cl sl : Nat}, ZX σ → al (m_FR_init_L119 n b0 y σ nx cl sl) (fun q => ZX q.1) := by
  intro n
  induction n with
  | zero => intro y σ nx cl sl h z hz; cases hz
  | succ n ih =>
    intro y σ nx cl sl h
    unfold m_FR_init_L119
    refine al_if (fun _ => ?_) (fun _ => ?_)
    · skip
      exact z_wants 1000 h
    · skip
      refine al_s (fun _ => ?_)
      refine al_s (fun _ => ?_)
      refine al_b (zN h) (fun _ h => ?_)
      refine al_s (fun _ => ?_)
      refine al_b (z_place h) (fun _ h => ?_)
      refine al_b (zQ h) (fun _ h => ?_)
      exact ih h
theorem z_FR {h0 : Nat} {x : Int32} {σ : fr_S} {nx : Nat} (h : ZX σ) : al (m_FR_init h0 x σ nx) (fun q => ZX q.1) := by
  unfold m_FR_init
  refine al_b (zN h) (fun _ h => ?_)
  refine al_b (zP h) (fun _ h => ?_)
  refine al_b (zN h) (fun _ h => ?_)
  refine al_b (zP h) (fun _ h => ?_)
  refine al_b (zN h) (fun _ h => ?_)
  refine al_b (zP h) (fun _ h => ?_)
  refine al_b (zI h (by simp)) (fun _ h => ?_)
  refine al_b (zN h) (fun _ h => ?_)
  refine al_b (zP h) (fun _ h => ?_)
  refine al_b (zI h (by simp)) (fun _ h => ?_)
  refine al_b (zN h) (fun _ h => ?_)
  refine al_b (z_store h) (fun _ h => ?_)
  refine al_b (zP h) (fun _ h => ?_)
  refine al_b (zN h) (fun _ h => ?_)
  refine al_b (z_tell h) (fun _ h => ?_)
  refine al_b (zP h) (fun _ h => ?_)
  refine al_b (zN h) (fun _ h => ?_)
  refine al_b (zP h) (fun _ h => ?_)
  refine al_b (zI h (by simp)) (fun _ h => ?_)
  refine al_b (zN h) (fun _ h => ?_)
  refine al_b (z_files h) (fun _ h => ?_)
  refine al_b (zP h) (fun _ h => ?_)
  refine al_b (zZ h (by simp)) (fun _ h => ?_)
  refine al_b (zI h (by simp)) (fun _ h => ?_)
  refine al_b (zI h (by simp)) (fun _ h => ?_)
  exact z_places 1000 h
theorem zI0 {σ : fr_S} {ci a : Nat} {v : Int32} (h : ZX σ) : al (sI σ ci 0 a v) (fun q => ZX q ∧ gI q 0 a = v) := by
  unfold sI
  exact al_if (fun _ => al_some ⟨ZX_pI h (by simp), gI_pIs⟩) (fun _ z hz => by cases hz)
theorem z_Md {h0 : Nat} {x : Int32} {σ : fr_S} {nx : Nat} (h : ZX σ) : al (m_Md_init h0 x σ nx) (fun q => ZX q.1 ∧ gI q.1 0 h0 = if 0 ≤ x then (if x ≤ 5 then x else 5) else 0) := by
  unfold m_Md_init
  refine al_b (zN h) (fun _ h => ?_)
  refine al_b (zP h) (fun _ h => ?_)
  refine al_b (zN h) (fun _ h => ?_)
  refine al_b (zP h) (fun _ h => ?_)
  refine al_b (zN h) (fun _ h => ?_)
  refine al_b (zP h) (fun _ h => ?_)
  refine al_b (zN h) (fun _ h => ?_)
  refine al_b (zP h) (fun _ h => ?_)
  refine al_b (zN h) (fun _ h => ?_)
  refine al_b (zP h) (fun _ h => ?_)
  refine al_b (zN h) (fun _ h => ?_)
  refine al_b (zP h) (fun _ h => ?_)
  refine al_b (zN h) (fun _ h => ?_)
  refine al_b (zP h) (fun _ h => ?_)
  refine al_b (zN h) (fun _ h => ?_)
  refine al_b (zP h) (fun _ h => ?_)
  refine al_b (zN h) (fun _ h => ?_)
  refine al_b (zP h) (fun _ h => ?_)
  refine al_b (zN h) (fun _ h => ?_)
  refine al_b (zP h) (fun _ h => ?_)
  refine al_b (zN h) (fun _ h => ?_)
  refine al_b (zP h) (fun _ h => ?_)
  refine al_b (zN h) (fun _ h => ?_)
  refine al_b (zP h) (fun _ h => ?_)
  refine al_b (zN h) (fun _ h => ?_)
  refine al_b (zP h) (fun _ h => ?_)
  refine al_b (zN h) (fun _ h => ?_)
  refine al_b (zP h) (fun _ h => ?_)
  refine al_b (zN h) (fun _ h => ?_)
  refine al_b (zP h) (fun _ h => ?_)
  refine al_b (zN h) (fun _ h => ?_)
  refine al_b (zP h) (fun _ h => ?_)
  refine al_b (zN h) (fun _ h => ?_)
  refine al_b (zP h) (fun _ h => ?_)
  refine al_b (zN h) (fun _ h => ?_)
  refine al_b (zP h) (fun _ h => ?_)
  refine al_b (zN h) (fun _ h => ?_)
  refine al_b (zP h) (fun _ h => ?_)
  refine al_b (zN h) (fun _ h => ?_)
  refine al_b (zP h) (fun _ h => ?_)
  refine al_b (zN h) (fun _ h => ?_)
  refine al_b (zP h) (fun _ h => ?_)
  refine al_b (zN h) (fun _ h => ?_)
  refine al_b (zP h) (fun _ h => ?_)
  refine al_b (zN h) (fun _ h => ?_)
  refine al_b (zP h) (fun _ h => ?_)
  refine al_b (zN h) (fun _ h => ?_)
  refine al_b (zP h) (fun _ h => ?_)
  refine al_b (zN h) (fun _ h => ?_)
  refine al_b (zP h) (fun _ h => ?_)
  refine al_b (zN h) (fun _ h => ?_)
  refine al_b (zP h) (fun _ h => ?_)
  refine al_b (zN h) (fun _ h => ?_)
  refine al_b (zP h) (fun _ h => ?_)
  refine al_b (zN h) (fun _ h => ?_)
  refine al_b (zP h) (fun _ h => ?_)
  refine al_b (zN h) (fun _ h => ?_)
  refine al_b (zP h) (fun _ h => ?_)
  refine al_b (zN h) (fun _ h => ?_)
  refine al_b (zP h) (fun _ h => ?_)
  refine al_b (zN h) (fun _ h => ?_)
  refine al_b (zP h) (fun _ h => ?_)
  refine al_b (zN h) (fun _ h => ?_)
  refine al_b (zP h) (fun _ h => ?_)
  refine al_b (zN h) (fun _ h => ?_)
  refine al_b (zP h) (fun _ h => ?_)
  refine al_b (zN h) (fun _ h => ?_)
  refine al_b (zP h) (fun _ h => ?_)
  refine al_if (fun c1 => ?_) (fun c1 => ?_)
  · rw [if_pos c1]
    refine al_if (fun c2 => ?_) (fun c2 => ?_)
    · rw [if_pos c2]
      exact al_b (zI0 h) (fun _ h => al_some h)
    · rw [if_neg c2]
      exact al_b (zI0 h) (fun _ h => al_some h)
  · rw [if_neg c1]
    exact al_b (zI0 h) (fun _ h => al_some h)
theorem cl_eq (x : Int32) : (if 0 < (if x < 5 then x else 5) then (if x < 5 then x else 5) else 0) = (if 0 ≤ x then (if x ≤ 5 then x else 5) else 0) := by
  by_cases c1 : 0 ≤ x
  · rw [if_pos c1]
    by_cases c2 : x ≤ 5
    · rw [if_pos c2]
      obtain ⟨q, -, hq, rfl⟩ := nI_rng (x := x) (lo := 0) (hi := 5) (by rw [nI_0]; exact Int32.not_lt.mpr c1) (by rw [← nI_lit5]; exact c2) (by decide) (by decide)
      have : q = 0 ∨ q = 1 ∨ q = 2 ∨ q = 3 ∨ q = 4 ∨ q = 5 := by omega
      rcases this with rfl | rfl | rfl | rfl | rfl | rfl <;> decide +kernel
    · rw [if_neg c2]
      have h5 : ¬ x < 5 := fun z => c2 (Int32.le_of_lt z)
      rw [if_neg h5]
      decide
  · rw [if_neg c1]
    have h0 : x < 0 := Int32.not_le.mp c1
    have h5 : x < 5 := Int32.lt_of_lt_of_le h0 (by decide)
    rw [if_pos h5, if_neg (fun z => c1 (Int32.le_of_lt z))]
theorem ZX_e {a : Nat} {k : fr_K} : ZX (pN fl_e a k) := ZX_pN ⟨fun _ _ _ _ _ _ => rfl, fun _ _ => rfl⟩
theorem RN_0 {b c : Nat} {σ τ : fr_S} {x : Int32} (hx : ZX σ) (h2 : X2 b x σ) (hm : ZX τ) (h0 : gI τ 0 c = x) : RN b c 0 0 0 0 0 0 σ τ := by
  have i : ∀ f a, f ≠ 0 → f ≠ 64 → f ≠ 194 → f ≠ 195 → gI σ f a = 0 := hx.1
  have v := hx.2
  have j : ∀ f a, f ≠ 0 → f ≠ 64 → f ≠ 194 → f ≠ 195 → gI τ f a = 0 := hm.1
  have u := hm.2
  refine ⟨⟨⟨by omega, ?_, ?_⟩, ⟨by omega, ?_, ?_⟩, ⟨by omega, ?_, ?_⟩, ⟨by omega, ?_, ?_⟩, ⟨by omega, ?_, ?_⟩, ⟨by omega, ?_, ?_⟩⟩, ⟨?_, ?_, ?_⟩, ⟨fun h hh => ?_, fun h hh => ?_⟩, fun q hq => ?_, fun q hq => ⟨?_, fun m k e hm hk => ?_⟩, fun q hq => ⟨?_, ?_, ?_, ?_, fun m k e hm hk => ?_, fun z => ?_, fun z => ?_, fun z => ⟨?_, fun m k e hm hk => ?_⟩⟩, fun q hq => absurd hq (by omega), fun q hq => absurd hq (by omega), fun q hq => absurd hq (by omega), fun q hq => absurd hq (by omega)⟩
  · rw [nI_0]; exact i _ _ (by decide) (by decide) (by decide) (by decide)
  · rw [nI_0]; exact j _ _ (by decide) (by decide) (by decide) (by decide)
  · rw [nI_0]; exact i _ _ (by decide) (by decide) (by decide) (by decide)
  · rw [nI_0]; exact j _ _ (by decide) (by decide) (by decide) (by decide)
  · rw [nI_0]; exact i _ _ (by decide) (by decide) (by decide) (by decide)
  · rw [nI_0]; exact j _ _ (by decide) (by decide) (by decide) (by decide)
  · rw [nI_0]; exact i _ _ (by decide) (by decide) (by decide) (by decide)
  · rw [nI_0]; exact j _ _ (by decide) (by decide) (by decide) (by decide)
  · rw [nI_0]; exact i _ _ (by decide) (by decide) (by decide) (by decide)
  · rw [nI_0]; exact j _ _ (by decide) (by decide) (by decide) (by decide)
  · rw [nI_0]; exact i _ _ (by decide) (by decide) (by decide) (by decide)
  · rw [nI_0]; exact j _ _ (by decide) (by decide) (by decide) (by decide)
  · exact h2.2.trans h0.symm
  · rw [i _ _ (by decide) (by decide) (by decide) (by decide), j _ _ (by decide) (by decide) (by decide) (by decide)]
  · rw [i _ _ (by decide) (by decide) (by decide) (by decide), j _ _ (by decide) (by decide) (by decide) (by decide)]
  · rw [v, u]
  · rw [v, u]
  · rw [i 193 _ (by decide) (by decide) (by decide) (by decide), i 196 _ (by decide) (by decide) (by decide) (by decide), i 197 _ (by decide) (by decide) (by decide) (by decide), i 198 _ (by decide) (by decide) (by decide) (by decide), i 199 _ (by decide) (by decide) (by decide) (by decide), i 200 _ (by decide) (by decide) (by decide) (by decide), i 201 _ (by decide) (by decide) (by decide) (by decide), u, u, u, u, u, u, u]
    exact ⟨rfl, rfl, rfl, rfl, rfl, rfl, rfl, fun z => absurd z (by omega), fun z => absurd z (by omega), fun _ => h2.1 q hq⟩
  · rw [i 257 _ (by decide) (by decide) (by decide) (by decide), u]
  · rw [v, u]
  · rw [i 451 _ (by decide) (by decide) (by decide) (by decide), u]
  · rw [i 450 _ (by decide) (by decide) (by decide) (by decide), u]
  · rw [i 452 _ (by decide) (by decide) (by decide) (by decide), u]
  · rw [i 456 _ (by decide) (by decide) (by decide) (by decide), u]
  · rw [v, u]
  · rw [u] at z
    exact absurd z (by decide)
  · rw [u] at z
    exact absurd z (by decide)
  · rw [i 257 _ (by decide) (by decide) (by decide) (by decide), u]
  · rw [v, u]
/-- both made: they stand in the relation -/
theorem r_init (b : Nat) (x : Int32) : ∃ σ nx τ nx2, m_FR_init b x (pN fl_e b (.inl 1)) (b + 1) = some (σ, nx) ∧ m_Md_init nx x (pN fl_e nx (.inl 0)) (nx + 1) = some (τ, nx2) ∧ RR b nx σ τ := by
  obtain ⟨⟨σ, nx⟩, e1, ⟨h1, h2⟩, h3⟩ := x_initL b x
  obtain ⟨⟨τ, nx2⟩, e2, g1⟩ := md_init nx x
  have z1 : ZX σ := z_FR ZX_e _ e1
  have z2 := z_Md ZX_e _ e2
  rw [← cl_eq] at z2
  exact ⟨σ, nx, τ, nx2, e1, e2, h1, g1, 0, 0, 0, 0, 0, 0, RN_0 z1 h2 z2.1 z2.2⟩
