/-! THE STATE OF A SIDE as functions: kinds of cells, int fields, reference fields, int arrays, reference arrays; field by field, address by address -/
abbrev fr_K : Type := Nat ⊕ (Nat × Nat)
abbrev fr_S : Type := (Nat → Option fr_K) × (Nat → Nat → Int32) × (Nat → Nat → Option Nat) × (Nat → Nat → Int32) × (Nat → Nat → Option Nat)
def gK (σ : fr_S) (a : Nat) : Option fr_K := σ.1 a
def gI (σ : fr_S) (f a : Nat) : Int32 := σ.2.1 f a
def gP (σ : fr_S) (f a : Nat) : Option Nat := σ.2.2.1 f a
def gV (σ : fr_S) (a : Nat) : Nat → Int32 := σ.2.2.2.1 a
def gQ (σ : fr_S) (a : Nat) : Nat → Option Nat := σ.2.2.2.2 a
def pI (σ : fr_S) (f a : Nat) (v : Int32) : fr_S := (σ.1, (fun g b => if g = f ∧ b = a then v else σ.2.1 g b), σ.2.2)
def pP (σ : fr_S) (f a : Nat) (v : Option Nat) : fr_S := (σ.1, σ.2.1, (fun g b => if g = f ∧ b = a then v else σ.2.2.1 g b), σ.2.2.2)
def pA (σ : fr_S) (a : Nat) (u : Nat → Int32) : fr_S := (σ.1, σ.2.1, σ.2.2.1, (fun b => if b = a then u else σ.2.2.2.1 b), σ.2.2.2.2)
def pB (σ : fr_S) (a : Nat) (u : Nat → Option Nat) : fr_S := (σ.1, σ.2.1, σ.2.2.1, σ.2.2.2.1, (fun b => if b = a then u else σ.2.2.2.2 b))
/-- a new cell at a: its kind; all that it holds is 0, or nothing -/
def pN (σ : fr_S) (a : Nat) (k : fr_K) : fr_S := ((fun b => if b = a then some k else σ.1 b), (fun g b => if b = a then 0 else σ.2.1 g b), (fun g b => if b = a then none else σ.2.2.1 g b), (fun b => if b = a then (fun _ => 0) else σ.2.2.2.1 b), (fun b => if b = a then (fun _ => none) else σ.2.2.2.2 b))
theorem fr_bind {α β : Type} {o : Option α} {f : α → Option β} {b : β} (h : o.bind f = some b) : ∃ a, o = some a ∧ f a = some b := by
  cases o with
  | none => simp at h
  | some a => exact ⟨a, rfl, h⟩
theorem fr_ift {α : Type} {c : Prop} {hd : Decidable c} {a b x : α} (hc : c) (h : (if c then a else b) = x) : a = x := by rw [if_pos hc] at h; exact h
theorem fr_iff {α : Type} {c : Prop} {hd : Decidable c} {a b x : α} (hc : ¬ c) (h : (if c then a else b) = x) : b = x := by rw [if_neg hc] at h; exact h
/-! what an instruction of the heap does, or nothing where the machine would throw, or the kinds don't fit -/
def oK (σ : fr_S) (ci a : Nat) : Option Unit := if gK σ a = some (.inl ci) then some () else none
def oI (σ : fr_S) (ci f a : Nat) : Option Int32 := if gK σ a = some (.inl ci) then some (gI σ f a) else none
def oP (σ : fr_S) (ci f a : Nat) : Option Nat := if gK σ a = some (.inl ci) then gP σ f a else none
def sI (σ : fr_S) (ci f a : Nat) (v : Int32) : Option fr_S := if gK σ a = some (.inl ci) then some (pI σ f a v) else none
def sZ (σ : fr_S) (ci f a : Nat) (v : Int32) : Option fr_S := if gK σ a = some (.inl ci) ∧ (v = 0 ∨ v = 1) then some (pI σ f a v) else none
def sP (σ : fr_S) (ci f a : Nat) (r : Nat) : Option fr_S := if gK σ a = some (.inl ci) then some (pP σ f a (some r)) else none
def oZ (v : Int32) : Option Unit := if v = 0 ∨ v = 1 then some () else none
def oNZ (v : Int32) : Option Unit := if v = 0 then none else some ()
def oN (σ : fr_S) (t a : Nat) : Option Int32 := match gK σ a with
  | some (.inr (t', n)) => if t' = t then some (Int32.ofNat n) else none
  | _ => none
def oV (σ : fr_S) (t a : Nat) (i : Int32) : Option Int32 := match gK σ a with
  | some (.inr (t', n)) => if t' = t ∧ ¬ (i < 0 ∨ n ≤ i.toNatClampNeg) then some (gV σ a i.toNatClampNeg) else none
  | _ => none
def oQ (σ : fr_S) (t a : Nat) (i : Int32) : Option Nat := match gK σ a with
  | some (.inr (t', n)) => if t' = t ∧ ¬ (i < 0 ∨ n ≤ i.toNatClampNeg) then gQ σ a i.toNatClampNeg else none
  | _ => none
def sV (σ : fr_S) (t a : Nat) (i v : Int32) : Option fr_S := match gK σ a with
  | some (.inr (t', n)) => if t' = t ∧ ¬ (i < 0 ∨ n ≤ i.toNatClampNeg) then some (pA σ a (upd (gV σ a) i.toNatClampNeg v)) else none
  | _ => none
def sQ (σ : fr_S) (t ci a : Nat) (i : Int32) (r : Nat) : Option fr_S := match gK σ a with
  | some (.inr (t', n)) => if (t' = t ∧ gK σ r = some (.inl ci)) ∧ ¬ (i < 0 ∨ n ≤ i.toNatClampNeg) then some (pB σ a (va_up (gQ σ a) i.toNatClampNeg (some r))) else none
  | _ => none
/-- System.arraycopy of ints -/
def sC (σ : fr_S) (a0 : Nat) (sp : Int32) (a : Nat) (dp n : Int32) : Option fr_S := match gK σ a0, gK σ a with
  | some (.inr (t0, n0)), some (.inr (t1, n1)) => if (t0 = 0 ∧ t1 = 0) ∧ (¬ sp < 0 ∧ ¬ dp < 0 ∧ ¬ n < 0) ∧ sp.toNatClampNeg + n.toNatClampNeg ≤ n0 ∧ dp.toNatClampNeg + n.toNatClampNeg ≤ n1 then some (pA σ a (va_cpy (gV σ a0) (gV σ a) sp.toNatClampNeg dp.toNatClampNeg n.toNatClampNeg)) else none
  | _, _ => none
def fr_ushr (x y : Int32) : Int32 := (x.toUInt32 >>> (y.toUInt32 &&& Int32.toUInt32 31)).toInt32
def fr_lushr (x : Int64) (y : Int32) : Int64 := (x.toUInt64 >>> (y.toInt64.toUInt64 &&& Int64.toUInt64 63)).toInt64
theorem oK_inv {σ : fr_S} {ci a : Nat} {u : Unit} (h : oK σ ci a = some u) : gK σ a = some (.inl ci) := by
  unfold oK at h
  by_cases hk : gK σ a = some (.inl ci)
  · exact hk
  · rw [if_neg hk] at h; cases h
theorem oI_inv {σ : fr_S} {ci f a : Nat} {v : Int32} (h : oI σ ci f a = some v) : gK σ a = some (.inl ci) ∧ gI σ f a = v := by
  unfold oI at h
  by_cases hk : gK σ a = some (.inl ci)
  · rw [if_pos hk] at h; exact ⟨hk, Option.some.inj h⟩
  · rw [if_neg hk] at h; cases h
theorem oP_inv {σ : fr_S} {ci f a r : Nat} (h : oP σ ci f a = some r) : gK σ a = some (.inl ci) ∧ gP σ f a = some r := by
  unfold oP at h
  by_cases hk : gK σ a = some (.inl ci)
  · rw [if_pos hk] at h; exact ⟨hk, h⟩
  · rw [if_neg hk] at h; cases h
theorem sI_inv {σ σ1 : fr_S} {ci f a : Nat} {v : Int32} (h : sI σ ci f a v = some σ1) : gK σ a = some (.inl ci) ∧ pI σ f a v = σ1 := by
  unfold sI at h
  by_cases hk : gK σ a = some (.inl ci)
  · rw [if_pos hk] at h; exact ⟨hk, Option.some.inj h⟩
  · rw [if_neg hk] at h; cases h
theorem sZ_inv {σ σ1 : fr_S} {ci f a : Nat} {v : Int32} (h : sZ σ ci f a v = some σ1) : gK σ a = some (.inl ci) ∧ (v = 0 ∨ v = 1) ∧ pI σ f a v = σ1 := by
  unfold sZ at h
  by_cases hk : gK σ a = some (.inl ci) ∧ (v = 0 ∨ v = 1)
  · rw [if_pos hk] at h; exact ⟨hk.1, hk.2, Option.some.inj h⟩
  · rw [if_neg hk] at h; cases h
theorem sP_inv {σ σ1 : fr_S} {ci f a r : Nat} (h : sP σ ci f a r = some σ1) : gK σ a = some (.inl ci) ∧ pP σ f a (some r) = σ1 := by
  unfold sP at h
  by_cases hk : gK σ a = some (.inl ci)
  · rw [if_pos hk] at h; exact ⟨hk, Option.some.inj h⟩
  · rw [if_neg hk] at h; cases h
theorem oZ_inv {v : Int32} {u : Unit} (h : oZ v = some u) : v = 0 ∨ v = 1 := by
  unfold oZ at h
  by_cases hk : v = 0 ∨ v = 1
  · exact hk
  · rw [if_neg hk] at h; cases h
theorem oNZ_inv {v : Int32} {u : Unit} (h : oNZ v = some u) : ¬ v = 0 := by
  unfold oNZ at h
  by_cases hk : v = 0
  · rw [if_pos hk] at h; cases h
  · exact hk
theorem oN_inv {σ : fr_S} {t a : Nat} {v : Int32} (h : oN σ t a = some v) : ∃ n : Nat, gK σ a = some (.inr (t, n)) ∧ Int32.ofNat n = v := by
  unfold oN at h
  split at h
  · next t' n hk =>
    by_cases hh : t' = t
    · rw [if_pos hh] at h; exact ⟨n, by rw [hk, hh], Option.some.inj h⟩
    · rw [if_neg hh] at h; cases h
  · cases h
theorem oV_inv {σ : fr_S} {t a : Nat} {i v : Int32} (h : oV σ t a i = some v) : ∃ n : Nat, gK σ a = some (.inr (t, n)) ∧ vp_in i n ∧ gV σ a i.toNatClampNeg = v := by
  unfold oV at h
  split at h
  · next t' n hk =>
    by_cases hh : t' = t ∧ ¬ (i < 0 ∨ n ≤ i.toNatClampNeg)
    · rw [if_pos hh] at h; exact ⟨n, by rw [hk, hh.1], hh.2, Option.some.inj h⟩
    · rw [if_neg hh] at h; cases h
  · cases h
theorem oQ_inv {σ : fr_S} {t a r : Nat} {i : Int32} (h : oQ σ t a i = some r) : ∃ n : Nat, gK σ a = some (.inr (t, n)) ∧ vp_in i n ∧ gQ σ a i.toNatClampNeg = some r := by
  unfold oQ at h
  split at h
  · next t' n hk =>
    by_cases hh : t' = t ∧ ¬ (i < 0 ∨ n ≤ i.toNatClampNeg)
    · rw [if_pos hh] at h; exact ⟨n, by rw [hk, hh.1], hh.2, h⟩
    · rw [if_neg hh] at h; cases h
  · cases h
theorem sV_inv {σ σ1 : fr_S} {t a : Nat} {i v : Int32} (h : sV σ t a i v = some σ1) : ∃ n : Nat, gK σ a = some (.inr (t, n)) ∧ vp_in i n ∧ pA σ a (upd (gV σ a) i.toNatClampNeg v) = σ1 := by
  unfold sV at h
  split at h
  · next t' n hk =>
    by_cases hh : t' = t ∧ ¬ (i < 0 ∨ n ≤ i.toNatClampNeg)
    · rw [if_pos hh] at h; exact ⟨n, by rw [hk, hh.1], hh.2, Option.some.inj h⟩
    · rw [if_neg hh] at h; cases h
  · cases h
theorem sQ_inv {σ σ1 : fr_S} {t ci a r : Nat} {i : Int32} (h : sQ σ t ci a i r = some σ1) : ∃ n : Nat, gK σ a = some (.inr (t, n)) ∧ gK σ r = some (.inl ci) ∧ vp_in i n ∧ pB σ a (va_up (gQ σ a) i.toNatClampNeg (some r)) = σ1 := by
  unfold sQ at h
  split at h
  · next t' n hk =>
    by_cases hh : (t' = t ∧ gK σ r = some (.inl ci)) ∧ ¬ (i < 0 ∨ n ≤ i.toNatClampNeg)
    · rw [if_pos hh] at h; exact ⟨n, by rw [hk, hh.1.1], hh.1.2, hh.2, Option.some.inj h⟩
    · rw [if_neg hh] at h; cases h
  · cases h
theorem sC_inv {σ σ1 : fr_S} {a0 a : Nat} {sp dp n : Int32} (h : sC σ a0 sp a dp n = some σ1) : ∃ n0 n1 : Nat, gK σ a0 = some (.inr (0, n0)) ∧ gK σ a = some (.inr (0, n1)) ∧ (¬ sp < 0 ∧ ¬ dp < 0 ∧ ¬ n < 0) ∧ sp.toNatClampNeg + n.toNatClampNeg ≤ n0 ∧ dp.toNatClampNeg + n.toNatClampNeg ≤ n1 ∧ pA σ a (va_cpy (gV σ a0) (gV σ a) sp.toNatClampNeg dp.toNatClampNeg n.toNatClampNeg) = σ1 := by
  unfold sC at h
  split at h
  · next t0 n0 t1 n1 hk0 hk1 =>
    by_cases hh : (t0 = 0 ∧ t1 = 0) ∧ (¬ sp < 0 ∧ ¬ dp < 0 ∧ ¬ n < 0) ∧ sp.toNatClampNeg + n.toNatClampNeg ≤ n0 ∧ dp.toNatClampNeg + n.toNatClampNeg ≤ n1
    · rw [if_pos hh] at h; exact ⟨n0, n1, by rw [hk0, hh.1.1], by rw [hk1, hh.1.2], hh.2.1, hh.2.2.1, hh.2.2.2, Option.some.inj h⟩
    · rw [if_neg hh] at h; cases h
  · cases h
/-- the fields of an object, in the order of the slots -/
def fr_fl (σ : fr_S) (ci a : Nat) : List Value := match ci with
  | 0 => [.int (gI σ 0 a), .int (gI σ 1 a), .int (gI σ 2 a), .int (gI σ 3 a), va_rf (gP σ 4 a), va_rf (gP σ 5 a), .int (gI σ 6 a), .int (gI σ 7 a), .int (gI σ 8 a), .int (gI σ 9 a), .int (gI σ 10 a), va_rf (gP σ 11 a), va_rf (gP σ 12 a), va_rf (gP σ 13 a), va_rf (gP σ 14 a), va_rf (gP σ 15 a), va_rf (gP σ 16 a), va_rf (gP σ 17 a), va_rf (gP σ 18 a), va_rf (gP σ 19 a), va_rf (gP σ 20 a), va_rf (gP σ 21 a), va_rf (gP σ 22 a), va_rf (gP σ 23 a), va_rf (gP σ 24 a), va_rf (gP σ 25 a), va_rf (gP σ 26 a), va_rf (gP σ 27 a), va_rf (gP σ 28 a), va_rf (gP σ 29 a), va_rf (gP σ 30 a), va_rf (gP σ 31 a), va_rf (gP σ 32 a), va_rf (gP σ 33 a), va_rf (gP σ 34 a), va_rf (gP σ 35 a), va_rf (gP σ 36 a), va_rf (gP σ 37 a), va_rf (gP σ 38 a), .int (gI σ 39 a), va_rf (gP σ 40 a), va_rf (gP σ 41 a), va_rf (gP σ 42 a), va_rf (gP σ 43 a)]
  | 1 => [.int (gI σ 64 a), va_rf (gP σ 65 a), va_rf (gP σ 66 a), va_rf (gP σ 67 a), .int (gI σ 68 a), va_rf (gP σ 69 a), .int (gI σ 70 a), va_rf (gP σ 71 a), va_rf (gP σ 72 a), va_rf (gP σ 73 a), .int (gI σ 74 a), va_rf (gP σ 75 a), .int (gI σ 76 a), .int (gI σ 77 a)]
  | 2 => [va_rf (gP σ 128 a), va_rf (gP σ 129 a), va_rf (gP σ 130 a), va_rf (gP σ 131 a), .int (gI σ 132 a)]
  | 3 => [va_rf (gP σ 192 a), .int (gI σ 193 a), .int (gI σ 194 a), .int (gI σ 195 a), .int (gI σ 196 a), .int (gI σ 197 a), .int (gI σ 198 a), .int (gI σ 199 a), .int (gI σ 200 a), .int (gI σ 201 a)]
  | 4 => [va_rf (gP σ 256 a), .int (gI σ 257 a)]
  | 5 => [va_rf (gP σ 320 a), va_rf (gP σ 321 a), .int (gI σ 322 a)]
  | 6 => [va_rf (gP σ 384 a), va_rf (gP σ 385 a), va_rf (gP σ 386 a), .int (gI σ 387 a)]
  | 7 => [va_rf (gP σ 448 a), va_rf (gP σ 449 a), .int (gI σ 450 a), .int (gI σ 451 a), .int (gI σ 452 a), .int (gI σ 453 a), .int (gI σ 454 a), .int (gI σ 455 a), .int (gI σ 456 a)]
  | _ => []
theorem fs_0_0 (σ : fr_S) (a : Nat) (v : Int32) : (fr_fl σ 0 a).set 0 (.int v) = fr_fl (pI σ 0 a v) 0 a := by simp [fr_fl, gI, gP, pI]
theorem fs_0_1 (σ : fr_S) (a : Nat) (v : Int32) : (fr_fl σ 0 a).set 1 (.int v) = fr_fl (pI σ 1 a v) 0 a := by simp [fr_fl, gI, gP, pI]
theorem fs_0_2 (σ : fr_S) (a : Nat) (v : Int32) : (fr_fl σ 0 a).set 2 (.int v) = fr_fl (pI σ 2 a v) 0 a := by simp [fr_fl, gI, gP, pI]
theorem fs_0_3 (σ : fr_S) (a : Nat) (v : Int32) : (fr_fl σ 0 a).set 3 (.int v) = fr_fl (pI σ 3 a v) 0 a := by simp [fr_fl, gI, gP, pI]
theorem fs_0_4 (σ : fr_S) (a r : Nat) : (fr_fl σ 0 a).set 4 (.ref r) = fr_fl (pP σ 4 a (some r)) 0 a := by simp [fr_fl, gI, gP, pP, va_rf]
theorem fs_0_5 (σ : fr_S) (a r : Nat) : (fr_fl σ 0 a).set 5 (.ref r) = fr_fl (pP σ 5 a (some r)) 0 a := by simp [fr_fl, gI, gP, pP, va_rf]
theorem fs_0_6 (σ : fr_S) (a : Nat) (v : Int32) : (fr_fl σ 0 a).set 6 (.int v) = fr_fl (pI σ 6 a v) 0 a := by simp [fr_fl, gI, gP, pI]
theorem fs_0_7 (σ : fr_S) (a : Nat) (v : Int32) : (fr_fl σ 0 a).set 7 (.int v) = fr_fl (pI σ 7 a v) 0 a := by simp [fr_fl, gI, gP, pI]
theorem fs_0_8 (σ : fr_S) (a : Nat) (v : Int32) : (fr_fl σ 0 a).set 8 (.int v) = fr_fl (pI σ 8 a v) 0 a := by simp [fr_fl, gI, gP, pI]
theorem fs_0_9 (σ : fr_S) (a : Nat) (v : Int32) : (fr_fl σ 0 a).set 9 (.int v) = fr_fl (pI σ 9 a v) 0 a := by simp [fr_fl, gI, gP, pI]
theorem fs_0_10 (σ : fr_S) (a : Nat) (v : Int32) : (fr_fl σ 0 a).set 10 (.int v) = fr_fl (pI σ 10 a v) 0 a := by simp [fr_fl, gI, gP, pI]
theorem fs_0_11 (σ : fr_S) (a r : Nat) : (fr_fl σ 0 a).set 11 (.ref r) = fr_fl (pP σ 11 a (some r)) 0 a := by simp [fr_fl, gI, gP, pP, va_rf]
theorem fs_0_12 (σ : fr_S) (a r : Nat) : (fr_fl σ 0 a).set 12 (.ref r) = fr_fl (pP σ 12 a (some r)) 0 a := by simp [fr_fl, gI, gP, pP, va_rf]
theorem fs_0_13 (σ : fr_S) (a r : Nat) : (fr_fl σ 0 a).set 13 (.ref r) = fr_fl (pP σ 13 a (some r)) 0 a := by simp [fr_fl, gI, gP, pP, va_rf]
theorem fs_0_14 (σ : fr_S) (a r : Nat) : (fr_fl σ 0 a).set 14 (.ref r) = fr_fl (pP σ 14 a (some r)) 0 a := by simp [fr_fl, gI, gP, pP, va_rf]
theorem fs_0_15 (σ : fr_S) (a r : Nat) : (fr_fl σ 0 a).set 15 (.ref r) = fr_fl (pP σ 15 a (some r)) 0 a := by simp [fr_fl, gI, gP, pP, va_rf]
theorem fs_0_16 (σ : fr_S) (a r : Nat) : (fr_fl σ 0 a).set 16 (.ref r) = fr_fl (pP σ 16 a (some r)) 0 a := by simp [fr_fl, gI, gP, pP, va_rf]
theorem fs_0_17 (σ : fr_S) (a r : Nat) : (fr_fl σ 0 a).set 17 (.ref r) = fr_fl (pP σ 17 a (some r)) 0 a := by simp [fr_fl, gI, gP, pP, va_rf]
theorem fs_0_18 (σ : fr_S) (a r : Nat) : (fr_fl σ 0 a).set 18 (.ref r) = fr_fl (pP σ 18 a (some r)) 0 a := by simp [fr_fl, gI, gP, pP, va_rf]
theorem fs_0_19 (σ : fr_S) (a r : Nat) : (fr_fl σ 0 a).set 19 (.ref r) = fr_fl (pP σ 19 a (some r)) 0 a := by simp [fr_fl, gI, gP, pP, va_rf]
theorem fs_0_20 (σ : fr_S) (a r : Nat) : (fr_fl σ 0 a).set 20 (.ref r) = fr_fl (pP σ 20 a (some r)) 0 a := by simp [fr_fl, gI, gP, pP, va_rf]
theorem fs_0_21 (σ : fr_S) (a r : Nat) : (fr_fl σ 0 a).set 21 (.ref r) = fr_fl (pP σ 21 a (some r)) 0 a := by simp [fr_fl, gI, gP, pP, va_rf]
theorem fs_0_22 (σ : fr_S) (a r : Nat) : (fr_fl σ 0 a).set 22 (.ref r) = fr_fl (pP σ 22 a (some r)) 0 a := by simp [fr_fl, gI, gP, pP, va_rf]
theorem fs_0_23 (σ : fr_S) (a r : Nat) : (fr_fl σ 0 a).set 23 (.ref r) = fr_fl (pP σ 23 a (some r)) 0 a := by simp [fr_fl, gI, gP, pP, va_rf]
theorem fs_0_24 (σ : fr_S) (a r : Nat) : (fr_fl σ 0 a).set 24 (.ref r) = fr_fl (pP σ 24 a (some r)) 0 a := by simp [fr_fl, gI, gP, pP, va_rf]
theorem fs_0_25 (σ : fr_S) (a r : Nat) : (fr_fl σ 0 a).set 25 (.ref r) = fr_fl (pP σ 25 a (some r)) 0 a := by simp [fr_fl, gI, gP, pP, va_rf]
theorem fs_0_26 (σ : fr_S) (a r : Nat) : (fr_fl σ 0 a).set 26 (.ref r) = fr_fl (pP σ 26 a (some r)) 0 a := by simp [fr_fl, gI, gP, pP, va_rf]
theorem fs_0_27 (σ : fr_S) (a r : Nat) : (fr_fl σ 0 a).set 27 (.ref r) = fr_fl (pP σ 27 a (some r)) 0 a := by simp [fr_fl, gI, gP, pP, va_rf]
theorem fs_0_28 (σ : fr_S) (a r : Nat) : (fr_fl σ 0 a).set 28 (.ref r) = fr_fl (pP σ 28 a (some r)) 0 a := by simp [fr_fl, gI, gP, pP, va_rf]
theorem fs_0_29 (σ : fr_S) (a r : Nat) : (fr_fl σ 0 a).set 29 (.ref r) = fr_fl (pP σ 29 a (some r)) 0 a := by simp [fr_fl, gI, gP, pP, va_rf]
theorem fs_0_30 (σ : fr_S) (a r : Nat) : (fr_fl σ 0 a).set 30 (.ref r) = fr_fl (pP σ 30 a (some r)) 0 a := by simp [fr_fl, gI, gP, pP, va_rf]
theorem fs_0_31 (σ : fr_S) (a r : Nat) : (fr_fl σ 0 a).set 31 (.ref r) = fr_fl (pP σ 31 a (some r)) 0 a := by simp [fr_fl, gI, gP, pP, va_rf]
theorem fs_0_32 (σ : fr_S) (a r : Nat) : (fr_fl σ 0 a).set 32 (.ref r) = fr_fl (pP σ 32 a (some r)) 0 a := by simp [fr_fl, gI, gP, pP, va_rf]
theorem fs_0_33 (σ : fr_S) (a r : Nat) : (fr_fl σ 0 a).set 33 (.ref r) = fr_fl (pP σ 33 a (some r)) 0 a := by simp [fr_fl, gI, gP, pP, va_rf]
theorem fs_0_34 (σ : fr_S) (a r : Nat) : (fr_fl σ 0 a).set 34 (.ref r) = fr_fl (pP σ 34 a (some r)) 0 a := by simp [fr_fl, gI, gP, pP, va_rf]
theorem fs_0_35 (σ : fr_S) (a r : Nat) : (fr_fl σ 0 a).set 35 (.ref r) = fr_fl (pP σ 35 a (some r)) 0 a := by simp [fr_fl, gI, gP, pP, va_rf]
theorem fs_0_36 (σ : fr_S) (a r : Nat) : (fr_fl σ 0 a).set 36 (.ref r) = fr_fl (pP σ 36 a (some r)) 0 a := by simp [fr_fl, gI, gP, pP, va_rf]
theorem fs_0_37 (σ : fr_S) (a r : Nat) : (fr_fl σ 0 a).set 37 (.ref r) = fr_fl (pP σ 37 a (some r)) 0 a := by simp [fr_fl, gI, gP, pP, va_rf]
theorem fs_0_38 (σ : fr_S) (a r : Nat) : (fr_fl σ 0 a).set 38 (.ref r) = fr_fl (pP σ 38 a (some r)) 0 a := by simp [fr_fl, gI, gP, pP, va_rf]
theorem fs_0_39 (σ : fr_S) (a : Nat) (v : Int32) : (fr_fl σ 0 a).set 39 (.int v) = fr_fl (pI σ 39 a v) 0 a := by simp [fr_fl, gI, gP, pI]
theorem fs_0_40 (σ : fr_S) (a r : Nat) : (fr_fl σ 0 a).set 40 (.ref r) = fr_fl (pP σ 40 a (some r)) 0 a := by simp [fr_fl, gI, gP, pP, va_rf]
theorem fs_0_41 (σ : fr_S) (a r : Nat) : (fr_fl σ 0 a).set 41 (.ref r) = fr_fl (pP σ 41 a (some r)) 0 a := by simp [fr_fl, gI, gP, pP, va_rf]
theorem fs_0_42 (σ : fr_S) (a r : Nat) : (fr_fl σ 0 a).set 42 (.ref r) = fr_fl (pP σ 42 a (some r)) 0 a := by simp [fr_fl, gI, gP, pP, va_rf]
theorem fs_0_43 (σ : fr_S) (a r : Nat) : (fr_fl σ 0 a).set 43 (.ref r) = fr_fl (pP σ 43 a (some r)) 0 a := by simp [fr_fl, gI, gP, pP, va_rf]
theorem fs_1_0 (σ : fr_S) (a : Nat) (v : Int32) : (fr_fl σ 1 a).set 0 (.int v) = fr_fl (pI σ 64 a v) 1 a := by simp [fr_fl, gI, gP, pI]
theorem fs_1_1 (σ : fr_S) (a r : Nat) : (fr_fl σ 1 a).set 1 (.ref r) = fr_fl (pP σ 65 a (some r)) 1 a := by simp [fr_fl, gI, gP, pP, va_rf]
theorem fs_1_2 (σ : fr_S) (a r : Nat) : (fr_fl σ 1 a).set 2 (.ref r) = fr_fl (pP σ 66 a (some r)) 1 a := by simp [fr_fl, gI, gP, pP, va_rf]
theorem fs_1_3 (σ : fr_S) (a r : Nat) : (fr_fl σ 1 a).set 3 (.ref r) = fr_fl (pP σ 67 a (some r)) 1 a := by simp [fr_fl, gI, gP, pP, va_rf]
theorem fs_1_4 (σ : fr_S) (a : Nat) (v : Int32) : (fr_fl σ 1 a).set 4 (.int v) = fr_fl (pI σ 68 a v) 1 a := by simp [fr_fl, gI, gP, pI]
theorem fs_1_5 (σ : fr_S) (a r : Nat) : (fr_fl σ 1 a).set 5 (.ref r) = fr_fl (pP σ 69 a (some r)) 1 a := by simp [fr_fl, gI, gP, pP, va_rf]
theorem fs_1_6 (σ : fr_S) (a : Nat) (v : Int32) : (fr_fl σ 1 a).set 6 (.int v) = fr_fl (pI σ 70 a v) 1 a := by simp [fr_fl, gI, gP, pI]
theorem fs_1_7 (σ : fr_S) (a r : Nat) : (fr_fl σ 1 a).set 7 (.ref r) = fr_fl (pP σ 71 a (some r)) 1 a := by simp [fr_fl, gI, gP, pP, va_rf]
theorem fs_1_8 (σ : fr_S) (a r : Nat) : (fr_fl σ 1 a).set 8 (.ref r) = fr_fl (pP σ 72 a (some r)) 1 a := by simp [fr_fl, gI, gP, pP, va_rf]
theorem fs_1_9 (σ : fr_S) (a r : Nat) : (fr_fl σ 1 a).set 9 (.ref r) = fr_fl (pP σ 73 a (some r)) 1 a := by simp [fr_fl, gI, gP, pP, va_rf]
theorem fs_1_10 (σ : fr_S) (a : Nat) (v : Int32) : (fr_fl σ 1 a).set 10 (.int v) = fr_fl (pI σ 74 a v) 1 a := by simp [fr_fl, gI, gP, pI]
theorem fs_1_11 (σ : fr_S) (a r : Nat) : (fr_fl σ 1 a).set 11 (.ref r) = fr_fl (pP σ 75 a (some r)) 1 a := by simp [fr_fl, gI, gP, pP, va_rf]
theorem fs_1_12 (σ : fr_S) (a : Nat) (v : Int32) : (fr_fl σ 1 a).set 12 (.int v) = fr_fl (pI σ 76 a v) 1 a := by simp [fr_fl, gI, gP, pI]
theorem fs_1_13 (σ : fr_S) (a : Nat) (v : Int32) : (fr_fl σ 1 a).set 13 (.int v) = fr_fl (pI σ 77 a v) 1 a := by simp [fr_fl, gI, gP, pI]
theorem fs_2_0 (σ : fr_S) (a r : Nat) : (fr_fl σ 2 a).set 0 (.ref r) = fr_fl (pP σ 128 a (some r)) 2 a := by simp [fr_fl, gI, gP, pP, va_rf]
theorem fs_2_1 (σ : fr_S) (a r : Nat) : (fr_fl σ 2 a).set 1 (.ref r) = fr_fl (pP σ 129 a (some r)) 2 a := by simp [fr_fl, gI, gP, pP, va_rf]
theorem fs_2_2 (σ : fr_S) (a r : Nat) : (fr_fl σ 2 a).set 2 (.ref r) = fr_fl (pP σ 130 a (some r)) 2 a := by simp [fr_fl, gI, gP, pP, va_rf]
theorem fs_2_3 (σ : fr_S) (a r : Nat) : (fr_fl σ 2 a).set 3 (.ref r) = fr_fl (pP σ 131 a (some r)) 2 a := by simp [fr_fl, gI, gP, pP, va_rf]
theorem fs_2_4 (σ : fr_S) (a : Nat) (v : Int32) : (fr_fl σ 2 a).set 4 (.int v) = fr_fl (pI σ 132 a v) 2 a := by simp [fr_fl, gI, gP, pI]
theorem fs_3_0 (σ : fr_S) (a r : Nat) : (fr_fl σ 3 a).set 0 (.ref r) = fr_fl (pP σ 192 a (some r)) 3 a := by simp [fr_fl, gI, gP, pP, va_rf]
theorem fs_3_1 (σ : fr_S) (a : Nat) (v : Int32) : (fr_fl σ 3 a).set 1 (.int v) = fr_fl (pI σ 193 a v) 3 a := by simp [fr_fl, gI, gP, pI]
theorem fs_3_2 (σ : fr_S) (a : Nat) (v : Int32) : (fr_fl σ 3 a).set 2 (.int v) = fr_fl (pI σ 194 a v) 3 a := by simp [fr_fl, gI, gP, pI]
theorem fs_3_3 (σ : fr_S) (a : Nat) (v : Int32) : (fr_fl σ 3 a).set 3 (.int v) = fr_fl (pI σ 195 a v) 3 a := by simp [fr_fl, gI, gP, pI]
theorem fs_3_4 (σ : fr_S) (a : Nat) (v : Int32) : (fr_fl σ 3 a).set 4 (.int v) = fr_fl (pI σ 196 a v) 3 a := by simp [fr_fl, gI, gP, pI]
theorem fs_3_5 (σ : fr_S) (a : Nat) (v : Int32) : (fr_fl σ 3 a).set 5 (.int v) = fr_fl (pI σ 197 a v) 3 a := by simp [fr_fl, gI, gP, pI]
theorem fs_3_6 (σ : fr_S) (a : Nat) (v : Int32) : (fr_fl σ 3 a).set 6 (.int v) = fr_fl (pI σ 198 a v) 3 a := by simp [fr_fl, gI, gP, pI]
theorem fs_3_7 (σ : fr_S) (a : Nat) (v : Int32) : (fr_fl σ 3 a).set 7 (.int v) = fr_fl (pI σ 199 a v) 3 a := by simp [fr_fl, gI, gP, pI]
theorem fs_3_8 (σ : fr_S) (a : Nat) (v : Int32) : (fr_fl σ 3 a).set 8 (.int v) = fr_fl (pI σ 200 a v) 3 a := by simp [fr_fl, gI, gP, pI]
theorem fs_3_9 (σ : fr_S) (a : Nat) (v : Int32) : (fr_fl σ 3 a).set 9 (.int v) = fr_fl (pI σ 201 a v) 3 a := by simp [fr_fl, gI, gP, pI]
theorem fs_4_0 (σ : fr_S) (a r : Nat) : (fr_fl σ 4 a).set 0 (.ref r) = fr_fl (pP σ 256 a (some r)) 4 a := by simp [fr_fl, gI, gP, pP, va_rf]
theorem fs_4_1 (σ : fr_S) (a : Nat) (v : Int32) : (fr_fl σ 4 a).set 1 (.int v) = fr_fl (pI σ 257 a v) 4 a := by simp [fr_fl, gI, gP, pI]
theorem fs_5_0 (σ : fr_S) (a r : Nat) : (fr_fl σ 5 a).set 0 (.ref r) = fr_fl (pP σ 320 a (some r)) 5 a := by simp [fr_fl, gI, gP, pP, va_rf]
theorem fs_5_1 (σ : fr_S) (a r : Nat) : (fr_fl σ 5 a).set 1 (.ref r) = fr_fl (pP σ 321 a (some r)) 5 a := by simp [fr_fl, gI, gP, pP, va_rf]
theorem fs_5_2 (σ : fr_S) (a : Nat) (v : Int32) : (fr_fl σ 5 a).set 2 (.int v) = fr_fl (pI σ 322 a v) 5 a := by simp [fr_fl, gI, gP, pI]
theorem fs_6_0 (σ : fr_S) (a r : Nat) : (fr_fl σ 6 a).set 0 (.ref r) = fr_fl (pP σ 384 a (some r)) 6 a := by simp [fr_fl, gI, gP, pP, va_rf]
theorem fs_6_1 (σ : fr_S) (a r : Nat) : (fr_fl σ 6 a).set 1 (.ref r) = fr_fl (pP σ 385 a (some r)) 6 a := by simp [fr_fl, gI, gP, pP, va_rf]
theorem fs_6_2 (σ : fr_S) (a r : Nat) : (fr_fl σ 6 a).set 2 (.ref r) = fr_fl (pP σ 386 a (some r)) 6 a := by simp [fr_fl, gI, gP, pP, va_rf]
theorem fs_6_3 (σ : fr_S) (a : Nat) (v : Int32) : (fr_fl σ 6 a).set 3 (.int v) = fr_fl (pI σ 387 a v) 6 a := by simp [fr_fl, gI, gP, pI]
theorem fs_7_0 (σ : fr_S) (a r : Nat) : (fr_fl σ 7 a).set 0 (.ref r) = fr_fl (pP σ 448 a (some r)) 7 a := by simp [fr_fl, gI, gP, pP, va_rf]
theorem fs_7_1 (σ : fr_S) (a r : Nat) : (fr_fl σ 7 a).set 1 (.ref r) = fr_fl (pP σ 449 a (some r)) 7 a := by simp [fr_fl, gI, gP, pP, va_rf]
theorem fs_7_2 (σ : fr_S) (a : Nat) (v : Int32) : (fr_fl σ 7 a).set 2 (.int v) = fr_fl (pI σ 450 a v) 7 a := by simp [fr_fl, gI, gP, pI]
theorem fs_7_3 (σ : fr_S) (a : Nat) (v : Int32) : (fr_fl σ 7 a).set 3 (.int v) = fr_fl (pI σ 451 a v) 7 a := by simp [fr_fl, gI, gP, pI]
theorem fs_7_4 (σ : fr_S) (a : Nat) (v : Int32) : (fr_fl σ 7 a).set 4 (.int v) = fr_fl (pI σ 452 a v) 7 a := by simp [fr_fl, gI, gP, pI]
theorem fs_7_5 (σ : fr_S) (a : Nat) (v : Int32) : (fr_fl σ 7 a).set 5 (.int v) = fr_fl (pI σ 453 a v) 7 a := by simp [fr_fl, gI, gP, pI]
theorem fs_7_6 (σ : fr_S) (a : Nat) (v : Int32) : (fr_fl σ 7 a).set 6 (.int v) = fr_fl (pI σ 454 a v) 7 a := by simp [fr_fl, gI, gP, pI]
theorem fs_7_7 (σ : fr_S) (a : Nat) (v : Int32) : (fr_fl σ 7 a).set 7 (.int v) = fr_fl (pI σ 455 a v) 7 a := by simp [fr_fl, gI, gP, pI]
theorem fs_7_8 (σ : fr_S) (a : Nat) (v : Int32) : (fr_fl σ 7 a).set 8 (.int v) = fr_fl (pI σ 456 a v) 7 a := by simp [fr_fl, gI, gP, pI]
