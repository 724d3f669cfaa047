/-! THE CELLS OF A STATE, and the heap that holds them -/
theorem fl_congr {σ τ : fr_S} {ci b : Nat} (h1 : ∀ f, gI σ f b = gI τ f b) (h2 : ∀ f, gP σ f b = gP τ f b) : fr_fl σ ci b = fr_fl τ ci b := by
  unfold fr_fl
  split <;> simp only [h1, h2]
def fr_el (σ : fr_S) (t a : Nat) : ((Nat → Int32) ⊕ (Nat → Int64) ⊕ (Nat → UInt32) ⊕ (Nat → UInt64) ⊕ (Nat → Option Nat)) := if t < 2 then .inl (gV σ a) else .inr (.inr (.inr (.inr (gQ σ a))))
def fr_c (T : Nat → ClassId) (σ : fr_S) (a : Nat) : Option va_E := match gK σ a with
  | none => none
  | some (.inl ci) => some (.inr (ci, fr_fl σ ci a))
  | some (.inr (t, n)) => some (.inl (T t, n, fr_el σ t a))
theorem c_obj {T : Nat → ClassId} {σ : fr_S} {a ci : Nat} (hk : gK σ a = some (.inl ci)) : fr_c T σ a = some (.inr (ci, fr_fl σ ci a)) := by
  unfold fr_c
  rw [hk]
theorem c_arr {T : Nat → ClassId} {σ : fr_S} {a t n : Nat} (hk : gK σ a = some (.inr (t, n))) : fr_c T σ a = some (.inl (T t, n, fr_el σ t a)) := by
  unfold fr_c
  rw [hk]
theorem c_none {T : Nat → ClassId} {σ : fr_S} {a : Nat} (hk : gK σ a = none) : fr_c T σ a = none := by
  unfold fr_c
  rw [hk]
theorem c_some {T : Nat → ClassId} {σ : fr_S} {a : Nat} {e : va_E} (h : fr_c T σ a = some e) : gK σ a ≠ none := by
  intro hk
  rw [c_none hk] at h
  cases h
/-- a cell is as it was where nothing of it has changed -/
theorem c_congr {T : Nat → ClassId} {σ τ : fr_S} {b : Nat} (h0 : gK σ b = gK τ b) (h1 : ∀ f, gI σ f b = gI τ f b) (h2 : ∀ f, gP σ f b = gP τ f b) (h3 : gV σ b = gV τ b) (h4 : gQ σ b = gQ τ b) : fr_c T σ b = fr_c T τ b := by
  cases hk : gK τ b with
  | none => rw [c_none hk, c_none (h0.trans hk)]
  | some k =>
    cases k with
    | inl ci => rw [c_obj hk, c_obj (h0.trans hk), fl_congr h1 h2]
    | inr tn =>
      obtain ⟨t, n⟩ := tn
      rw [c_arr hk, c_arr (h0.trans hk)]
      unfold fr_el
      rw [h3, h4]
def fr_H (D : va_G) (T : Nat → ClassId) (A : Nat → Prop) (σ : fr_S) (H : Heap) : Prop := (∀ (a : Nat) (e : va_E), fr_c T σ a = some e → va_at D vwCl (a, e) H) ∧ ∀ a : Nat, gK σ a ≠ none → A a
theorem fr_one {D : va_G} {T : Nat → ClassId} {A : Nat → Prop} {σ : fr_S} {H : Heap} {a : Nat} {e : va_E} (h : fr_H D T A σ H) (hc : fr_c T σ a = some e) : va_P D vwCl [(a, e)] H := by
  intro k q hq
  have hk : k < 1 := (List.getElem?_eq_some_iff.mp hq).1
  rw [show k = 0 by omega] at hq
  cases hq
  exact h.1 a e hc
/-- all cells of a state as a world of the kit -/
theorem fr_list {D : va_G} {T : Nat → ClassId} {A : Nat → Prop} {σ : fr_S} {H : Heap} (h : fr_H D T A σ H) : ∃ ws : va_W, va_P D vwCl ws H ∧ va_D A ws ∧ ∀ (b : Nat) (e : va_E), fr_c T σ b = some e → ∃ j : Nat, ws[j]? = some (b, e) := by
  have key : ∀ q : Nat × va_E, q ∈ (List.range H.size).filterMap (fun a => (fr_c T σ a).map (fun e => (a, e))) → fr_c T σ q.1 = some q.2 := by
    intro q hq
    obtain ⟨a, -, ha⟩ := List.mem_filterMap.mp hq
    cases hc : fr_c T σ a with
    | none => rw [hc] at ha; cases ha
    | some e => rw [hc] at ha; cases ha; exact hc
  refine ⟨(List.range H.size).filterMap (fun a => (fr_c T σ a).map (fun e => (a, e))), ?_, ⟨?_, ?_⟩, ?_⟩
  · intro k q hk
    exact h.1 q.1 q.2 (key q (List.mem_of_getElem? hk))
  · have hpw : List.Pairwise (fun (p q : Nat × va_E) => p.1 < q.1) ((List.range H.size).filterMap (fun a => (fr_c T σ a).map (fun e => (a, e)))) := by
      refine List.Pairwise.filterMap _ ?_ List.pairwise_lt_range
      intro a a' haa b hb b' hb'
      have hb : (fr_c T σ a).map (fun e => (a, e)) = some b := hb
      have hb' : (fr_c T σ a').map (fun e => (a', e)) = some b' := hb'
      cases hc : fr_c T σ a with
      | none => rw [hc] at hb; cases hb
      | some e =>
        cases hc' : fr_c T σ a' with
        | none => rw [hc'] at hb'; cases hb'
        | some e' =>
          rw [hc] at hb
          rw [hc'] at hb'
          cases hb
          cases hb'
          exact haa
    have hpi := List.pairwise_iff_getElem.mp hpw
    intro i j p q hi hj hpq
    obtain ⟨hi1, hi2⟩ := List.getElem?_eq_some_iff.mp hi
    obtain ⟨hj1, hj2⟩ := List.getElem?_eq_some_iff.mp hj
    rcases Nat.lt_trichotomy i j with hlt | heq | hgt
    · have := hpi i j hi1 hj1 hlt
      rw [hi2, hj2] at this
      omega
    · exact heq
    · have := hpi j i hj1 hi1 hgt
      rw [hi2, hj2] at this
      omega
  · intro k q hk
    exact h.2 q.1 (c_some (key q (List.mem_of_getElem? hk)))
  · intro b e hb
    have hlt : b < H.size := (h.1 b e hb).lt
    refine List.getElem?_of_mem (List.mem_filterMap.mpr ⟨b, List.mem_range.mpr hlt, ?_⟩)
    rw [hb]
    rfl
/-- behind a write to the cell a -/
theorem fr_back {D : va_G} {T : Nat → ClassId} {A : Nat → Prop} {σ τ : fr_S} {H H1 : Heap} {ws : va_W} {q0 a : Nat} {e e1 : va_E} (h : fr_H D T A σ H) (hw : ∀ (b : Nat) (e : va_E), fr_c T σ b = some e → ∃ j : Nat, ws[j]? = some (b, e)) (hq : ws[q0]? = some (a, e)) (hP : va_P D vwCl (ws.set q0 (a, e1)) H1)
    (ha : fr_c T τ a = some e1) (ho : ∀ b, b ≠ a → fr_c T τ b = fr_c T σ b) (hg : ∀ b, gK τ b = gK σ b) : fr_H D T A τ H1 := by
  have hl := (List.getElem?_eq_some_iff.mp hq).1
  refine ⟨fun b x hx => ?_, fun b hb => h.2 b (by rw [← hg b]; exact hb)⟩
  by_cases hba : b = a
  · subst hba
    rw [ha] at hx
    cases hx
    exact hP q0 _ (List.getElem?_set_self hl)
  · rw [ho b hba] at hx
    obtain ⟨j, hj⟩ := hw b x hx
    have hjq : q0 ≠ j := by
      intro hjq
      rw [hjq, hj] at hq
      cases hq
      exact hba rfl
    refine hP j _ ?_
    rw [List.getElem?_set_ne hjq]
    exact hj
theorem c_pI {T : Nat → ClassId} {σ : fr_S} {f a : Nat} {v : Int32} : ∀ b, b ≠ a → fr_c T (pI σ f a v) b = fr_c T σ b := fun b hb => c_congr rfl (fun g => by simp [gI, pI, hb]) (fun _ => rfl) rfl rfl
theorem c_pP {T : Nat → ClassId} {σ : fr_S} {f a : Nat} {v : Option Nat} : ∀ b, b ≠ a → fr_c T (pP σ f a v) b = fr_c T σ b := fun b hb => c_congr rfl (fun _ => rfl) (fun g => by simp [gP, pP, hb]) rfl rfl
theorem c_pA {T : Nat → ClassId} {σ : fr_S} {a : Nat} {u : Nat → Int32} : ∀ b, b ≠ a → fr_c T (pA σ a u) b = fr_c T σ b := fun b hb => c_congr rfl (fun _ => rfl) (fun _ => rfl) (by simp [gV, pA, hb]) rfl
theorem c_pB {T : Nat → ClassId} {σ : fr_S} {a : Nat} {u : Nat → Option Nat} : ∀ b, b ≠ a → fr_c T (pB σ a u) b = fr_c T σ b := fun b hb => c_congr rfl (fun _ => rfl) (fun _ => rfl) rfl (by simp [gQ, pB, hb])
theorem c_pN {T : Nat → ClassId} {σ : fr_S} {a : Nat} {k : fr_K} : ∀ b, b ≠ a → fr_c T (pN σ a k) b = fr_c T σ b := fun b hb => c_congr (by simp [gK, pN, hb]) (fun g => by simp [gI, pN, hb]) (fun g => by simp [gP, pN, hb]) (by simp [gV, pN, hb]) (by simp [gQ, pN, hb])
theorem gV_pA {σ : fr_S} {a : Nat} {u : Nat → Int32} : gV (pA σ a u) a = u := by simp [gV, pA]
theorem gQ_pB {σ : fr_S} {a : Nat} {u : Nat → Option Nat} : gQ (pB σ a u) a = u := by simp [gQ, pB]
section FRR
variable {p : Program} {l : Launch} {e : Env} {R : Room} {s : State} {m : MethodId} {args : Array Value} {below : List Frame} {meth : Method} {c : Code} {H : Heap} {locs : List Loc} {cells slots : Nat} {Q : State → Prop}
variable {cc : ByteArray} {pc : Nat} {ls : Array Slot} {rest : List Value} {D : va_G} {T : Nat → ClassId} {A : Nat → Prop} {a : Nat} {σ σ1 : fr_S} {H0 : Heap} {tys : List (ClassId × FieldType)}
theorem fr_gI (hx : p.tables.exec = Jvm.exec) (hb : c.code = cc) {own ref C : String} {Tt : u_T} {N ci index : Nat} {Ts : List Cond} (hts : ∀ w ∈ Ts, w.before args s = true) (hin : ∀ w ∈ u_ws C Tt N, w ∈ Ts) (hown : s.vm.findClass own = some m.cls) (hK : va_K D vwCl tys s) (hH : fr_H D T A σ H) {f : Nat} {v : Int32} (h : oI σ ci f a = some v) (hc : vwCl[ci]? = some (C, Tt, N)) (k : Nat) (hk : k < N) (hlink : (Cond.fieldLink own index ref (Tt k).2.1 (Tt k).2.2.1).before args s = true) (hsame : ∀ x, s.fieldFound? (Tt k).1 (Tt k).2.1 (Tt k).2.2.1 = some x → s.fieldFound? ref (Tt k).2.1 (Tt k).2.2.1 = some x) (hv : (fr_fl σ ci a)[k]? = some (.int (gI σ f a))) (hdg : decode cc pc = .ok (.getfield index, 3))
    (kk : W p l e R s m args below meth c H locs cells slots Q (F0 m (pc + 3) ls (.int v :: rest))) : W p l e R s m args below meth c H locs cells slots Q (F0 m pc ls (.ref a :: rest)) := by
  obtain ⟨hk0, hv0⟩ := oI_inv h
  subst hv0
  exact va_get hx hb hts hin hown hK (fr_one hH (c_obj hk0)) 0 rfl hc k hk hlink hsame hv hdg kk
theorem fr_gP (hx : p.tables.exec = Jvm.exec) (hb : c.code = cc) {own ref C : String} {Tt : u_T} {N ci index : Nat} {Ts : List Cond} (hts : ∀ w ∈ Ts, w.before args s = true) (hin : ∀ w ∈ u_ws C Tt N, w ∈ Ts) (hown : s.vm.findClass own = some m.cls) (hK : va_K D vwCl tys s) (hH : fr_H D T A σ H) {f r : Nat} (h : oP σ ci f a = some r) (hc : vwCl[ci]? = some (C, Tt, N)) (k : Nat) (hk : k < N) (hlink : (Cond.fieldLink own index ref (Tt k).2.1 (Tt k).2.2.1).before args s = true) (hsame : ∀ x, s.fieldFound? (Tt k).1 (Tt k).2.1 (Tt k).2.2.1 = some x → s.fieldFound? ref (Tt k).2.1 (Tt k).2.2.1 = some x) (hv : (fr_fl σ ci a)[k]? = some (va_rf (gP σ f a))) (hdg : decode cc pc = .ok (.getfield index, 3))
    (kk : W p l e R s m args below meth c H locs cells slots Q (F0 m (pc + 3) ls (.ref r :: rest))) : W p l e R s m args below meth c H locs cells slots Q (F0 m pc ls (.ref a :: rest)) := by
  obtain ⟨hk0, hv0⟩ := oP_inv h
  rw [hv0] at hv
  exact va_get hx hb hts hin hown hK (fr_one hH (c_obj hk0)) 0 rfl hc k hk hlink hsame hv hdg kk
theorem fr_putI (hx : p.tables.exec = Jvm.exec) (hb : c.code = cc) {own ref C : String} {Tt : u_T} {N ci index : Nat} {Ts : List Cond} (hts : ∀ w ∈ Ts, w.before args s = true) (hin : ∀ w ∈ u_ws C Tt N, w ∈ Ts) (ty0 : Nat → FieldType) (hty : ∀ k, k < N → parseFieldDescriptor (Tt k).2.2.1 = some (ty0 k)) (hnm : ∀ a, a < N → ∀ b, b < N → a ≠ b → (Tt a).2.1 ≠ (Tt b).2.1) (hown : s.vm.findClass own = some m.cls) (hK : va_K D vwCl tys s) (hH : fr_H D T A σ H) (hS : va_S A H0 H locs) {f : Nat} {v : Int32} (h : sI σ ci f a v = some σ1) (hc : vwCl[ci]? = some (C, Tt, N)) (k : Nat) (hk : k < N) (hlink : (Cond.fieldLink own index ref (Tt k).2.1 (Tt k).2.2.1).before args s = true) (hsame : ∀ x, s.fieldFound? (Tt k).1 (Tt k).2.1 (Tt k).2.2.1 = some x → s.fieldFound? ref (Tt k).2.1 (Tt k).2.2.1 = some x) (hfin : (Tt k).2.2.2 = false) (hd : parseFieldDescriptor (Tt k).2.2.1 = some .int)
    (hset : (fr_fl σ ci a).set k (.int v) = fr_fl (pI σ f a v) ci a) (hl : k < (fr_fl σ ci a).length) (hdg : decode cc pc = .ok (.putfield index, 3))
    (kk : ∀ (H1 : Heap) (locs1 : List Loc), fr_H D T A σ1 H1 → va_S A H0 H1 locs1 → W p l e R s m args below meth c H1 locs1 cells slots Q (F0 m (pc + 3) ls rest)) : W p l e R s m args below meth c H locs cells slots Q (F0 m pc ls (.int v :: .ref a :: rest)) := by
  obtain ⟨hk0, hs0⟩ := sI_inv h
  subst hs0
  obtain ⟨ws, hP, hD, hw⟩ := fr_list hH
  obtain ⟨q0, hq0⟩ := hw a _ (c_obj hk0)
  exact va_put hx hb hts hin ty0 hty hnm hown hK hP hD hS q0 hq0 hc k hk hlink hsame hfin hd rfl rfl hl hdg (fun H1 locs1 hP1 _ hS1 => kk H1 locs1 (fr_back hH hw hq0 hP1 (by rw [hset]; exact c_obj hk0) c_pI (fun _ => rfl)) hS1)
theorem fr_putZ (hx : p.tables.exec = Jvm.exec) (hb : c.code = cc) {own ref C : String} {Tt : u_T} {N ci index : Nat} {Ts : List Cond} (hts : ∀ w ∈ Ts, w.before args s = true) (hin : ∀ w ∈ u_ws C Tt N, w ∈ Ts) (ty0 : Nat → FieldType) (hty : ∀ k, k < N → parseFieldDescriptor (Tt k).2.2.1 = some (ty0 k)) (hnm : ∀ a, a < N → ∀ b, b < N → a ≠ b → (Tt a).2.1 ≠ (Tt b).2.1) (hown : s.vm.findClass own = some m.cls) (hK : va_K D vwCl tys s) (hH : fr_H D T A σ H) (hS : va_S A H0 H locs) {f : Nat} {v : Int32} (h : sZ σ ci f a v = some σ1) (hc : vwCl[ci]? = some (C, Tt, N)) (k : Nat) (hk : k < N) (hlink : (Cond.fieldLink own index ref (Tt k).2.1 (Tt k).2.2.1).before args s = true) (hsame : ∀ x, s.fieldFound? (Tt k).1 (Tt k).2.1 (Tt k).2.2.1 = some x → s.fieldFound? ref (Tt k).2.1 (Tt k).2.2.1 = some x) (hfin : (Tt k).2.2.2 = false) (hd : parseFieldDescriptor (Tt k).2.2.1 = some .boolean)
    (hset : (fr_fl σ ci a).set k (.int v) = fr_fl (pI σ f a v) ci a) (hl : k < (fr_fl σ ci a).length) (hdg : decode cc pc = .ok (.putfield index, 3))
    (kk : ∀ (H1 : Heap) (locs1 : List Loc), fr_H D T A σ1 H1 → va_S A H0 H1 locs1 → W p l e R s m args below meth c H1 locs1 cells slots Q (F0 m (pc + 3) ls rest)) : W p l e R s m args below meth c H locs cells slots Q (F0 m pc ls (.int v :: .ref a :: rest)) := by
  obtain ⟨hk0, hz, hs0⟩ := sZ_inv h
  subst hs0
  obtain ⟨ws, hP, hD, hw⟩ := fr_list hH
  obtain ⟨q0, hq0⟩ := hw a _ (c_obj hk0)
  exact va_put hx hb hts hin ty0 hty hnm hown hK hP hD hS q0 hq0 hc k hk hlink hsame hfin hd (by rcases hz with h1 | h1 <;> rw [h1] <;> rfl) (by rcases hz with h1 | h1 <;> rw [h1] <;> rfl) hl hdg (fun H1 locs1 hP1 _ hS1 => kk H1 locs1 (fr_back hH hw hq0 hP1 (by rw [hset]; exact c_obj hk0) c_pI (fun _ => rfl)) hS1)
theorem fr_ild (hx : p.tables.exec = Jvm.exec) (hb : c.code = cc) (hK : va_K D vwCl (fr_tys T) s) (hH : fr_H D T A σ H) {i v : Int32} (h : oV σ 0 a i = some v) (hdg : decode cc pc = .ok (.iaload, 1))
    (kk : W p l e R s m args below meth c H locs cells slots Q (F0 m (pc + 1) ls (.int v :: rest))) : W p l e R s m args below meth c H locs cells slots Q (F0 m pc ls (.int i :: .ref a :: rest)) := by
  obtain ⟨n, hk, hin, hv⟩ := oV_inv h
  subst hv
  exact va_iald hx hb hK (fr_one hH (c_arr hk)) 0 0 rfl rfl hin hdg kk
theorem fr_zld (hx : p.tables.exec = Jvm.exec) (hb : c.code = cc) (hK : va_K D vwCl (fr_tys T) s) (hH : fr_H D T A σ H) {i v : Int32} (h : oV σ 1 a i = some v) (hdg : decode cc pc = .ok (.baload, 1))
    (kk : W p l e R s m args below meth c H locs cells slots Q (F0 m (pc + 1) ls (.int v :: rest))) : W p l e R s m args below meth c H locs cells slots Q (F0 m pc ls (.int i :: .ref a :: rest)) := by
  obtain ⟨n, hk, hin, hv⟩ := oV_inv h
  subst hv
  exact va_zald hx hb hK (fr_one hH (c_arr hk)) 0 1 rfl rfl hin hdg kk
theorem fr_qld (hx : p.tables.exec = Jvm.exec) (hb : c.code = cc) (hK : va_K D vwCl (fr_tys T) s) (hH : fr_H D T A σ H) {i : Int32} {t r : Nat} {C : String} (h : oQ σ t a i = some r) (h2 : ¬ t < 2) (ht : (fr_tys T)[t]? = some (T t, .object C)) (hdg : decode cc pc = .ok (.aaload, 1))
    (kk : W p l e R s m args below meth c H locs cells slots Q (F0 m (pc + 1) ls (.ref r :: rest))) : W p l e R s m args below meth c H locs cells slots Q (F0 m pc ls (.int i :: .ref a :: rest)) := by
  obtain ⟨n, hk, hin, hv⟩ := oQ_inv h
  have hc := c_arr (T := T) hk
  unfold fr_el at hc
  rw [if_neg h2] at hc
  refine va_aldq hx hb hK (fr_one hH hc) 0 t rfl ht hin hdg ?_
  rw [hv]
  exact kk
theorem fr_len (hx : p.tables.exec = Jvm.exec) (hb : c.code = cc) (hK : va_K D vwCl (fr_tys T) s) (hH : fr_H D T A σ H) {t : Nat} {v : Int32} {ty : FieldType} (h : oN σ t a = some v) (ht : (fr_tys T)[t]? = some (T t, ty)) (hdg : decode cc pc = .ok (.arraylength, 1))
    (kk : W p l e R s m args below meth c H locs cells slots Q (F0 m (pc + 1) ls (.int v :: rest))) : W p l e R s m args below meth c H locs cells slots Q (F0 m pc ls (.ref a :: rest)) := by
  obtain ⟨n, hk, hv⟩ := oN_inv h
  exact va_alen hx hb hK (fr_one hH (c_arr hk)) 0 t rfl ht hv hdg kk
theorem fr_ist (hx : p.tables.exec = Jvm.exec) (hb : c.code = cc) (hK : va_K D vwCl (fr_tys T) s) (hH : fr_H D T A σ H) (hS : va_S A H0 H locs) {i v : Int32} (h : sV σ 0 a i v = some σ1) (hdg : decode cc pc = .ok (.iastore, 1))
    (kk : ∀ (H1 : Heap) (locs1 : List Loc), fr_H D T A σ1 H1 → va_S A H0 H1 locs1 → W p l e R s m args below meth c H1 locs1 cells slots Q (F0 m (pc + 1) ls rest)) : W p l e R s m args below meth c H locs cells slots Q (F0 m pc ls (.int v :: .int i :: .ref a :: rest)) := by
  obtain ⟨n, hk, hin, hs0⟩ := sV_inv h
  subst hs0
  obtain ⟨ws, hP, hD, hw⟩ := fr_list hH
  obtain ⟨q0, hq0⟩ := hw a _ (c_arr hk)
  refine va_iast hx hb hK hP hD hS q0 0 hq0 rfl hin hdg (fun H1 locs1 hP1 _ hS1 => kk H1 locs1 (fr_back hH hw hq0 hP1 ?_ c_pA (fun _ => rfl)) hS1)
  rw [c_arr (σ := pA σ a _) (t := 0) (n := n) hk]
  unfold fr_el
  rw [if_pos (by decide), gV_pA]
theorem fr_zst (hx : p.tables.exec = Jvm.exec) (hb : c.code = cc) (hK : va_K D vwCl (fr_tys T) s) (hH : fr_H D T A σ H) (hS : va_S A H0 H locs) {i v : Int32} (h : sV σ 1 a i (vp_nar .boolean v) = some σ1) (hdg : decode cc pc = .ok (.bastore, 1))
    (kk : ∀ (H1 : Heap) (locs1 : List Loc), fr_H D T A σ1 H1 → va_S A H0 H1 locs1 → W p l e R s m args below meth c H1 locs1 cells slots Q (F0 m (pc + 1) ls rest)) : W p l e R s m args below meth c H locs cells slots Q (F0 m pc ls (.int v :: .int i :: .ref a :: rest)) := by
  obtain ⟨n, hk, hin, hs0⟩ := sV_inv h
  subst hs0
  obtain ⟨ws, hP, hD, hw⟩ := fr_list hH
  obtain ⟨q0, hq0⟩ := hw a _ (c_arr hk)
  refine va_zast hx hb hK hP hD hS q0 1 hq0 rfl hin hdg (fun H1 locs1 hP1 _ hS1 => kk H1 locs1 (fr_back hH hw hq0 hP1 ?_ c_pA (fun _ => rfl)) hS1)
  rw [c_arr (σ := pA σ a _) (t := 1) (n := n) hk]
  unfold fr_el
  rw [if_pos (by decide), gV_pA]
theorem fr_cpy (hx : p.tables.exec = Jvm.exec) (hb : c.code = cc) (hml : c.maxLocals = ls.size) {own : String} {index : Nat} (hown : s.vm.findClass own = some m.cls) (hlink : (Cond.methodLink own index arraycopyName).before args s = true) (hnat : (Cond.native arraycopyName).before args s = true) (hstat : (Cond.static arraycopyName).before args s = true) (hini : (Cond.initialized "java/lang/System").before args s = true)
    (hK : va_K D vwCl (fr_tys T) s) (hH : fr_H D T A σ H) (hS : va_S A H0 H locs) {a0 : Nat} {sp dp n : Int32} (h : sC σ a0 sp a dp n = some σ1) (hframes : 1 ≤ R.frames) (hlocals : (rest.map fun v => v.category).sum + (nativeFrameWords "java/lang/System" "arraycopy" 5 + 11) ≤ R.locals) (hdg : decode cc pc = .ok (.invokestatic index, 3))
    (kk : ∀ (H1 : Heap) (locs1 : List Loc), fr_H D T A σ1 H1 → va_S A H0 H1 locs1 → W p l e R s m args below meth c H1 locs1 cells slots Q (F0 m (pc + 3) ls rest)) : W p l e R s m args below meth c H locs cells slots Q (F0 m pc ls (.int n :: .int dp :: .ref a :: .int sp :: .ref a0 :: rest)) := by
  obtain ⟨n0, n1, hk0, hk1, ⟨g1, g2, g3⟩, g4, g5, hs0⟩ := sC_inv h
  subst hs0
  obtain ⟨ws, hP, hD, hw⟩ := fr_list hH
  obtain ⟨q0, hq0⟩ := hw a0 _ (c_arr hk0)
  obtain ⟨q1, hq1⟩ := hw a _ (c_arr hk1)
  refine va_copyi hx hb hml hown hlink hnat hstat hini hK hP hD hS q0 q1 0 0 hq0 hq1 rfl rfl rfl g1 g2 g3 g4 g5 (fun _ _ => rfl) hframes hlocals hdg (fun H1 locs1 hP1 _ hS1 => kk H1 locs1 (fr_back hH hw hq1 hP1 ?_ c_pA (fun _ => rfl)) hS1)
  rw [c_arr (σ := pA σ a _) (t := 0) (n := n1) hk1]
  unfold fr_el
  rw [if_pos (by decide), gV_pA]
end FRR
