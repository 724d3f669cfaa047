/-! ROWS OF CONSTRUCTORS: the heap's size is known, new cells come at its end -/
theorem gK_pN {σ : fr_S} {a b : Nat} {k : fr_K} : gK (pN σ a k) b = if b = a then some k else gK σ b := rfl
/-- behind a new cell -/
theorem fr_new0 {D : va_G} {T : Nat → ClassId} {A : Nat → Prop} {σ : fr_S} {H H1 : Heap} {k : fr_K} {e1 : va_E} (h : fr_H D T A σ H) (hq : ∀ q, q < H.size → H1[q]? = H[q]?) (hA : A H.size) (hc : fr_c T (pN σ H.size k) H.size = some e1) (he : va_at D vwCl (H.size, e1) H1) : fr_H D T A (pN σ H.size k) H1 := by
  refine ⟨fun b x hx => ?_, fun b hb => ?_⟩
  · by_cases hba : b = H.size
    · subst hba
      rw [hc] at hx
      cases hx
      exact he
    · rw [c_pN b hba] at hx
      have h1 := h.1 b x hx
      exact h1.kept (hq b h1.lt)
  · by_cases hba : b = H.size
    · rw [hba]; exact hA
    · rw [gK_pN, if_neg hba] at hb
      exact h.2 b hb
section FRN
variable {p : Program} {l : Launch} {e : Env} {R : Room} {s : State} {m : MethodId} {args : Array Value} {below : List Frame} {meth : Method} {c : Code} {H : Heap} {locs : List Loc} {cells slots : Nat} {Q : State → Prop}
variable {cc : ByteArray} {pc : Nat} {ls : Array Slot} {rest : List Value} {D : va_G} {T : Nat → ClassId} {A : Nat → Prop} {a : Nat} {σ σ1 : fr_S} {H0 : Heap} {tys : List (ClassId × FieldType)}
/-- a field that isn't final: the new cells, and that the size is the same -/
theorem fr_putC (hx : p.tables.exec = Jvm.exec) (hb : c.code = cc) {own ref C : String} {Tt : u_T} {N ci index : Nat} {Ts : List Cond} (hts : ∀ w ∈ Ts, w.before args s = true) (hin : ∀ w ∈ u_ws C Tt N, w ∈ Ts) (ty0 : Nat → FieldType) (hty : ∀ k, k < N → parseFieldDescriptor (Tt k).2.2.1 = some (ty0 k)) (hnm : ∀ a, a < N → ∀ b, b < N → a ≠ b → (Tt a).2.1 ≠ (Tt b).2.1) (hown : s.vm.findClass own = some m.cls) (hK : va_K D vwCl tys s) {fs : List Value} (hat : va_at D vwCl (a, .inr (ci, fs)) H) (hA : A a) (hS : va_S A H0 H locs) (hc : vwCl[ci]? = some (C, Tt, N)) (k : Nat) (hk : k < N) (hlink : (Cond.fieldLink own index ref (Tt k).2.1 (Tt k).2.2.1).before args s = true) (hsame : ∀ x, s.fieldFound? (Tt k).1 (Tt k).2.1 (Tt k).2.2.1 = some x → s.fieldFound? ref (Tt k).2.1 (Tt k).2.2.1 = some x) (hfin : (Tt k).2.2.2 = false) {ty : FieldType} {v : Value} (hd : parseFieldDescriptor (Tt k).2.2.1 = some ty) (hn : narrow ty v = v) (hfit : fits ty v = true) (hl : k < fs.length) (hdg : decode cc pc = .ok (.putfield index, 3))
    (kk : ∀ (H1 : Heap) (locs1 : List Loc), va_at D vwCl (a, .inr (ci, fs.set k v)) H1 → H1.size = H.size → (∀ q, q ≠ a → H1[q]? = H[q]?) → va_S A H0 H1 locs1 → W p l e R s m args below meth c H1 locs1 cells slots Q (F0 m (pc + 3) ls rest)) : W p l e R s m args below meth c H locs cells slots Q (F0 m pc ls (v :: .ref a :: rest)) := by
  have hap := va_apart (own := own) hts hin ty0 hty hnm hK hc
  obtain ⟨r, h1, cell, q1, q2, q3, q4⟩ := hat
  have hr : r = (C, Tt, N) := Option.some.inj (h1.symm.trans hc)
  subst hr
  obtain ⟨hSl, hfc, kC, hkC, hkind⟩ := hK.1 ci _ hc
  obtain ⟨cf, kf, fi, fd, hi, hsl⟩ := hSl k hk
  have hlay := hts _ (hin _ (u_in_lay hk))
  unfold u_lay at hlay
  rw [if_neg (by rw [hfin]; decide)] at hlay
  have hst := (u_facts hfc hkC (u_lays hts hin hk) hi).1
  refine W.putK hx hb (f := fd) ⟨hown, hlink, ⟨_, _, _, hsame _ hi⟩, hst⟩ (by rw [q2]; exact u_store hfc hkC hkind hlay hi hd hn hfit) q1 q3 (by rw [hsl]; exact k2_hasslot (q4 k hk)) rfl rfl hdg fun H1 e1 e2 e3 => ?_
  rw [hsl] at e1
  exact kk H1 _ ⟨_, hc, t_OB.to (V := updV (vp_V fs) k v) ⟨_, e1, q2, q3, t_set q4 hap hk v⟩ (fun j _ => vp_updV_set hl v j)⟩ e2 e3 (hS.put e2 e3 hA)
/-- a final field, in the constructor -/
theorem fr_putD (hx : p.tables.exec = Jvm.exec) (hb : c.code = cc) {own ref C : String} {Tt : u_T} {N ci index : Nat} {Ts : List Cond} (hts : ∀ w ∈ Ts, w.before args s = true) (hin : ∀ w ∈ u_ws C Tt N, w ∈ Ts) (ty0 : Nat → FieldType) (hty : ∀ k, k < N → parseFieldDescriptor (Tt k).2.2.1 = some (ty0 k)) (hnm : ∀ a, a < N → ∀ b, b < N → a ≠ b → (Tt a).2.1 ≠ (Tt b).2.1) (hown : s.vm.findClass own = some m.cls) (hK : va_K D vwCl tys s) {fs : List Value} (hat : va_at D vwCl (a, .inr (ci, fs)) H) (hA : A a) (hS : va_S A H0 H locs) (hc : vwCl[ci]? = some (C, Tt, N)) (k : Nat) (hk : k < N) (hlink : (Cond.fieldLink own index ref (Tt k).2.1 (Tt k).2.2.1).before args s = true) (hsame : ∀ x, s.fieldFound? (Tt k).1 (Tt k).2.1 (Tt k).2.2.1 = some x → s.fieldFound? ref (Tt k).2.1 (Tt k).2.2.1 = some x) (hfin : (Tt k).2.2.2 = true) (hini : meth.name = "<init>") (hdecl : (Tt k).1 = own) {ty : FieldType} {v : Value} (hd : parseFieldDescriptor (Tt k).2.2.1 = some ty) (hn : narrow ty v = v) (hfit : fits ty v = true) (hl : k < fs.length) (hdg : decode cc pc = .ok (.putfield index, 3))
    (kk : ∀ (H1 : Heap) (locs1 : List Loc), va_at D vwCl (a, .inr (ci, fs.set k v)) H1 → H1.size = H.size → (∀ q, q ≠ a → H1[q]? = H[q]?) → va_S A H0 H1 locs1 → W p l e R s m args below meth c H1 locs1 cells slots Q (F0 m (pc + 3) ls rest)) : W p l e R s m args below meth c H locs cells slots Q (F0 m pc ls (v :: .ref a :: rest)) := by
  have hap := va_apart (own := own) hts hin ty0 hty hnm hK hc
  obtain ⟨r, h1, cell, q1, q2, q3, q4⟩ := hat
  have hr : r = (C, Tt, N) := Option.some.inj (h1.symm.trans hc)
  subst hr
  obtain ⟨hSl, hfc, kC, hkC, hkind⟩ := hK.1 ci _ hc
  obtain ⟨cf, kf, fi, fd, hi, hsl⟩ := hSl k hk
  have hlay := hts _ (hin _ (u_in_lay hk))
  unfold u_lay at hlay
  rw [if_pos hfin] at hlay
  have hst := (u_facts hfc hkC (u_lays hts hin hk) hi).1
  have hcf : m.cls = cf := by
    obtain ⟨_, _, c', _, _, _, -, -, hf', -, -, -, hown2, -⟩ := Cond.laysFinal_spec hlay
    have e1 : c' = cf := by have := hi.symm.trans hf'; simp at this; exact this.1.symm
    rw [hdecl] at hown2
    rw [← e1]; exact Option.some.inj (hown.symm.trans hown2)
  refine W.putFinK hx hb hown hlink (hsame _ hi) hst hcf hini (by rw [q2]; exact u_fits hfc hkC hkind (Or.inr hlay) hi hd hn hfit) q1 q3 (by rw [hsl]; exact k2_hasslot (q4 k hk)) rfl rfl hdg fun H1 e1 e2 e3 => ?_
  rw [hsl] at e1
  exact kk H1 _ ⟨_, hc, t_OB.to (V := updV (vp_V fs) k v) ⟨_, e1, q2, q3, t_set q4 hap hk v⟩ (fun j _ => vp_updV_set hl v j)⟩ e2 e3 (hS.put e2 e3 hA)
end FRN
section FRM
variable {p : Program} {l : Launch} {e : Env} {R : Room} {s : State} {m : MethodId} {args : Array Value} {below : List Frame} {meth : Method} {c : Code} {H : Heap} {locs : List Loc} {cells slots : Nat} {Q : State → Prop}
variable {cc : ByteArray} {pc : Nat} {ls : Array Slot} {rest : List Value} {D : va_G} {T : Nat → ClassId} {A : Nat → Prop} {a nx : Nat} {σ σ1 : fr_S} {H0 : Heap}
/-- behind a write to a cell, the size known -/
theorem fr_backN {σ τ : fr_S} {H H1 : Heap} {e1 : va_E} (h : fr_H D T A σ H) (he : va_at D vwCl (a, e1) H1) (oq : ∀ q, q ≠ a → H1[q]? = H[q]?) (ha : fr_c T τ a = some e1) (ho : ∀ b, b ≠ a → fr_c T τ b = fr_c T σ b) (hg : ∀ b, gK τ b = gK σ b) : fr_H D T A τ H1 := by
  refine ⟨fun b x hx => ?_, fun b hb => h.2 b (by rw [← hg b]; exact hb)⟩
  by_cases hba : b = a
  · subst hba
    rw [ha] at hx
    cases hx
    exact he
  · rw [ho b hba] at hx
    exact (h.1 b x hx).kept (oq b hba)
theorem fr_new (hx : p.tables.exec = Jvm.exec) (hb : c.code = cc) {own C : String} {Tt : u_T} {N ci index : Nat} {Ts : List Cond} (hts : ∀ w ∈ Ts, w.before args s = true) (hin : ∀ w ∈ u_ws C Tt N, w ∈ Ts) (ty : Nat → FieldType) (hty : ∀ k, k < N → parseFieldDescriptor (Tt k).2.2.1 = some (ty k)) (hown : s.vm.findClass own = some m.cls) (hcl : (Cond.classLink own index C).before args s = true) (hinst : (Cond.instantiable C N).before args s = true) (hini : (Cond.initialized C).before args s = true)
    (hK : va_K D vwCl (fr_tys T) s) (hH : fr_H D T A σ H) (hS : va_S A H0 H locs) (hA : ∀ q, H0.size ≤ q → A q) (hN : H.size = nx) (hc : vwCl[ci]? = some (C, Tt, N)) (hfs : ∀ j, j < N → defaultValue (ty j) = vp_V (fr_fl (pN σ nx (.inl ci)) ci nx) j) (hcells : cells + 1 ≤ R.cells) (hslots : slots + N ≤ R.slots) (hdg : decode cc pc = .ok (.new index, 3))
    (kk : ∀ H1 : Heap, fr_H D T A (pN σ nx (.inl ci)) H1 → H1.size = nx + 1 → va_S A H0 H1 locs → W p l e R s m args below meth c H1 locs (cells + 1) (slots + N) Q (F0 m (pc + 3) ls (.ref nx :: rest))) : W p l e R s m args below meth c H locs cells slots Q (F0 m pc ls rest) := by
  subst hN
  have hKn := hK.1 ci _ hc
  refine W.newcK hx hb hown hcl hinst hini rfl hdg hcells hslots hKn.2.1 rfl fun H1 kC hkC e1 z1 o1 => ?_
  exact kk H1 (fr_new0 hH o1 (hA _ hS.1) (c_obj (by simp [gK, pN])) ⟨_, hc, (u_born ty hts hin hKn hkC e1 hty).to hfs⟩) z1 ⟨Nat.le_trans hS.1 (by omega), fun x h1 h2 => (o1 x (Nat.lt_of_lt_of_le h1 hS.1)).trans (hS.2.1 x h1 h2), hS.2.2⟩
theorem fr_newI (hx : p.tables.exec = Jvm.exec) (hb : c.code = cc) (harr : (Cond.arrayClass .int).before args s = true) (hK : va_K D vwCl (fr_tys T) s) (hH : fr_H D T A σ H) (hS : va_S A H0 H locs) (hA : ∀ q, H0.size ≤ q → A q) (hN : H.size = nx) {n : Int32} {N : Nat} (hn : ¬ n < 0) (hNn : n.toNatClampNeg = N) (hby : N * 4 ≤ 536870912) (hcells : cells + 1 ≤ R.cells) (hslots : slots + N ≤ R.slots) (hdg : decode cc pc = .ok (.newarray .int, 2))
    (kk : ∀ H1 : Heap, fr_H D T A (pN σ nx (.inr (0, N))) H1 → H1.size = nx + 1 → va_S A H0 H1 locs → W p l e R s m args below meth c H1 locs (cells + 1) (slots + N) Q (F0 m (pc + 2) ls (.ref nx :: rest))) : W p l e R s m args below meth c H locs cells slots Q (F0 m pc ls (.int n :: rest)) := by
  subst hN
  refine va_newaK (atype := .int) hx hb harr rfl hdg rfl hn hNn hby hcells hslots rfl fun H1 cA e1 z1 o1 hAr hNm => ?_
  have hT : s.vm.findClass ("[" ++ FieldType.int.toString) = some (T 0) := (hK.2 0 (T 0, .int) rfl).2
  have hcA : cA = T 0 := Option.some.inj (hNm.symm.trans hT)
  subst hcA
  refine kk H1 (fr_new0 (e1 := .inl (T 0, N, .inl (fun _ => 0))) hH o1 (hA _ hS.1) ?_ e1) z1 ⟨Nat.le_trans hS.1 (by omega), fun x h1 h2 => (o1 x (Nat.lt_of_lt_of_le h1 hS.1)).trans (hS.2.1 x h1 h2), hS.2.2⟩
  rw [c_arr (t := 0) (n := N) (by simp [gK, pN])]
  simp [fr_el, gV, pN]
theorem fr_newZ (hx : p.tables.exec = Jvm.exec) (hb : c.code = cc) (harr : (Cond.arrayClass .boolean).before args s = true) (hK : va_K D vwCl (fr_tys T) s) (hH : fr_H D T A σ H) (hS : va_S A H0 H locs) (hA : ∀ q, H0.size ≤ q → A q) (hN : H.size = nx) {n : Int32} {N : Nat} (hn : ¬ n < 0) (hNn : n.toNatClampNeg = N) (hby : N * 1 ≤ 536870912) (hcells : cells + 1 ≤ R.cells) (hslots : slots + N ≤ R.slots) (hdg : decode cc pc = .ok (.newarray .boolean, 2))
    (kk : ∀ H1 : Heap, fr_H D T A (pN σ nx (.inr (1, N))) H1 → H1.size = nx + 1 → va_S A H0 H1 locs → W p l e R s m args below meth c H1 locs (cells + 1) (slots + N) Q (F0 m (pc + 2) ls (.ref nx :: rest))) : W p l e R s m args below meth c H locs cells slots Q (F0 m pc ls (.int n :: rest)) := by
  subst hN
  refine va_newaK (atype := .boolean) hx hb harr rfl hdg rfl hn hNn hby hcells hslots rfl fun H1 cA e1 z1 o1 hAr hNm => ?_
  have hT : s.vm.findClass ("[" ++ FieldType.boolean.toString) = some (T 1) := (hK.2 1 (T 1, .boolean) rfl).2
  have hcA : cA = T 1 := Option.some.inj (hNm.symm.trans hT)
  subst hcA
  refine kk H1 (fr_new0 (e1 := .inl (T 1, N, .inl (fun _ => 0))) hH o1 (hA _ hS.1) ?_ e1) z1 ⟨Nat.le_trans hS.1 (by omega), fun x h1 h2 => (o1 x (Nat.lt_of_lt_of_le h1 hS.1)).trans (hS.2.1 x h1 h2), hS.2.2⟩
  rw [c_arr (t := 1) (n := N) (by simp [gK, pN])]
  simp [fr_el, gV, pN]
theorem fr_newQ (hx : p.tables.exec = Jvm.exec) (hb : c.code = cc) {own C : String} {index t : Nat} (hown : s.vm.findClass own = some m.cls) (hcl : (Cond.classLink own index C).before args s = true) (hov : va_AO C s) (h2 : ¬ t < 2) (ht : (fr_tys T)[t]? = some (T t, .object C)) (hK : va_K D vwCl (fr_tys T) s) (hH : fr_H D T A σ H) (hS : va_S A H0 H locs) (hA : ∀ q, H0.size ≤ q → A q) (hN : H.size = nx) {n : Int32} {N : Nat} (hn : ¬ n < 0) (hNn : n.toNatClampNeg = N) (hby : N * 4 ≤ 536870912) (hcells : cells + 1 ≤ R.cells) (hslots : slots + N ≤ R.slots) (hdg : decode cc pc = .ok (.anewarray index, 3))
    (kk : ∀ H1 : Heap, fr_H D T A (pN σ nx (.inr (t, N))) H1 → H1.size = nx + 1 → va_S A H0 H1 locs → W p l e R s m args below meth c H1 locs (cells + 1) (slots + N) Q (F0 m (pc + 3) ls (.ref nx :: rest))) : W p l e R s m args below meth c H locs cells slots Q (F0 m pc ls (.int n :: rest)) := by
  subst hN
  subst hNn
  refine W.anew hx hb hown hcl (va_AO.use hov) rfl hdg rfl hn hby hcells hslots fun cA kA comp f1 f2 f3 f4 => ?_
  generalize hH1 : H.push ({ cls := cA, slots := Array.replicate n.toNatClampNeg .null, vm := .none } : Cell) = H1
  have z1 : H1.size = H.size + 1 := by rw [← hH1, Array.size_push]
  have e1 : H1[H.size]? = some (arrV cA n.toNatClampNeg (fun _ => .null)) := by rw [← hH1, Array.getElem?_push_size, ← arrV_new]
  have o1 : ∀ q, q < H.size → H1[q]? = H[q]? := fun q hq => by rw [← hH1, Array.getElem?_push, if_neg (Nat.ne_of_lt hq)]
  obtain ⟨kA', comp', g1, g2, g3, hT⟩ : va_RA s (T t) (.object C) := (hK.2 t _ ht).2
  have hcA : cA = T t := Option.some.inj (f1.symm.trans hT)
  subst hcA
  refine kk H1 (fr_new0 (e1 := .inl (T t, n.toNatClampNeg, .inr (.inr (.inr (.inr (fun _ => none)))))) hH o1 (hA _ hS.1) ?_ e1) z1 ⟨Nat.le_trans hS.1 (by omega), fun x h1 h2 => (o1 x (Nat.lt_of_lt_of_le h1 hS.1)).trans (hS.2.1 x h1 h2), hS.2.2⟩
  rw [c_arr (t := t) (n := n.toNatClampNeg) (by simp [gK, pN])]
  simp [fr_el, gQ, pN, h2]
end FRM
/-! the same rows over the words of a walk: room, new cells, writes with the size known -/
def oR (cl mc sl ms : Nat) : Option Unit := if cl ≤ mc ∧ sl ≤ ms then some () else none
theorem oR_inv {cl mc sl ms : Nat} {u : Unit} (h : oR cl mc sl ms = some u) : cl ≤ mc ∧ sl ≤ ms := by
  unfold oR at h
  by_cases hk : cl ≤ mc ∧ sl ≤ ms
  · exact hk
  · rw [if_neg hk] at h; cases h
def nC (σ : fr_S) (a : Nat) (k : fr_K) : Option fr_S := some (pN σ a k)
def fr_BN (D : va_G) (T : Nat → ClassId) (A : Nat → Prop) (nx : Nat) (σ : fr_S) (U : State) : Prop := U.heap.size = nx ∧ fr_B D T A σ U
def fr_QN (D : va_G) (T : Nat → ClassId) (A : Nat → Prop) (σ1 : fr_S) (nx1 : Nat) : Array Value → State → Outcome → State → Prop := va_Qv (fun u : fr_S × Nat => u = (σ1, nx1)) (fun u => fr_BN D T A u.2 u.1) A
theorem fr_blindN {D : va_G} {T : Nat → ClassId} {A : Nat → Prop} {σ : fr_S} {nx : Nat} {av : List Value} : FrameBlind (va_Pc av (fr_BN D T A nx σ)) := fun a U g mk q => ⟨q.1, q.2.1, q.2.2.1, va_K.moved (u := U) (U := U.calling g mk a) (Vm.Alike.refl U.vm) q.2.2.2.1, fr_X.same (u := U) (U := U.calling g mk a) rfl q.2.2.2.2⟩
theorem fr_preN {D : va_G} {T : Nat → ClassId} {A : Nat → Prop} {σ : fr_S} {s : State} {H : Heap} {nx : Nat} (hK : va_K D vwCl (fr_tys T) s) (hX : fr_X s) (hH : fr_H D T A σ H) (hN : H.size = nx) (As : List Value) : PreS s H (va_Pc As (fr_BN D T A nx σ)) As :=
  ⟨fr_blindN, fun U hU hW => ⟨rfl, by rw [hU]; exact hN, by rw [hU]; exact hH, va_K.moved hW.alike hK, hX.warm hW⟩⟩
def fr_MI (y : MethodName) (bytes : ByteArray) (maxL n : Nat) : Prop := Cond.instanceMethod y ∈ fr_W ∧ Cond.initialized y.cls ∈ fr_W ∧ Cond.code y bytes maxL none ∈ fr_W ∧ (y.cls ≠ "java/lang/invoke/MethodHandle" ∧ y.cls ≠ "java/lang/invoke/VarHandle" ∧ (parseMethodDescriptor y.desc).map (fun d => d.parameters.length) = some n) ∧ y.name = "<init>"
section FRO
variable {p : Program} {l : Launch} {e : Env} {R : Room} {s : State} {m : MethodId} {args : Array Value} {below : List Frame} {meth : Method} {c : Code} {H : Heap} {locs : List Loc} {cells slots : Nat} {Q : State → Prop}
variable {cc : ByteArray} {pc : Nat} {ls : Array Slot} {rest st0 : List Value} {D : va_G} {T : Nat → ClassId} {A : Nat → Prop} {a nx nx1 : Nat} {σ σ1 : fr_S} {H0 : Heap}
theorem fr_newO {ci : Nat} (h : nC σ nx (.inl ci) = some σ1) (hx : p.tables.exec = Jvm.exec) (hb : c.code = cc) {own C : String} {Tt : u_T} {N index : Nat} {Ts : List Cond} (hts : ∀ w ∈ Ts, w.before args s = true) (hin : ∀ w ∈ u_ws C Tt N, w ∈ Ts) (ty : Nat → FieldType) (hty : ∀ k, k < N → parseFieldDescriptor (Tt k).2.2.1 = some (ty k)) (hown : s.vm.findClass own = some m.cls) (hcl : (Cond.classLink own index C).before args s = true) (hinst : (Cond.instantiable C N).before args s = true) (hini : (Cond.initialized C).before args s = true)
    (hK : va_K D vwCl (fr_tys T) s) (hH : fr_H D T A σ H) (hS : va_S A H0 H locs) (hA : ∀ q, H0.size ≤ q → A q) (hN : H.size = nx) (hc : vwCl[ci]? = some (C, Tt, N)) (hfs : ∀ j, j < N → defaultValue (ty j) = vp_V (fr_fl (pN σ nx (.inl ci)) ci nx) j) (hcells : cells + 1 ≤ R.cells) (hslots : slots + N ≤ R.slots) (hdg : decode cc pc = .ok (.new index, 3))
    (kk : ∀ H1 : Heap, fr_H D T A σ1 H1 → H1.size = nx + 1 → va_S A H0 H1 locs → W p l e R s m args below meth c H1 locs (cells + 1) (slots + N) Q (F0 m (pc + 3) ls (.ref nx :: rest))) : W p l e R s m args below meth c H locs cells slots Q (F0 m pc ls rest) := by
  cases h
  exact fr_new hx hb hts hin ty hty hown hcl hinst hini hK hH hS hA hN hc hfs hcells hslots hdg kk
theorem fr_newI0 {N : Nat} (h : nC σ nx (.inr (0, N)) = some σ1) (hx : p.tables.exec = Jvm.exec) (hb : c.code = cc) (harr : (Cond.arrayClass .int).before args s = true) (hK : va_K D vwCl (fr_tys T) s) (hH : fr_H D T A σ H) (hS : va_S A H0 H locs) (hA : ∀ q, H0.size ≤ q → A q) (hN : H.size = nx) {n : Int32} (hn : ¬ n < 0) (hNn : n.toNatClampNeg = N) (hby : N * 4 ≤ 536870912) (hcells : cells + 1 ≤ R.cells) (hslots : slots + N ≤ R.slots) (hdg : decode cc pc = .ok (.newarray .int, 2))
    (kk : ∀ H1 : Heap, fr_H D T A σ1 H1 → H1.size = nx + 1 → va_S A H0 H1 locs → W p l e R s m args below meth c H1 locs (cells + 1) (slots + N) Q (F0 m (pc + 2) ls (.ref nx :: rest))) : W p l e R s m args below meth c H locs cells slots Q (F0 m pc ls (.int n :: rest)) := by
  cases h
  exact fr_newI hx hb harr hK hH hS hA hN hn hNn hby hcells hslots hdg kk
theorem fr_newZ0 {N : Nat} (h : nC σ nx (.inr (1, N)) = some σ1) (hx : p.tables.exec = Jvm.exec) (hb : c.code = cc) (harr : (Cond.arrayClass .boolean).before args s = true) (hK : va_K D vwCl (fr_tys T) s) (hH : fr_H D T A σ H) (hS : va_S A H0 H locs) (hA : ∀ q, H0.size ≤ q → A q) (hN : H.size = nx) {n : Int32} (hn : ¬ n < 0) (hNn : n.toNatClampNeg = N) (hby : N * 1 ≤ 536870912) (hcells : cells + 1 ≤ R.cells) (hslots : slots + N ≤ R.slots) (hdg : decode cc pc = .ok (.newarray .boolean, 2))
    (kk : ∀ H1 : Heap, fr_H D T A σ1 H1 → H1.size = nx + 1 → va_S A H0 H1 locs → W p l e R s m args below meth c H1 locs (cells + 1) (slots + N) Q (F0 m (pc + 2) ls (.ref nx :: rest))) : W p l e R s m args below meth c H locs cells slots Q (F0 m pc ls (.int n :: rest)) := by
  cases h
  exact fr_newZ hx hb harr hK hH hS hA hN hn hNn hby hcells hslots hdg kk
theorem fr_newQ0 {t N : Nat} (h : nC σ nx (.inr (t, N)) = some σ1) (hx : p.tables.exec = Jvm.exec) (hb : c.code = cc) {own C : String} {index : Nat} (hown : s.vm.findClass own = some m.cls) (hcl : (Cond.classLink own index C).before args s = true) (hov : va_AO C s) (h2 : ¬ t < 2) (ht : (fr_tys T)[t]? = some (T t, .object C)) (hK : va_K D vwCl (fr_tys T) s) (hH : fr_H D T A σ H) (hS : va_S A H0 H locs) (hA : ∀ q, H0.size ≤ q → A q) (hN : H.size = nx) {n : Int32} (hn : ¬ n < 0) (hNn : n.toNatClampNeg = N) (hby : N * 4 ≤ 536870912) (hcells : cells + 1 ≤ R.cells) (hslots : slots + N ≤ R.slots) (hdg : decode cc pc = .ok (.anewarray index, 3))
    (kk : ∀ H1 : Heap, fr_H D T A σ1 H1 → H1.size = nx + 1 → va_S A H0 H1 locs → W p l e R s m args below meth c H1 locs (cells + 1) (slots + N) Q (F0 m (pc + 3) ls (.ref nx :: rest))) : W p l e R s m args below meth c H locs cells slots Q (F0 m pc ls (.int n :: rest)) := by
  cases h
  exact fr_newQ hx hb hown hcl hov h2 ht hK hH hS hA hN hn hNn hby hcells hslots hdg kk
theorem fr_putIN (hx : p.tables.exec = Jvm.exec) (hb : c.code = cc) {own ref C : String} {Tt : u_T} {N ci index : Nat} {Ts : List Cond} (hts : ∀ w ∈ Ts, w.before args s = true) (hin : ∀ w ∈ u_ws C Tt N, w ∈ Ts) (ty0 : Nat → FieldType) (hty : ∀ k, k < N → parseFieldDescriptor (Tt k).2.2.1 = some (ty0 k)) (hnm : ∀ a, a < N → ∀ b, b < N → a ≠ b → (Tt a).2.1 ≠ (Tt b).2.1) (hown : s.vm.findClass own = some m.cls) (hK : va_K D vwCl (fr_tys T) s) (hH : fr_H D T A σ H) (hN : H.size = nx) (hS : va_S A H0 H locs) {f : Nat} {v : Int32} (h : sI σ ci f a v = some σ1) (hc : vwCl[ci]? = some (C, Tt, N)) (k : Nat) (hk : k < N) (hlink : (Cond.fieldLink own index ref (Tt k).2.1 (Tt k).2.2.1).before args s = true) (hsame : ∀ x, s.fieldFound? (Tt k).1 (Tt k).2.1 (Tt k).2.2.1 = some x → s.fieldFound? ref (Tt k).2.1 (Tt k).2.2.1 = some x) (hfin : (Tt k).2.2.2 = false) (hd : parseFieldDescriptor (Tt k).2.2.1 = some .int) (hset : (fr_fl σ ci a).set k (.int v) = fr_fl (pI σ f a v) ci a) (hl : k < (fr_fl σ ci a).length) (hdg : decode cc pc = .ok (.putfield index, 3))
    (kk : ∀ (H1 : Heap) (locs1 : List Loc), fr_H D T A σ1 H1 → H1.size = nx → va_S A H0 H1 locs1 → W p l e R s m args below meth c H1 locs1 cells slots Q (F0 m (pc + 3) ls rest)) : W p l e R s m args below meth c H locs cells slots Q (F0 m pc ls (.int v :: .ref a :: rest)) := by
  obtain ⟨hk0, hs0⟩ := sI_inv h
  subst hs0
  refine fr_putC hx hb hts hin ty0 hty hnm hown hK (hH.1 a _ (c_obj hk0)) (hH.2 a (by rw [hk0]; exact fun z => by cases z)) hS hc k hk hlink hsame hfin hd rfl rfl hl hdg (fun H1 locs1 he hz oq hS1 => kk H1 locs1 (fr_backN hH he oq ?_ c_pI (fun _ => rfl)) (hz.trans hN) hS1)
  rw [hset]
  exact c_obj hk0
theorem fr_putZN (hx : p.tables.exec = Jvm.exec) (hb : c.code = cc) {own ref C : String} {Tt : u_T} {N ci index : Nat} {Ts : List Cond} (hts : ∀ w ∈ Ts, w.before args s = true) (hin : ∀ w ∈ u_ws C Tt N, w ∈ Ts) (ty0 : Nat → FieldType) (hty : ∀ k, k < N → parseFieldDescriptor (Tt k).2.2.1 = some (ty0 k)) (hnm : ∀ a, a < N → ∀ b, b < N → a ≠ b → (Tt a).2.1 ≠ (Tt b).2.1) (hown : s.vm.findClass own = some m.cls) (hK : va_K D vwCl (fr_tys T) s) (hH : fr_H D T A σ H) (hN : H.size = nx) (hS : va_S A H0 H locs) {f : Nat} {v : Int32} (h : sZ σ ci f a v = some σ1) (hc : vwCl[ci]? = some (C, Tt, N)) (k : Nat) (hk : k < N) (hlink : (Cond.fieldLink own index ref (Tt k).2.1 (Tt k).2.2.1).before args s = true) (hsame : ∀ x, s.fieldFound? (Tt k).1 (Tt k).2.1 (Tt k).2.2.1 = some x → s.fieldFound? ref (Tt k).2.1 (Tt k).2.2.1 = some x) (hfin : (Tt k).2.2.2 = false) (hd : parseFieldDescriptor (Tt k).2.2.1 = some .boolean) (hset : (fr_fl σ ci a).set k (.int v) = fr_fl (pI σ f a v) ci a) (hl : k < (fr_fl σ ci a).length) (hdg : decode cc pc = .ok (.putfield index, 3))
    (kk : ∀ (H1 : Heap) (locs1 : List Loc), fr_H D T A σ1 H1 → H1.size = nx → va_S A H0 H1 locs1 → W p l e R s m args below meth c H1 locs1 cells slots Q (F0 m (pc + 3) ls rest)) : W p l e R s m args below meth c H locs cells slots Q (F0 m pc ls (.int v :: .ref a :: rest)) := by
  obtain ⟨hk0, hz0, hs0⟩ := sZ_inv h
  subst hs0
  refine fr_putC hx hb hts hin ty0 hty hnm hown hK (hH.1 a _ (c_obj hk0)) (hH.2 a (by rw [hk0]; exact fun z => by cases z)) hS hc k hk hlink hsame hfin hd (by rcases hz0 with h1 | h1 <;> rw [h1] <;> rfl) (by rcases hz0 with h1 | h1 <;> rw [h1] <;> rfl) hl hdg (fun H1 locs1 he hz oq hS1 => kk H1 locs1 (fr_backN hH he oq ?_ c_pI (fun _ => rfl)) (hz.trans hN) hS1)
  rw [hset]
  exact c_obj hk0
theorem fr_putIFN (hx : p.tables.exec = Jvm.exec) (hb : c.code = cc) {own ref C : String} {Tt : u_T} {N ci index : Nat} {Ts : List Cond} (hts : ∀ w ∈ Ts, w.before args s = true) (hin : ∀ w ∈ u_ws C Tt N, w ∈ Ts) (ty0 : Nat → FieldType) (hty : ∀ k, k < N → parseFieldDescriptor (Tt k).2.2.1 = some (ty0 k)) (hnm : ∀ a, a < N → ∀ b, b < N → a ≠ b → (Tt a).2.1 ≠ (Tt b).2.1) (hown : s.vm.findClass own = some m.cls) (hK : va_K D vwCl (fr_tys T) s) (hH : fr_H D T A σ H) (hN : H.size = nx) (hS : va_S A H0 H locs) {f : Nat} {v : Int32} (h : sI σ ci f a v = some σ1) (hc : vwCl[ci]? = some (C, Tt, N)) (k : Nat) (hk : k < N) (hlink : (Cond.fieldLink own index ref (Tt k).2.1 (Tt k).2.2.1).before args s = true) (hsame : ∀ x, s.fieldFound? (Tt k).1 (Tt k).2.1 (Tt k).2.2.1 = some x → s.fieldFound? ref (Tt k).2.1 (Tt k).2.2.1 = some x) (hfin : (Tt k).2.2.2 = true) (hini : meth.name = "<init>") (hdecl : (Tt k).1 = own) (hd : parseFieldDescriptor (Tt k).2.2.1 = some .int) (hset : (fr_fl σ ci a).set k (.int v) = fr_fl (pI σ f a v) ci a) (hl : k < (fr_fl σ ci a).length) (hdg : decode cc pc = .ok (.putfield index, 3))
    (kk : ∀ (H1 : Heap) (locs1 : List Loc), fr_H D T A σ1 H1 → H1.size = nx → va_S A H0 H1 locs1 → W p l e R s m args below meth c H1 locs1 cells slots Q (F0 m (pc + 3) ls rest)) : W p l e R s m args below meth c H locs cells slots Q (F0 m pc ls (.int v :: .ref a :: rest)) := by
  obtain ⟨hk0, hs0⟩ := sI_inv h
  subst hs0
  refine fr_putD hx hb hts hin ty0 hty hnm hown hK (hH.1 a _ (c_obj hk0)) (hH.2 a (by rw [hk0]; exact fun z => by cases z)) hS hc k hk hlink hsame hfin hini hdecl hd rfl rfl hl hdg (fun H1 locs1 he hz oq hS1 => kk H1 locs1 (fr_backN hH he oq ?_ c_pI (fun _ => rfl)) (hz.trans hN) hS1)
  rw [hset]
  exact c_obj hk0
theorem fr_putPN (hx : p.tables.exec = Jvm.exec) (hb : c.code = cc) {own ref C : String} {Tt : u_T} {N ci index : Nat} {Ts : List Cond} (hts : ∀ w ∈ Ts, w.before args s = true) (hin : ∀ w ∈ u_ws C Tt N, w ∈ Ts) (ty0 : Nat → FieldType) (hty : ∀ k, k < N → parseFieldDescriptor (Tt k).2.2.1 = some (ty0 k)) (hnm : ∀ a, a < N → ∀ b, b < N → a ≠ b → (Tt a).2.1 ≠ (Tt b).2.1) (hown : s.vm.findClass own = some m.cls) (hK : va_K D vwCl (fr_tys T) s) (hH : fr_H D T A σ H) (hN : H.size = nx) (hS : va_S A H0 H locs) {f : Nat} {r : Nat} {ty : FieldType} (hrf : narrow ty (.ref r) = .ref r ∧ fits ty (.ref r) = true) (h : sP σ ci f a r = some σ1) (hc : vwCl[ci]? = some (C, Tt, N)) (k : Nat) (hk : k < N) (hlink : (Cond.fieldLink own index ref (Tt k).2.1 (Tt k).2.2.1).before args s = true) (hsame : ∀ x, s.fieldFound? (Tt k).1 (Tt k).2.1 (Tt k).2.2.1 = some x → s.fieldFound? ref (Tt k).2.1 (Tt k).2.2.1 = some x) (hfin : (Tt k).2.2.2 = false) (hd : parseFieldDescriptor (Tt k).2.2.1 = some ty) (hset : (fr_fl σ ci a).set k (.ref r) = fr_fl (pP σ f a (some r)) ci a) (hl : k < (fr_fl σ ci a).length) (hdg : decode cc pc = .ok (.putfield index, 3))
    (kk : ∀ (H1 : Heap) (locs1 : List Loc), fr_H D T A σ1 H1 → H1.size = nx → va_S A H0 H1 locs1 → W p l e R s m args below meth c H1 locs1 cells slots Q (F0 m (pc + 3) ls rest)) : W p l e R s m args below meth c H locs cells slots Q (F0 m pc ls (.ref r :: .ref a :: rest)) := by
  obtain ⟨hk0, hs0⟩ := sP_inv h
  subst hs0
  refine fr_putC hx hb hts hin ty0 hty hnm hown hK (hH.1 a _ (c_obj hk0)) (hH.2 a (by rw [hk0]; exact fun z => by cases z)) hS hc k hk hlink hsame hfin hd hrf.1 hrf.2 hl hdg (fun H1 locs1 he hz oq hS1 => kk H1 locs1 (fr_backN hH he oq ?_ c_pP (fun _ => rfl)) (hz.trans hN) hS1)
  rw [hset]
  exact c_obj hk0
theorem fr_putPFN (hx : p.tables.exec = Jvm.exec) (hb : c.code = cc) {own ref C : String} {Tt : u_T} {N ci index : Nat} {Ts : List Cond} (hts : ∀ w ∈ Ts, w.before args s = true) (hin : ∀ w ∈ u_ws C Tt N, w ∈ Ts) (ty0 : Nat → FieldType) (hty : ∀ k, k < N → parseFieldDescriptor (Tt k).2.2.1 = some (ty0 k)) (hnm : ∀ a, a < N → ∀ b, b < N → a ≠ b → (Tt a).2.1 ≠ (Tt b).2.1) (hown : s.vm.findClass own = some m.cls) (hK : va_K D vwCl (fr_tys T) s) (hH : fr_H D T A σ H) (hN : H.size = nx) (hS : va_S A H0 H locs) {f : Nat} {r : Nat} {ty : FieldType} (hrf : narrow ty (.ref r) = .ref r ∧ fits ty (.ref r) = true) (h : sP σ ci f a r = some σ1) (hc : vwCl[ci]? = some (C, Tt, N)) (k : Nat) (hk : k < N) (hlink : (Cond.fieldLink own index ref (Tt k).2.1 (Tt k).2.2.1).before args s = true) (hsame : ∀ x, s.fieldFound? (Tt k).1 (Tt k).2.1 (Tt k).2.2.1 = some x → s.fieldFound? ref (Tt k).2.1 (Tt k).2.2.1 = some x) (hfin : (Tt k).2.2.2 = true) (hini : meth.name = "<init>") (hdecl : (Tt k).1 = own) (hd : parseFieldDescriptor (Tt k).2.2.1 = some ty) (hset : (fr_fl σ ci a).set k (.ref r) = fr_fl (pP σ f a (some r)) ci a) (hl : k < (fr_fl σ ci a).length) (hdg : decode cc pc = .ok (.putfield index, 3))
    (kk : ∀ (H1 : Heap) (locs1 : List Loc), fr_H D T A σ1 H1 → H1.size = nx → va_S A H0 H1 locs1 → W p l e R s m args below meth c H1 locs1 cells slots Q (F0 m (pc + 3) ls rest)) : W p l e R s m args below meth c H locs cells slots Q (F0 m pc ls (.ref r :: .ref a :: rest)) := by
  obtain ⟨hk0, hs0⟩ := sP_inv h
  subst hs0
  refine fr_putD hx hb hts hin ty0 hty hnm hown hK (hH.1 a _ (c_obj hk0)) (hH.2 a (by rw [hk0]; exact fun z => by cases z)) hS hc k hk hlink hsame hfin hini hdecl hd hrf.1 hrf.2 hl hdg (fun H1 locs1 he hz oq hS1 => kk H1 locs1 (fr_backN hH he oq ?_ c_pP (fun _ => rfl)) (hz.trans hN) hS1)
  rw [hset]
  exact c_obj hk0
theorem fr_qstN (hx : p.tables.exec = Jvm.exec) (hb : c.code = cc) (hK : va_K D vwCl (fr_tys T) s) (hH : fr_H D T A σ H) (hN : H.size = nx) (hS : va_S A H0 H locs) {t ci v N : Nat} {C : String} {Tt : u_T} {i : Int32} (h : sQ σ t ci a i v = some σ1) (h2 : ¬ t < 2) (ht : (fr_tys T)[t]? = some (T t, .object C)) (hc : vwCl[ci]? = some (C, Tt, N)) (hdg : decode cc pc = .ok (.aastore, 1))
    (kk : ∀ (H1 : Heap) (locs1 : List Loc), fr_H D T A σ1 H1 → H1.size = nx → va_S A H0 H1 locs1 → W p l e R s m args below meth c H1 locs1 cells slots Q (F0 m (pc + 1) ls rest)) : W p l e R s m args below meth c H locs cells slots Q (F0 m pc ls (.ref v :: .int i :: .ref a :: rest)) := by
  obtain ⟨n, hk, hkv, hin, hs0⟩ := sQ_inv h
  subst hs0
  have hcA := c_arr (T := T) hk
  unfold fr_el at hcA
  rw [if_neg h2] at hcA
  have hPa := hH.1 a _ hcA
  obtain ⟨r', hr', cellV, g1, g2, g3, -⟩ := hH.1 v _ (c_obj hkv)
  have hcls := (hK.1 ci _ hc).2
  obtain ⟨kA, comp, k1, k2, k3, -⟩ : va_RA s (T t) (.object C) := (hK.2 t _ ht).2
  have hcomp : comp = D.1 ci := Option.some.inj (k3.symm.trans hcls.1)
  subst hcomp
  obtain ⟨kC, hkC, -⟩ := id hcls.2
  have hlt : i.toNatClampNeg < n := Nat.not_le.mp fun q => hin (Or.inr q)
  have h0 : ¬ i < 0 := fun q => hin (Or.inl q)
  refine W.aast hx hb hPa (fun q h => by cases h) (fun h => by cases h) k1 k2 rfl hkC ⟨h0, by show _ < (arrV _ _ _).slots.size; rw [arrV_size]; exact hlt⟩ g1 (fun q h => by rw [g3] at h; cases h) (by rw [g2]; exact hkC) (by rw [g2]; exact va_assign hcls) rfl rfl hdg fun H1 e1 z oq => ?_
  refine kk H1 _ (fr_backN (e1 := .inl (T t, n, .inr (.inr (.inr (.inr (va_up (gQ σ a) i.toNatClampNeg (some v))))))) hH ?_ oq ?_ c_pB (fun _ => rfl)) (z.trans hN) (hS.put z oq (hH.2 a (by rw [hk]; exact fun z => by cases z)))
  · show H1[a]? = some (vp_cell _ _)
    rw [e1]
    rw [vp_cell_q, vp_cell_q, arrV_store]
    congr 2
    funext q
    by_cases hq : q = i.toNatClampNeg
    · subst hq
      simp [updV, va_up, va_rf]
    · simp [updV, va_up, hq]
  · rw [c_arr (σ := pB σ a _) (t := t) (n := n) hk]
    unfold fr_el
    rw [if_neg h2, gQ_pB]
theorem fr_callN {mc ms : Nat} {a : Array Value} (hr : va_Run p l e R s m args below meth c H locs cells slots mc ms (F0 m pc ls st0) rest (fr_QN D T A σ1 nx1 a) A) (hS : va_S A H0 H locs)
    (kk : ∀ (H1 : Heap) (locs1 : List Loc), fr_H D T A σ1 H1 → H1.size = nx1 → va_S A H0 H1 locs1 → W p l e R s m args below meth c H1 locs1 (cells + mc) (slots + ms) Q (F0 m (pc + 3) ls rest)) : W p l e R s m args below meth c H locs cells slots Q (F0 m pc ls st0) := by
  refine va_callv hr hS (fun q _ h => h) (fun q h => h) (fun u t H1 locs1 ht hvm hw hB hz1 hk1 hS1 => ?_)
  subst hw
  have hN1 := hB.1
  have hH1 := hB.2.1
  rw [ht] at hH1 hN1
  exact kk H1 locs1 hH1 hN1 hS1
theorem fr_vretN (hx : p.tables.exec = Jvm.exec) (hb : c.code = cc) (hr : meth.sig.returnType = none) (hlocks : meth.locks = false) (h : some (σ, nx) = some (σ1, nx1)) (hH : fr_H D T A σ H) (hN : H.size = nx) (hK : va_K D vwCl (fr_tys T) s) (hX : fr_X s) (hS : va_S A s.heap H locs) (hdg : decode cc pc = .ok (.return_, 1)) : W p l e R s m args below meth c H locs cells slots (MQ below (fr_QN D T A σ1 nx1) args s cells slots A) (F0 m pc ls []) := by
  cases h
  exact W.vret hx hb hr (fun t ht hW => ⟨⟨(σ, nx), rfl, rfl, by rw [ht]; exact hN, by rw [ht]; exact hH, va_K.moved hW.alike hK, hX.warm hW⟩, hS.F ht⟩) hS.2.2 hdg (hlocks := hlocks)
theorem fr_IN {nL n index maxL mc ms : Nat} {y : MethodName} {bytes : ByteArray} {rm : Room} {Pc : Array Value → State → Prop} {Qc : Array Value → State → Outcome → State → Prop} {own host : String} {b : Nat} {As : List Value} (hfix : CallFix p m c cc nL s args fr_W own) (hM : Met l y (Cond.code y bytes maxL none :: fr_W) rm Pc Qc mc ms A) (hlk : va_Nw (.methodLinkNest own index y host) s) (hy : fr_MI y bytes maxL n) (hrc : rm.cells = mc) (hrs : rm.slots = ms) (hR : rm.frames + 1 ≤ R.frames ∧ 8 + (maxL + 11) + rm.locals ≤ R.locals) (hp : PreS s H Pc (.ref b :: As))
    (hn : As.length = n) (hsize : ls.size = nL) (hst : st0 = As.reverse ++ .ref b :: rest) (hW : (rest.map fun v => v.category).sum ≤ 8) (hdg : decode cc pc = .ok (.invokespecial index, 3)) (hf : cells + mc ≤ R.cells ∧ slots + ms ≤ R.slots) : va_Run p l e R s m args below meth c H locs cells slots mc ms (F0 m pc ls st0) rest (Qc (Value.ref b :: As).toArray) A := by
  obtain ⟨k2, k4, k5, kd, kn⟩ := hy
  have hts := hfix.2.2.2.2
  exact va_runIN hfix hM ⟨va_cnB n hts (fr_G k5) rfl hrc hrs hlk (hts _ k4) kd hR, kn, hts _ k2⟩ hp rfl hn hsize hst (lv_room hW) hdg hf
theorem fr_Ic {nL n index maxL mc ms : Nat} {y : MethodName} {bytes : ByteArray} {rm : Room} {Pc : Array Value → State → Prop} {Qc : Array Value → State → Outcome → State → Prop} {own : String} {b : Nat} {As : List Value} (hfix : CallFix p m c cc nL s args fr_W own) (hM : Met l y (Cond.code y bytes maxL none :: fr_W) rm Pc Qc mc ms A) (hlk : Cond.methodLink own index y ∈ fr_W) (hy : fr_MI y bytes maxL n) (hrc : rm.cells = mc) (hrs : rm.slots = ms) (hR : rm.frames + 1 ≤ R.frames ∧ 8 + (maxL + 11) + rm.locals ≤ R.locals) (hp : PreS s H Pc (.ref b :: As))
    (hn : As.length = n) (hsize : ls.size = nL) (hst : st0 = As.reverse ++ .ref b :: rest) (hW : (rest.map fun v => v.category).sum ≤ 8) (hdg : decode cc pc = .ok (.invokespecial index, 3)) (hf : cells + mc ≤ R.cells ∧ slots + ms ≤ R.slots) : va_Run p l e R s m args below meth c H locs cells slots mc ms (F0 m pc ls st0) rest (Qc (Value.ref b :: As).toArray) A := by
  obtain ⟨k2, k4, k5, kd, kn⟩ := hy
  have hts := hfix.2.2.2.2
  exact va_runI hfix hM ⟨callB_of n hts (fr_G k5) rfl hrc hrs (hts _ k4) (hts _ hlk) kd hR, kn, hts _ k2⟩ hp rfl hn hsize hst (lv_room hW) hdg hf
end FRO
theorem df_Md (σ : fr_S) (nx : Nat) : ∀ j, j < 44 → defaultValue (ty_Md j) = vp_V (fr_fl (pN σ nx (.inl 0)) 0 nx) j := by
  intro j hj
  rcases (show j = 0 ∨ j = 1 ∨ j = 2 ∨ j = 3 ∨ j = 4 ∨ j = 5 ∨ j = 6 ∨ j = 7 ∨ j = 8 ∨ j = 9 ∨ j = 10 ∨ j = 11 ∨ j = 12 ∨ j = 13 ∨ j = 14 ∨ j = 15 ∨ j = 16 ∨ j = 17 ∨ j = 18 ∨ j = 19 ∨ j = 20 ∨ j = 21 ∨ j = 22 ∨ j = 23 ∨ j = 24 ∨ j = 25 ∨ j = 26 ∨ j = 27 ∨ j = 28 ∨ j = 29 ∨ j = 30 ∨ j = 31 ∨ j = 32 ∨ j = 33 ∨ j = 34 ∨ j = 35 ∨ j = 36 ∨ j = 37 ∨ j = 38 ∨ j = 39 ∨ j = 40 ∨ j = 41 ∨ j = 42 ∨ j = 43 by omega) with rfl | rfl | rfl | rfl | rfl | rfl | rfl | rfl | rfl | rfl | rfl | rfl | rfl | rfl | rfl | rfl | rfl | rfl | rfl | rfl | rfl | rfl | rfl | rfl | rfl | rfl | rfl | rfl | rfl | rfl | rfl | rfl | rfl | rfl | rfl | rfl | rfl | rfl | rfl | rfl | rfl | rfl | rfl | rfl <;> simp [vp_V, fr_fl, gI, gP, pN, ty_Md, defaultValue, va_rf]
theorem df_FR (σ : fr_S) (nx : Nat) : ∀ j, j < 14 → defaultValue (ty_FR j) = vp_V (fr_fl (pN σ nx (.inl 1)) 1 nx) j := by
  intro j hj
  rcases (show j = 0 ∨ j = 1 ∨ j = 2 ∨ j = 3 ∨ j = 4 ∨ j = 5 ∨ j = 6 ∨ j = 7 ∨ j = 8 ∨ j = 9 ∨ j = 10 ∨ j = 11 ∨ j = 12 ∨ j = 13 by omega) with rfl | rfl | rfl | rfl | rfl | rfl | rfl | rfl | rfl | rfl | rfl | rfl | rfl | rfl <;> simp [vp_V, fr_fl, gI, gP, pN, ty_FR, defaultValue, va_rf]
theorem df_Files (σ : fr_S) (nx : Nat) : ∀ j, j < 5 → defaultValue (ty_Files j) = vp_V (fr_fl (pN σ nx (.inl 2)) 2 nx) j := by
  intro j hj
  rcases (show j = 0 ∨ j = 1 ∨ j = 2 ∨ j = 3 ∨ j = 4 by omega) with rfl | rfl | rfl | rfl | rfl <;> simp [vp_V, fr_fl, gI, gP, pN, ty_Files, defaultValue, va_rf]
theorem df_Place (σ : fr_S) (nx : Nat) : ∀ j, j < 10 → defaultValue (ty_Place j) = vp_V (fr_fl (pN σ nx (.inl 3)) 3 nx) j := by
  intro j hj
  rcases (show j = 0 ∨ j = 1 ∨ j = 2 ∨ j = 3 ∨ j = 4 ∨ j = 5 ∨ j = 6 ∨ j = 7 ∨ j = 8 ∨ j = 9 by omega) with rfl | rfl | rfl | rfl | rfl | rfl | rfl | rfl | rfl | rfl <;> simp [vp_V, fr_fl, gI, gP, pN, ty_Place, defaultValue, va_rf]
theorem df_Row (σ : fr_S) (nx : Nat) : ∀ j, j < 2 → defaultValue (ty_Row j) = vp_V (fr_fl (pN σ nx (.inl 4)) 4 nx) j := by
  intro j hj
  rcases (show j = 0 ∨ j = 1 by omega) with rfl | rfl <;> simp [vp_V, fr_fl, gI, gP, pN, ty_Row, defaultValue, va_rf]
theorem df_Store (σ : fr_S) (nx : Nat) : ∀ j, j < 3 → defaultValue (ty_Store j) = vp_V (fr_fl (pN σ nx (.inl 5)) 5 nx) j := by
  intro j hj
  rcases (show j = 0 ∨ j = 1 ∨ j = 2 by omega) with rfl | rfl | rfl <;> simp [vp_V, fr_fl, gI, gP, pN, ty_Store, defaultValue, va_rf]
theorem df_Tellings (σ : fr_S) (nx : Nat) : ∀ j, j < 4 → defaultValue (ty_Tellings j) = vp_V (fr_fl (pN σ nx (.inl 6)) 6 nx) j := by
  intro j hj
  rcases (show j = 0 ∨ j = 1 ∨ j = 2 ∨ j = 3 by omega) with rfl | rfl | rfl | rfl <;> simp [vp_V, fr_fl, gI, gP, pN, ty_Tellings, defaultValue, va_rf]
theorem df_Want (σ : fr_S) (nx : Nat) : ∀ j, j < 9 → defaultValue (ty_Want j) = vp_V (fr_fl (pN σ nx (.inl 7)) 7 nx) j := by
  intro j hj
  rcases (show j = 0 ∨ j = 1 ∨ j = 2 ∨ j = 3 ∨ j = 4 ∨ j = 5 ∨ j = 6 ∨ j = 7 ∨ j = 8 by omega) with rfl | rfl | rfl | rfl | rfl | rfl | rfl | rfl | rfl <;> simp [vp_V, fr_fl, gI, gP, pN, ty_Want, defaultValue, va_rf]
theorem mi_FR_init : fr_MI y_FR_init b_FR_init 3 1 := ⟨k_45, k_31, k_46, by decide +kernel, rfl⟩
theorem mi_Md_init : fr_MI y_Md_init b_Md_init 2 1 := ⟨k_537, k_39, k_538, by decide +kernel, rfl⟩
theorem mi_Row_init : fr_MI y_Row_init b_Row_init 1 0 := ⟨k_64, k_33, k_65, by decide +kernel, rfl⟩
theorem mi_Store_init : fr_MI y_Store_init b_Store_init 2 0 := ⟨k_57, k_32, k_58, by decide +kernel, rfl⟩
theorem mi_Tellings_init : fr_MI y_Tellings_init b_Tellings_init 1 0 := ⟨k_95, k_34, k_96, by decide +kernel, rfl⟩
theorem mi_Files_init : fr_MI y_Files_init b_Files_init 1 0 := ⟨k_117, k_35, k_118, by decide +kernel, rfl⟩
theorem mi_Place_init : fr_MI y_Place_init b_Place_init 1 0 := ⟨k_149, k_37, k_150, by decide +kernel, rfl⟩
theorem mi_Want_init : fr_MI y_Want_init b_Want_init 1 0 := ⟨k_197, k_38, k_198, by decide +kernel, rfl⟩
