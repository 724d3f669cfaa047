def R_law : String := "FetchRulesLaw"
def lw_P (b : Addr) (xs : List Int32) (args : Array Value) (s : State) : Prop := args = #[.ref b] ∧ s.IntsAt b xs ∧ xs.length ≤ 2561 ∧ (Jvm.Cond.and given_1 narrow_1).before args s = true
def lw_Q (_ : Array Value) (s : State) (o : Outcome) (t : State) : Prop := o = .returned (some (.int 1)) ∧ Framed s o t [] 600000 7302250
def lw_Z (below : List Frame) (a : Array Value) (s : State) : State → Prop := fun t => ∃ o, t.status = .running ∧ Ended t below o ∧ lw_Q a s o t
/-- the law's own end, with 1 on the stack, nothing written that was there before, its room as the claim has it -/
theorem lw_ret {p : Program} {l : Launch} {e : Env} {s : State} {m : MethodId} {below : List Frame} {meth : Method} {c : Code} {b : Nat} (hx : p.tables.exec = Jvm.exec) (hb : c.code = code) (hr : meth.sig.returnType = ret) (hlocks : meth.locks = false) {pc : Nat} {H : Heap} {ls : Array Slot} (hdg : decode code pc = .ok (.ireturn, 1)) : W p l e room_1 s m #[Value.ref b] below meth c H [] 600000 7302250 (lw_Z below #[Value.ref b] s) (F0 m pc ls [.int 1]) := by
  intro T hT X
  obtain ⟨fs, hret, hrun, hended, hW, hframe⟩ := X.leave (v := some (.int 1)) (hlocks := hlocks) (fun h => by rw [hr] at h; cases h)
  have hmeth' : T.vm.method? m = some meth := X.method'
  refine ⟨T.setFrames fs, ?_, .returned (some (.int 1)), hrun, hended, rfl, ⟨_, rfl⟩, hW, hframe⟩
  jvm_step X.here [X.here.top, hx, hb, hdg, hmeth', hr, ret, narrow_b1]
  (try refine ⟨rfl, ?_⟩); (try refine ⟨rfl, ?_⟩)
  first | (intro acts; rw [hret _ acts rfl rfl rfl]) | rw [hret _ _ rfl rfl rfl]
  exact Steps.refl _
/-- what holds at the law's entry: the machine, the code, the tables' words (any of lw_tbl by 'hts w (by decide +kernel)'), the script of L ints xs at the cell b, what the Statement gives of the start (any of its parts by flat_of_before) -/
def lw_At (p : Program) (s : State) (m : MethodId) (meth : Method) (c : Code) (b L : Nat) (xs : Nat → Int32) : Prop :=
  p.tables.exec = Jvm.exec ∧ c.code = code ∧ meth.sig.returnType = ret ∧ c.maxLocals = 4 ∧ s.vm.findClass R_law = some m.cls ∧ (∀ w ∈ lw_tbl, w.before #[Value.ref b] s = true) ∧ va_X b L xs s s.heap ∧ b < s.heap.size ∧ meth.locks = false ∧ (Jvm.Cond.and given_1 narrow_1).before #[Value.ref b] s = true
/-! THE LAW: two states side by side, and the script -/
def oS (xs : Nat → Int32) (L : Nat) (i : Int32) : Option Int32 := if ¬ (i < 0 ∨ L ≤ i.toNatClampNeg) then some (xs i.toNatClampNeg) else none
theorem oS_inv {xs : Nat → Int32} {L : Nat} {i v : Int32} (h : oS xs L i = some v) : vp_in i L ∧ xs i.toNatClampNeg = v := by
  unfold oS at h
  by_cases hk : ¬ (i < 0 ∨ L ≤ i.toNatClampNeg)
  · rw [if_pos hk] at h; exact ⟨hk, Option.some.inj h⟩
  · rw [if_neg hk] at h; cases h
/-- a state whose cells were not touched -/
theorem fr_keep {D : va_G} {T : Nat → ClassId} {Ax Am : Nat → Prop} {τ : fr_S} {H H1 : Heap} (h : fr_H D T Am τ H) (hk : ∀ q : Nat, q < H.size → ¬ Ax q → H1[q]? = H[q]?) (hd : ∀ q, Am q → ¬ Ax q) : fr_H D T Am τ H1 :=
  ⟨fun a e he => (h.1 a e he).kept (hk a (h.1 a e he).lt (hd a (h.2 a (c_some he)))), h.2⟩
def fl_Q (r : Int32) : Array Value → State → Outcome → State → Prop := fun _ st oc t => oc = .returned (some (.int r)) ∧ t.heap = st.heap
section FLR
variable {p : Program} {l : Launch} {e : Env} {R : Room} {s : State} {m : MethodId} {args : Array Value} {below : List Frame} {meth : Method} {c : Code} {H : Heap} {locs : List Loc} {cells slots : Nat} {Q : State → Prop}
variable {cc : ByteArray} {pc : Nat} {ls : Array Slot} {rest st0 : List Value} {D : va_G} {T : Nat → ClassId} {A Ax Am : Nat → Prop} {a : Array Value} {σ σ1 τ : fr_S} {H0 : Heap} {r v : Int32}
theorem fl_sld (hx : p.tables.exec = Jvm.exec) (hb : c.code = cc) {b L : Nat} {xs : Nat → Int32} (hX : va_X b L xs s H0) (hbl : b < H0.size) (hbA : ¬ A b) (hS : va_S A H0 H locs) {i : Int32} (h : oS xs L i = some v) (hdg : decode cc pc = .ok (.iaload, 1))
    (kk : W p l e R s m args below meth c H locs cells slots Q (F0 m (pc + 1) ls (.int v :: rest))) : W p l e R s m args below meth c H locs cells slots Q (F0 m pc ls (.int i :: .ref b :: rest)) := by
  obtain ⟨h1, h2⟩ := oS_inv h
  subst h2
  exact va_sld hx hb hX hbl hbA hS h1 hdg kk
theorem fl_calli (hr : va_Run p l e R s m args below meth c H locs cells slots 0 0 (F0 m pc ls st0) rest (fr_Qi D T Ax r σ1 a) Ax) (hS : va_S A H0 H locs) (hXA : ∀ q, Ax q → A q) (hM : fr_H D T Am τ H) (hd : ∀ q, Am q → ¬ Ax q)
    (kk : ∀ (H1 : Heap) (locs1 : List Loc), fr_H D T Ax σ1 H1 → fr_H D T Am τ H1 → va_S A H0 H1 locs1 → W p l e R s m args below meth c H1 locs1 cells slots Q (F0 m (pc + 3) ls (.int r :: rest))) : W p l e R s m args below meth c H locs cells slots Q (F0 m pc ls st0) := by
  refine va_calli hr hS (fun q _ h => hXA q h) hXA (fun r2 u t H1 locs1 ht hvm hw hB hz1 hk1 hS1 => ?_)
  obtain ⟨h1, h2⟩ := hw
  subst h1
  subst h2
  have hH1 := hB.1
  rw [ht] at hH1
  exact kk H1 locs1 hH1 (fr_keep hM hk1 hd) hS1
theorem fl_callv (hr : va_Run p l e R s m args below meth c H locs cells slots 0 0 (F0 m pc ls st0) rest (fr_Qv D T Ax σ1 a) Ax) (hS : va_S A H0 H locs) (hXA : ∀ q, Ax q → A q) (hM : fr_H D T Am τ H) (hd : ∀ q, Am q → ¬ Ax q)
    (kk : ∀ (H1 : Heap) (locs1 : List Loc), fr_H D T Ax σ1 H1 → fr_H D T Am τ H1 → va_S A H0 H1 locs1 → W p l e R s m args below meth c H1 locs1 cells slots Q (F0 m (pc + 3) ls rest)) : W p l e R s m args below meth c H locs cells slots Q (F0 m pc ls st0) := by
  refine va_callv hr hS (fun q _ h => hXA q h) hXA (fun u t H1 locs1 ht hvm hw hB hz1 hk1 hS1 => ?_)
  subst hw
  have hH1 := hB.1
  rw [ht] at hH1
  exact kk H1 locs1 hH1 (fr_keep hM hk1 hd) hS1
theorem fl_cell (hr : va_Run p l e R s m args below meth c H locs cells slots 0 0 (F0 m pc ls st0) rest (fl_Q r a) (fun _ => False)) (kk : W p l e R s m args below meth c H locs cells slots Q (F0 m (pc + 3) ls (.int r :: rest))) : W p l e R s m args below meth c H locs cells slots Q (F0 m pc ls st0) := by
  intro U hU X
  obtain ⟨v, st₀, t, U', L, h0, X', hL, e1, e2, ⟨hv, hh⟩, st⟩ := hr U hU X
  cases hv
  have hLn : L = [] := by
    cases L with
    | nil => rfl
    | cons q L => exact absurd (hL q List.mem_cons_self) (fun z => z)
  subst hLn
  rw [List.append_nil] at X'
  obtain ⟨t2, a1, b1⟩ := kk U' (e1.trans (hh.trans h0)) X'
  exact ⟨t2, st t2 a1, b1⟩
end FLR
theorem fr_dom {D : va_G} {T : Nat → ClassId} {A : Nat → Prop} {σ : fr_S} {H : Heap} {a : Nat} (h : fr_H D T A σ H) (ha : gK σ a ≠ none) : a < H.size := by
  cases hk : gK σ a with
  | none => exact absurd hk ha
  | some k =>
    cases k with
    | inl ci => exact (h.1 a _ (c_obj hk)).lt
    | inr tn =>
      obtain ⟨t, n⟩ := tn
      exact (h.1 a _ (c_arr hk)).lt
/-- no cell -/
def fl_e : fr_S := (fun _ => none, fun _ _ => 0, fun _ _ => none, fun _ _ => 0, fun _ _ => none)
theorem fl_eH {D : va_G} {T : Nat → ClassId} {A : Nat → Prop} {H : Heap} : fr_H D T A fl_e H := ⟨fun a e h => absurd rfl (c_some h), fun a h => absurd rfl h⟩
section FLN
variable {p : Program} {l : Launch} {e : Env} {R : Room} {s : State} {m : MethodId} {args : Array Value} {below : List Frame} {meth : Method} {c : Code} {H : Heap} {locs : List Loc} {cells slots : Nat} {Q : State → Prop}
variable {cc : ByteArray} {pc : Nat} {ls : Array Slot} {rest st0 : List Value} {D : va_G} {T : Nat → ClassId} {A Ax Am : Nat → Prop} {nx nx1 : Nat} {σ τ τ1 : fr_S} {H0 : Heap}
theorem fl_new (hx : p.tables.exec = Jvm.exec) (hb : c.code = cc) {own C : String} {Tt : u_T} {N ci index : Nat} {Ts : List Cond} (hts : ∀ w ∈ Ts, w.before args s = true) (hin : ∀ w ∈ u_ws C Tt N, w ∈ Ts) (ty : Nat → FieldType) (hty : ∀ k, k < N → parseFieldDescriptor (Tt k).2.2.1 = some (ty k)) (hown : s.vm.findClass own = some m.cls) (hcl : (Cond.classLink own index C).before args s = true) (hinst : (Cond.instantiable C N).before args s = true) (hini : (Cond.initialized C).before args s = true)
    (hK : va_K D vwCl (fr_tys T) s) (hHm : fr_H D T Am τ H) (hHx : fr_H D T Ax σ H) (hS : va_S A H0 H locs) (hA : Am nx) (hN : H.size = nx) (hc : vwCl[ci]? = some (C, Tt, N)) (hfs : ∀ j, j < N → defaultValue (ty j) = vp_V (fr_fl (pN τ nx (.inl ci)) ci nx) j) (hcells : cells + 1 ≤ R.cells) (hslots : slots + N ≤ R.slots) (hdg : decode cc pc = .ok (.new index, 3))
    (kk : ∀ H1 : Heap, fr_H D T Am (pN τ nx (.inl ci)) H1 → fr_H D T Ax σ H1 → H1.size = nx + 1 → va_S A H0 H1 locs → W p l e R s m args below meth c H1 locs (cells + 1) (slots + N) Q (F0 m (pc + 3) ls (.ref nx :: rest))) : W p l e R s m args below meth c H locs cells slots Q (F0 m pc ls rest) := by
  subst hN
  have hKn := hK.1 ci _ hc
  refine W.newcK hx hb hown hcl hinst hini rfl hdg hcells hslots hKn.2.1 rfl fun H1 kC hkC e1 z1 o1 => ?_
  exact kk H1 (fr_new0 hHm o1 hA (c_obj (by simp [gK, pN])) ⟨_, hc, (u_born ty hts hin hKn hkC e1 hty).to hfs⟩) ⟨fun a x hx => (hHx.1 a x hx).kept (o1 a (hHx.1 a x hx).lt), hHx.2⟩ z1 ⟨Nat.le_trans hS.1 (by omega), fun x h1 h2 => (o1 x (Nat.lt_of_lt_of_le h1 hS.1)).trans (hS.2.1 x h1 h2), hS.2.2⟩
theorem fl_callN {mc ms : Nat} {a : Array Value} (hr : va_Run p l e R s m args below meth c H locs cells slots mc ms (F0 m pc ls st0) rest (fr_QN D T Am τ1 nx1 a) Am) (hS : va_S A H0 H locs) (hMA : ∀ q, Am q → A q) (hHx : fr_H D T Ax σ H) (hd : ∀ q, Ax q → ¬ Am q)
    (kk : ∀ (H1 : Heap) (locs1 : List Loc), fr_H D T Am τ1 H1 → fr_H D T Ax σ H1 → H1.size = nx1 → va_S A H0 H1 locs1 → W p l e R s m args below meth c H1 locs1 (cells + mc) (slots + ms) Q (F0 m (pc + 3) ls rest)) : W p l e R s m args below meth c H locs cells slots Q (F0 m pc ls st0) := by
  refine va_callv hr hS (fun q _ h => hMA q h) hMA (fun u t H1 locs1 ht hvm hw hB hz1 hk1 hS1 => ?_)
  subst hw
  have hN1 := hB.1
  have hH1 := hB.2.1
  rw [ht] at hH1 hN1
  exact kk H1 locs1 hH1 (fr_keep hHx hk1 hd) hN1 hS1
end FLN
/-- what the law's walk knows -/
def fl_At (p : Program) (s : State) (m : MethodId) (meth : Method) (c : Code) (b L : Nat) (xs : Nat → Int32) (D : va_G) (T : Nat → ClassId) (Ax Am : Nat → Prop) : Prop :=
  p.tables.exec = Jvm.exec ∧ c.code = code ∧ c.maxLocals = 4 ∧ s.vm.findClass "FetchRulesLaw" = some m.cls ∧ (∀ w ∈ fr_W, w.before #[Value.ref b] s = true) ∧ va_X b L xs s s.heap ∧ b < s.heap.size ∧ (¬ s.heap.size ≤ b) ∧ va_K D vwCl (fr_tys T) s ∧ fr_X s ∧ (∀ q, Ax q → s.heap.size ≤ q) ∧ (∀ q, Am q → s.heap.size ≤ q) ∧ (∀ q, Am q → ¬ Ax q) ∧ ∀ q, Ax q → ¬ Am q
def m_cell (xs : Nat → Int32) (L : Nat) (k : Int32) : Option Int32 := if Int32.ofNat L ≤ k then some 0 else oS xs L k
theorem fl_blind {b L : Nat} {xs : Nat → Int32} {av : List Value} : FrameBlind (va_Pc av (fun U => va_X b L xs U U.heap ∧ b < U.heap.size)) := fun a U g mk q => ⟨q.1, va_X.moved (u := U) (U := U.calling g mk a) (Vm.Alike.refl U.vm) q.2.1, q.2.2⟩
