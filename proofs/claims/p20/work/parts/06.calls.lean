/-! CONTRACTS over such states -/
def fr_X (U : State) : Prop := (∀ C ∈ fr_arrs, va_AO C U) ∧ ∀ q ∈ fr_nests, va_Nw (.methodLinkNest q.1 q.2.1 q.2.2.1 q.2.2.2) U
theorem fr_X.warm {s U : State} (hW : s.WarmedH U.vm) (h : fr_X s) : fr_X U := ⟨fun C hC => va_AO.moved hW.alike (h.1 C hC), fun q hq => va_Nw.warmM hW (h.2 q hq)⟩
theorem fr_X.same {u U : State} (hvm : u.vm = U.vm) (h : fr_X u) : fr_X U := ⟨fun C hC => va_AO.moved (hvm ▸ Vm.Alike.refl u.vm) (h.1 C hC), fun q hq => va_Nw.same rfl hvm (h.2 q hq)⟩
def fr_B (D : va_G) (T : Nat → ClassId) (A : Nat → Prop) (σ : fr_S) (U : State) : Prop := fr_H D T A σ U.heap ∧ va_K D vwCl (fr_tys T) U ∧ fr_X U
def fr_Qi (D : va_G) (T : Nat → ClassId) (A : Nat → Prop) (r : Int32) (σ1 : fr_S) : Array Value → State → Outcome → State → Prop := va_Qi (fun (r2 : Int32) (u : fr_S) => r2 = r ∧ u = σ1) (fr_B D T A) A
def fr_Qv (D : va_G) (T : Nat → ClassId) (A : Nat → Prop) (σ1 : fr_S) : Array Value → State → Outcome → State → Prop := va_Qv (fun u : fr_S => u = σ1) (fr_B D T A) A
/-- what a walk knows of its method -/
def fr_At (p : Program) (s : State) (m : MethodId) (args : Array Value) (meth : Method) (c : Code) (own : String) (cc : ByteArray) (nL : Nat) (ret : Option FieldType) : Prop :=
  p.tables.exec = Jvm.exec ∧ c.code = cc ∧ meth.sig.returnType = ret ∧ c.maxLocals = nL ∧ s.vm.findClass own = some m.cls ∧ (∀ w ∈ fr_W, w.before args s = true) ∧ meth.locks = false
theorem fr_at {p : Program} {l : Launch} {y : MethodName} {rm : Room} {cc : ByteArray} {maxL : Nat} {ret : Option FieldType} {e : Env} {s : State} {m : MethodId} {args : Array Value} {below : List Frame} {meth : Method} {c : Code} {s₁ : State} (B : BodyLoose p l y (headSpec (Cond.code y cc maxL ret :: fr_W) rm) cc maxL ret e s m args below meth c s₁) (hml : c.maxLocals = maxL) : fr_At p s m args meth c y.cls cc maxL ret :=
  ⟨B.exec, B.bytes, B.returns, hml, findClass_of_methodNamed B.named, fun w hw => atoms_spec (ws := Cond.code y cc maxL ret :: fr_W) B.pre w (List.mem_cons_of_mem _ hw), B.notSynchronized⟩
theorem fr_blind {D : va_G} {T : Nat → ClassId} {A : Nat → Prop} {σ : fr_S} {av : List Value} : FrameBlind (va_Pc av (fr_B D T A σ)) := fun a U g mk q => ⟨q.1, q.2.1, va_K.moved (u := U) (U := U.calling g mk a) (Vm.Alike.refl U.vm) q.2.2.1, fr_X.same (u := U) (U := U.calling g mk a) rfl q.2.2.2⟩
theorem fr_preV {D : va_G} {T : Nat → ClassId} {A : Nat → Prop} {σ : fr_S} {s : State} {H : Heap} (hK : va_K D vwCl (fr_tys T) s) (hX : fr_X s) (hH : fr_H D T A σ H) {ci b N : Nat} {C : String} {Tt : u_T} {u : Unit} (hk : oK σ ci b = some u) (hc : vwCl[ci]? = some (C, Tt, N)) (As : List Value) : PreV s H C b (va_Pc (.ref b :: As) (fr_B D T A σ)) As :=
  ⟨fr_blind, va_recv hK (fr_one hH (c_obj (oK_inv hk))) hc (q0 := 0) rfl, fun U hU hW => ⟨rfl, by rw [hU]; exact hH, va_K.moved hW.alike hK, hX.warm hW⟩⟩
theorem fr_preS {D : va_G} {T : Nat → ClassId} {A : Nat → Prop} {σ : fr_S} {s : State} {H : Heap} (hK : va_K D vwCl (fr_tys T) s) (hX : fr_X s) (hH : fr_H D T A σ H) (As : List Value) : PreS s H (va_Pc As (fr_B D T A σ)) As :=
  ⟨fr_blind, fun U hU hW => ⟨rfl, by rw [hU]; exact hH, va_K.moved hW.alike hK, hX.warm hW⟩⟩
section FRC
variable {p : Program} {l : Launch} {e : Env} {R : Room} {s : State} {m : MethodId} {args : Array Value} {below : List Frame} {meth : Method} {c : Code} {H : Heap} {locs : List Loc} {cells slots : Nat} {Q : State → Prop}
variable {cc : ByteArray} {pc : Nat} {ls : Array Slot} {rest st0 : List Value} {D : va_G} {T : Nat → ClassId} {A : Nat → Prop} {a : Array Value} {σ σ1 : fr_S} {H0 : Heap} {r v : Int32}
theorem fr_calli (hr : va_Run p l e R s m args below meth c H locs cells slots 0 0 (F0 m pc ls st0) rest (fr_Qi D T A r σ1 a) A) (hS : va_S A H0 H locs)
    (kk : ∀ (H1 : Heap) (locs1 : List Loc), fr_H D T A σ1 H1 → va_S A H0 H1 locs1 → W p l e R s m args below meth c H1 locs1 cells slots Q (F0 m (pc + 3) ls (.int r :: rest))) : W p l e R s m args below meth c H locs cells slots Q (F0 m pc ls st0) := by
  refine va_calli hr hS (fun q _ h => h) (fun q h => h) (fun r2 u t H1 locs1 ht hvm hw hB hz1 hk1 hS1 => ?_)
  obtain ⟨h1, h2⟩ := hw
  subst h1
  subst h2
  have hH1 := hB.1
  rw [ht] at hH1
  exact kk H1 locs1 hH1 hS1
theorem fr_callv (hr : va_Run p l e R s m args below meth c H locs cells slots 0 0 (F0 m pc ls st0) rest (fr_Qv D T A σ1 a) A) (hS : va_S A H0 H locs)
    (kk : ∀ (H1 : Heap) (locs1 : List Loc), fr_H D T A σ1 H1 → va_S A H0 H1 locs1 → W p l e R s m args below meth c H1 locs1 cells slots Q (F0 m (pc + 3) ls rest)) : W p l e R s m args below meth c H locs cells slots Q (F0 m pc ls st0) := by
  refine va_callv hr hS (fun q _ h => h) (fun q h => h) (fun u t H1 locs1 ht hvm hw hB hz1 hk1 hS1 => ?_)
  subst hw
  have hH1 := hB.1
  rw [ht] at hH1
  exact kk H1 locs1 hH1 hS1
theorem fr_iretO (hx : p.tables.exec = Jvm.exec) (hb : c.code = cc) (hr : meth.sig.returnType = some .int) (hlocks : meth.locks = false) (h : some v = some r) (hH : fr_H D T A σ H) (hK : va_K D vwCl (fr_tys T) s) (hX : fr_X s) (hS : va_S A s.heap H locs) (hdg : decode cc pc = .ok (.ireturn, 1)) : W p l e R s m args below meth c H locs cells slots (MQ below (fr_Qi D T A r σ) args s cells slots A) (F0 m pc ls [.int v]) := by
  cases h
  exact W.iret hx hb hr (fun t ht hW => ⟨⟨r, σ, rfl, ⟨rfl, rfl⟩, by rw [ht]; exact hH, va_K.moved hW.alike hK, hX.warm hW⟩, hS.F ht⟩) hS.2.2 hdg (hlocks := hlocks)
theorem fr_iret (hx : p.tables.exec = Jvm.exec) (hb : c.code = cc) (hr : meth.sig.returnType = some .int) (hlocks : meth.locks = false) (h : some (v, σ) = some (r, σ1)) (hH : fr_H D T A σ H) (hK : va_K D vwCl (fr_tys T) s) (hX : fr_X s) (hS : va_S A s.heap H locs) (hdg : decode cc pc = .ok (.ireturn, 1)) : W p l e R s m args below meth c H locs cells slots (MQ below (fr_Qi D T A r σ1) args s cells slots A) (F0 m pc ls [.int v]) := by
  cases h
  exact fr_iretO hx hb hr hlocks rfl hH hK hX hS hdg
theorem fr_zretO (hx : p.tables.exec = Jvm.exec) (hb : c.code = cc) (hr : meth.sig.returnType = some .boolean) (hlocks : meth.locks = false) (hz : v = 0 ∨ v = 1) (h : some v = some r) (hH : fr_H D T A σ H) (hK : va_K D vwCl (fr_tys T) s) (hX : fr_X s) (hS : va_S A s.heap H locs) (hdg : decode cc pc = .ok (.ireturn, 1)) : W p l e R s m args below meth c H locs cells slots (MQ below (fr_Qi D T A r σ) args s cells slots A) (F0 m pc ls [.int v]) := by
  cases h
  exact W.zret (ty := .boolean) hx hb hr (by rcases hz with h1 | h1 <;> rw [h1] <;> rfl) (fun t ht hW => ⟨⟨r, σ, rfl, ⟨rfl, rfl⟩, by rw [ht]; exact hH, va_K.moved hW.alike hK, hX.warm hW⟩, hS.F ht⟩) hS.2.2 hdg (hlocks := hlocks)
theorem fr_zret (hx : p.tables.exec = Jvm.exec) (hb : c.code = cc) (hr : meth.sig.returnType = some .boolean) (hlocks : meth.locks = false) (hz : v = 0 ∨ v = 1) (h : some (v, σ) = some (r, σ1)) (hH : fr_H D T A σ H) (hK : va_K D vwCl (fr_tys T) s) (hX : fr_X s) (hS : va_S A s.heap H locs) (hdg : decode cc pc = .ok (.ireturn, 1)) : W p l e R s m args below meth c H locs cells slots (MQ below (fr_Qi D T A r σ1) args s cells slots A) (F0 m pc ls [.int v]) := by
  cases h
  exact fr_zretO hx hb hr hlocks hz rfl hH hK hX hS hdg
theorem fr_vret (hx : p.tables.exec = Jvm.exec) (hb : c.code = cc) (hr : meth.sig.returnType = none) (hlocks : meth.locks = false) (h : some σ = some σ1) (hH : fr_H D T A σ H) (hK : va_K D vwCl (fr_tys T) s) (hX : fr_X s) (hS : va_S A s.heap H locs) (hdg : decode cc pc = .ok (.return_, 1)) : W p l e R s m args below meth c H locs cells slots (MQ below (fr_Qv D T A σ1) args s cells slots A) (F0 m pc ls []) := by
  cases h
  exact W.vret hx hb hr (fun t ht hW => ⟨⟨σ, rfl, rfl, by rw [ht]; exact hH, va_K.moved hW.alike hK, hX.warm hW⟩, hS.F ht⟩) hS.2.2 hdg (hlocks := hlocks)
/-- a call of a method that makes no cell -/
theorem fr_V {nL n index maxL : Nat} {y : MethodName} {bytes : ByteArray} {ret : Option FieldType} {rm : Room} {Qc : Array Value → State → Outcome → State → Prop} {own C : String} {b : Nat} {As : List Value} (hfix : CallFix p m c cc nL s args fr_W own) (hM : Met l y (Cond.code y bytes maxL ret :: fr_W) rm (va_Pc (.ref b :: As) (fr_B D T A σ)) Qc 0 0 A) (h1 : Cond.methodLink own index y ∈ fr_W) (hy : fr_MV y C bytes maxL ret n) (hrc : rm.cells = 0) (hrs : rm.slots = 0) (hR : rm.frames + 1 ≤ R.frames ∧ 8 + (maxL + 11) + rm.locals ≤ R.locals) (hp : PreV s H C b (va_Pc (.ref b :: As) (fr_B D T A σ)) As)
    (hn : As.length = n) (hsize : ls.size = nL) (hst : st0 = As.reverse ++ .ref b :: rest) (hW : (rest.map fun v => v.category).sum ≤ 8) (hdg : decode cc pc = .ok (.invokevirtual index, 3)) (hf : cells + 0 ≤ R.cells ∧ slots + 0 ≤ R.slots) : va_Run p l e R s m args below meth c H locs cells slots 0 0 (F0 m pc ls st0) rest (Qc (Value.ref b :: As).toArray) A := by
  obtain ⟨k2, k3, k4, k5, kd⟩ := hy
  exact va_runV hfix hM (cwV n hfix.2.2.2.2 (fr_GV h1 k2 k3 k4 k5) rfl hrc hrs kd hR) hp rfl hn hsize hst (lv_room hW) hdg hf
theorem fr_Sc {nL n index maxL : Nat} {y : MethodName} {bytes : ByteArray} {ret : Option FieldType} {rm : Room} {Qc : Array Value → State → Outcome → State → Prop} {own : String} {As : List Value} (hfix : CallFix p m c cc nL s args fr_W own) (hM : Met l y (Cond.code y bytes maxL ret :: fr_W) rm (va_Pc As (fr_B D T A σ)) Qc 0 0 A) (h1 : Cond.methodLink own index y ∈ fr_W) (hy : fr_MS y bytes maxL ret n) (hrc : rm.cells = 0) (hrs : rm.slots = 0) (hR : rm.frames + 1 ≤ R.frames ∧ 8 + (maxL + 11) + rm.locals ≤ R.locals)
    (hp : PreS s H (va_Pc As (fr_B D T A σ)) As) (hn : As.length = n) (hsize : ls.size = nL) (hst : st0 = As.reverse ++ rest) (hW : (rest.map fun v => v.category).sum ≤ 8) (hdg : decode cc pc = .ok (.invokestatic index, 3)) (hf : cells + 0 ≤ R.cells ∧ slots + 0 ≤ R.slots) : va_Run p l e R s m args below meth c H locs cells slots 0 0 (F0 m pc ls st0) rest (Qc As.toArray) A := by
  obtain ⟨k2, k4, k5, kd⟩ := hy
  have hts := hfix.2.2.2.2
  exact va_runS hfix hM ⟨callB_of n hts (fr_G k5) rfl hrc hrs (hts _ k4) (hts _ h1) kd hR, hts _ k2⟩ hp rfl hn hsize hst (lv_room hW) hdg hf
end FRC
