/-- the object's own cell, its first arrays -/
def FA0 (σ : fr_S) (b : Nat) : Prop := gK σ b = some (.inl 1) ∧ (gP σ 65 b = some (b + 1) ∧ gK σ (b + 1) = some (.inr (1, 8))) ∧ (gP σ 66 b = some (b + 2) ∧ gK σ (b + 2) = some (.inr (0, 8))) ∧ (gP σ 67 b = some (b + 3) ∧ gK σ (b + 3) = some (.inr (2, 16))) ∧ (gP σ 69 b = some (b + 4) ∧ gK σ (b + 4) = some (.inr (3, 10))) ∧ gI σ 68 b = 0 ∧ gI σ 70 b = 0
def FB0 (σ : fr_S) (b : Nat) : Prop := FA0 σ b ∧ ST0 σ b ∧ TL0 σ (b + 28) (b + 29) ∧ FL0 σ (b + 33) (b + 34) ∧ gP σ 71 b = some (b + 5) ∧ gP σ 72 b = some (b + 28) ∧ (gP σ 73 b = some (b + 32) ∧ gK σ (b + 32) = some (.inr (0, 10))) ∧ gP σ 75 b = some (b + 33) ∧ gI σ 74 b = 0
theorem x_fin {b : Nat} {σ0 σ1 σ : fr_S} (h : FB0 σ0 b) (hP : PI b 16 σ0 σ1) (hW : WI b 10 σ1 σ) : XI b σ := by
  obtain ⟨p1, p2, p3⟩ := hP
  obtain ⟨w1, w2, w3⟩ := hW
  have s : Sam (fun a => a < b + 38 ∧ a ≠ b + 3 ∧ a ≠ b + 4) σ0 σ := Sam_tr p1 w1 (fun a ha => ⟨⟨ha.1, ha.2.1⟩, ⟨by have := ha.1; omega, ha.2.2⟩⟩)
  obtain ⟨⟨a1, a2, a3, a4, a5, a6, a7⟩, hS, hT, hF, c1, c2, c3, c4, c5⟩ := h
  have hS := ST0_s hS s (fun a h1 h2 => ⟨by omega, by omega, by omega⟩)
  have hT := TL0_s hT s ⟨by omega, by omega, by omega⟩ ⟨by omega, by omega, by omega⟩ ⟨by omega, by omega, by omega⟩ ⟨by omega, by omega, by omega⟩
  have hF := FL0_s hF s ⟨by omega, by omega, by omega⟩ ⟨by omega, by omega, by omega⟩ ⟨by omega, by omega, by omega⟩ ⟨by omega, by omega, by omega⟩ ⟨by omega, by omega, by omega⟩
  have sb := s b ⟨by omega, by omega, by omega⟩
  have s1 := s (b + 1) ⟨by omega, by omega, by omega⟩
  have s2 := s (b + 2) ⟨by omega, by omega, by omega⟩
  have s32 := s (b + 32) ⟨by omega, by omega, by omega⟩
  have s3 := w1 (b + 3) ⟨by omega, by omega⟩
  have hpl : ∀ i, i < 16 → PL0 σ (b + 38 + 3 * i) (b + 39 + 3 * i) (b + 40 + 3 * i) := fun i hi => PL0_s (p3 i hi).2 w1 ⟨by omega, by omega⟩ ⟨by omega, by omega⟩ ⟨by omega, by omega⟩
  have r0 : ∀ r v, R0 σ r v → RI σ r v := fun r v h => ⟨⟨0, by omega, by rw [nI_0]; exact h.2.1⟩, fun k _ => ⟨0, by omega, by rw [nI_0]; exact h.2.2 k⟩⟩
  refine ⟨⟨⟨sb.1.trans a1, ⟨(sb.2.2.1 65).trans a2.1, s1.1.trans a2.2⟩, ⟨(sb.2.2.1 66).trans a3.1, s2.1.trans a3.2⟩, ⟨(sb.2.2.1 67).trans a4.1, s3.1.trans p2⟩, ⟨(sb.2.2.1 69).trans a5.1, w2⟩, ⟨(sb.2.2.1 71).trans c1, hS.1⟩, ⟨(sb.2.2.1 72).trans c2, hT.1⟩, ⟨(sb.2.2.1 73).trans c3.1, s32.1.trans c3.2⟩, ⟨(sb.2.2.1 75).trans c4, hF.1⟩⟩, fun i hi => ?_, fun j hj => ?_, fun i hi => ?_⟩, 0, 0, 0, 0, 0, 0, ?_, ?_, ?_, ?_, ?_, ?_, fun i hi => ?_, fun j hj => ?_, fun r v hp => ?_⟩
  · exact ⟨(congrFun s3.2.2.2.2 i).trans (p3 i hi).1, (hpl i hi).1, (hpl i hi).2.1, (hpl i hi).2.2.1.1⟩
  · exact ⟨(w3 j hj).1, (w3 j hj).2.1, (w3 j hj).2.2.1, (w3 j hj).2.2.2.1.1, (w3 j hj).2.2.2.2.1, (w3 j hj).2.2.2.2.2.1⟩
  · exact ⟨(hS.2.2 i hi).1, (hS.2.2 i hi).2.1⟩
  · exact ⟨by omega, by rw [nI_0]; exact (sb.2.1 68).trans a6⟩
  · exact ⟨by omega, by rw [nI_0]; exact (sb.2.1 70).trans a7⟩
  · exact ⟨by omega, by rw [nI_0]; exact hS.2.1⟩
  · exact ⟨by omega, by rw [nI_0]; exact hT.2⟩
  · exact ⟨by omega, by rw [nI_0]; exact (sb.2.1 74).trans c5⟩
  · exact ⟨by omega, by rw [nI_0]; exact hF.2⟩
  · exact ⟨⟨0, by omega, by rw [nI_0]; exact (hpl i hi).2.2.2.1⟩, Or.inl (hpl i hi).2.2.2.2⟩
  · exact ⟨⟨0, by omega, by rw [nI_0]; exact (w3 j hj).2.2.2.2.2.2.1, fun k hk => by omega⟩, ⟨0, by omega, by rw [nI_0]; exact (w3 j hj).2.2.2.2.2.2.2⟩⟩
  · rcases hp with ⟨i, hi, rfl, rfl⟩ | ⟨j, hj, rfl, rfl⟩ | ⟨i, hi, rfl, rfl⟩
    · exact r0 _ _ (hpl i hi).2.2.1
    · exact r0 _ _ (w3 j hj).2.2.2.1
    · exact r0 _ _ (hS.2.2 i hi).2
/-- what the relation with the reference wants beside -/
def X2 (b : Nat) (x : Int32) (σ : fr_S) : Prop := (∀ i, i < 16 → gI σ 195 (b + 38 + 3 * i) = -1) ∧ gI σ 64 b = x
theorem x_fin2 {b : Nat} {σ0 σ1 σ : fr_S} {x : Int32} (hP : PI b 16 σ0 σ1) (hW : WI b 10 σ1 σ) (h64 : gI σ0 64 b = x) : X2 b x σ := by
  obtain ⟨p1, p2, p3⟩ := hP
  obtain ⟨w1, w2, w3⟩ := hW
  have hpl : ∀ i, i < 16 → PL0 σ (b + 38 + 3 * i) (b + 39 + 3 * i) (b + 40 + 3 * i) := fun i hi => PL0_s (p3 i hi).2 w1 ⟨by omega, by omega⟩ ⟨by omega, by omega⟩ ⟨by omega, by omega⟩
  exact ⟨fun i hi => (hpl i hi).2.2.2.2, ((w1 b ⟨by omega, by omega⟩).2.1 64).trans (((p1 b ⟨by omega, by omega⟩).2.1 64).trans h64)⟩
/-- behind the store -/
theorem x_init2 {b : Nat} {σ : fr_S} (h : FA0 σ b) (hS : ST0 σ b) (x : Int32) : ev ((sP σ 1 71 b (b + 5)).bind fun σ_13 =>
  (nC σ_13 (b + 28) (.inl 6)).bind fun σ_14 =>
  (m_Tellings_init (b + 28) σ_14 (b + 28 + 1)).bind fun w15 =>
  (sP w15.1 1 72 b (b + 28)).bind fun σ_16 =>
  (nC σ_16 w15.2 (.inr (0, 10))).bind fun σ_17 =>
  (sP σ_17 1 73 b w15.2).bind fun σ_18 =>
  (sI σ_18 1 74 b 0).bind fun σ_19 =>
  (nC σ_19 (w15.2 + 1) (.inl 2)).bind fun σ_20 =>
  (m_Files_init ((w15.2 + 1)) σ_20 (w15.2 + 2)).bind fun w21 =>
  (sP w21.1 1 75 b (w15.2 + 1)).bind fun σ_22 =>
  (sZ σ_22 1 76 b 0).bind fun σ_23 =>
  (sI σ_23 1 77 b 0).bind fun σ_24 =>
  (sI σ_24 1 64 b x).bind fun σ_25 =>
  m_FR_init_L119 1000 b 0 σ_25 w21.2 37 1416) (fun q => (XI b q.1 ∧ X2 b x q.1) ∧ q.2 = b + 126) := by
  obtain ⟨a1, a2, a3, a4, a5, a6, a7⟩ := id h
  refine ev_bs (sP_k a1) ?_
  refine ev_bs (a := pN (pP σ 71 b (some (b + 5))) (b + 28) (.inl 6)) rfl ?_
  refine ev_b (x_tell0 (σ := pN (pP σ 71 b (some (b + 5))) (b + 28) (.inl 6)) (h := b + 28) (by rw [z_gK_pN, if_pos rfl]) (by omega)) (fun w hw => ?_)
  obtain ⟨σ15, n15⟩ := w
  obtain ⟨t1, t2, t3⟩ := hw
  have t1 : n15 = b + 32 := t1
  have t2 : TL0 σ15 (b + 28) (b + 29) := t2
  have t3 : Sam (fun a => a ≠ b + 28 ∧ a < b + 29) (pN (pP σ 71 b (some (b + 5))) (b + 28) (.inl 6)) σ15 := t3
  subst t1
  have u15 : Sam (fun a => a < b + 28 ∧ a ≠ b) σ σ15 := Sam_tr (P := fun a => a < b + 28 ∧ a ≠ b) (Sam_pN (Sam_pP Sam_rf (fun x hx => hx.2)) (fun x hx => by have := hx.1; omega)) t3 (fun a ha => ⟨ha, ⟨by have := ha.1; omega, by have := ha.1; omega⟩⟩)
  have b15 := t3 b ⟨by omega, by omega⟩
  have k15 : gK σ15 b = some (.inl 1) := b15.1.trans (by rw [z_gK_pN, if_neg (by omega)]; exact a1)
  have P15 : ∀ f, gP σ15 f b = if f = 71 then some (b + 5) else gP σ f b := fun f => (b15.2.2.1 f).trans (by rw [z_gP_pN, if_neg (by omega), z_gP_pP]; simp)
  have I15 : ∀ f, gI σ15 f b = gI σ f b := fun f => (b15.2.1 f).trans (by rw [z_gI_pN, if_neg (by omega), z_gI_pP])
  refine ev_bs (sP_k k15) ?_
  refine ev_bs (a := pN (pP σ15 72 b (some (b + 28))) (b + 32) (.inr (0, 10))) rfl ?_
  refine ev_bs (sP_k (by rw [z_gK_pN, if_neg (by omega)]; exact k15)) ?_
  refine ev_bs (sI_k (by rw [z_gK_pP, z_gK_pN, if_neg (by omega)]; exact k15)) ?_
  refine ev_bs (a := pN (pI (pP (pN (pP σ15 72 b (some (b + 28))) (b + 32) (.inr (0, 10))) 73 b (some (b + 32))) 74 b 0) (b + 33) (.inl 2)) rfl ?_
  have f20 : ∀ σ20, σ20 = pN (pI (pP (pN (pP σ15 72 b (some (b + 28))) (b + 32) (.inr (0, 10))) 73 b (some (b + 32))) 74 b 0) (b + 33) (.inl 2) → gK σ20 (b + 33) = some (.inl 2) ∧ gK σ20 b = some (.inl 1) ∧ gK σ20 (b + 32) = some (.inr (0, 10)) ∧ (∀ f, gP σ20 f b = if f = 73 then some (b + 32) else if f = 72 then some (b + 28) else gP σ15 f b) ∧ (∀ f, gI σ20 f b = if f = 74 then 0 else gI σ15 f b) ∧ Sam (fun a => a < b + 32 ∧ a ≠ b) σ15 σ20 := by
    intro σ20 e
    subst e
    refine ⟨?_, ?_, ?_, fun f => ?_, fun f => ?_, ?_⟩
    · rw [z_gK_pN, if_pos rfl]
    · rw [z_gK_pN, if_neg (by omega), z_gK_pI, z_gK_pP, z_gK_pN, if_neg (by omega)]; exact k15
    · rw [z_gK_pN, if_neg (by omega), z_gK_pI, z_gK_pP, z_gK_pN, if_pos rfl]
    · simp [z_gP_pN, z_gP_pI, z_gP_pP]
    · simp [z_gI_pN, gI_pIx, z_gI_pP]
    · refine Sam_pN (Sam_pI (Sam_pP (Sam_pN (Sam_pP Sam_rf (fun x hx => hx.2)) (fun x hx => ?_)) (fun x hx => hx.2)) (fun x hx => hx.2)) (fun x hx => ?_) <;> (have := hx.1; omega)
  have f20 := f20 _ rfl
  generalize pN (pI (pP (pN (pP σ15 72 b (some (b + 28))) (b + 32) (.inr (0, 10))) 73 b (some (b + 32))) 74 b 0) (b + 33) (.inl 2) = σ20 at f20 ⊢
  obtain ⟨g1, g2, g3, g4, g5, g6⟩ := f20
  refine ev_b (x_files0 (σ := σ20) (h := b + 33) (nx := b + 34) g1 (by omega)) (fun w hw => ?_)
  obtain ⟨σ21, n21⟩ := w
  obtain ⟨v1, v2, v3⟩ := hw
  have v1 : n21 = b + 38 := v1
  have v2 : FL0 σ21 (b + 33) (b + 34) := v2
  have v3 : Sam (fun a => a ≠ b + 33 ∧ a < b + 34) σ20 σ21 := v3
  subst v1
  have b21 := v3 b ⟨by omega, by omega⟩
  have k21 : gK σ21 b = some (.inl 1) := b21.1.trans g2
  refine ev_bs (sP_k k21) ?_
  refine ev_bs (sZ_k (by rw [z_gK_pP]; exact k21) (Or.inl rfl)) ?_
  refine ev_bs (sI_k (by rw [z_gK_pI, z_gK_pP]; exact k21)) ?_
  refine ev_bs (sI_k (by rw [z_gK_pI, z_gK_pI, z_gK_pP]; exact k21)) ?_
  have u25 : Sam (fun a => a ≠ b) σ21 (pI (pI (pI (pP σ21 75 b (some (b + 33))) 76 b 0) 77 b 0) 64 b x) := Sam_pI (Sam_pI (Sam_pI (Sam_pP Sam_rf (fun x hx => hx)) (fun x hx => hx)) (fun x hx => hx)) (fun x hx => hx)
  have k25 : gK (pI (pI (pI (pP σ21 75 b (some (b + 33))) 76 b 0) 77 b 0) 64 b x) b = some (.inl 1) := k21
  have P25 : ∀ f, gP (pI (pI (pI (pP σ21 75 b (some (b + 33))) 76 b 0) 77 b 0) 64 b x) f b = if f = 75 then some (b + 33) else gP σ21 f b := fun f => by
    rw [z_gP_pI, z_gP_pI, z_gP_pI, z_gP_pP]
    simp
  have I25 : ∀ f, f ≠ 64 → f ≠ 77 → f ≠ 76 → gI (pI (pI (pI (pP σ21 75 b (some (b + 33))) 76 b 0) 77 b 0) 64 b x) f b = gI σ21 f b := fun f h1 h2 h3 => by
    rw [gI_pIf h1, gI_pIf h2, gI_pIf h3, z_gI_pP]
  have v64 : gI (pI (pI (pI (pP σ21 75 b (some (b + 33))) 76 b 0) 77 b 0) 64 b x) 64 b = x := gI_pIs
  generalize pI (pI (pI (pP σ21 75 b (some (b + 33))) 76 b 0) 77 b 0) 64 b x = σ25 at u25 k25 P25 I25 v64 ⊢
  have U : Sam (fun a => a < b + 28 ∧ a ≠ b) σ σ25 := Sam_tr (Sam_tr (R := fun a => a < b + 28 ∧ a ≠ b) u15 g6 (fun a ha => ⟨ha, ⟨by have := ha.1; omega, ha.2⟩⟩)) (Sam_tr (R := fun a => a < b + 28 ∧ a ≠ b) v3 u25 (fun a ha => ⟨⟨by have := ha.1; omega, by have := ha.1; omega⟩, ha.2⟩)) (fun a ha => ⟨ha, ha⟩)
  have PP : ∀ f, gP σ25 f b = if f = 75 then some (b + 33) else if f = 73 then some (b + 32) else if f = 72 then some (b + 28) else if f = 71 then some (b + 5) else gP σ f b := fun f => by
    rw [P25, b21.2.2.1, g4, P15]
  have II : ∀ f, f ≠ 64 → f ≠ 77 → f ≠ 76 → gI σ25 f b = if f = 74 then 0 else gI σ f b := fun f h1 h2 h3 => by
    rw [I25 f h1 h2 h3, b21.2.1, g5, I15]
  have s1 := U (b + 1) ⟨by omega, by omega⟩
  have s2 := U (b + 2) ⟨by omega, by omega⟩
  have s3 := U (b + 3) ⟨by omega, by omega⟩
  have s4 := U (b + 4) ⟨by omega, by omega⟩
  have FB : FB0 σ25 b := by
    refine ⟨⟨k25, ⟨(PP 65).trans a2.1, s1.1.trans a2.2⟩, ⟨(PP 66).trans a3.1, s2.1.trans a3.2⟩, ⟨(PP 67).trans a4.1, s3.1.trans a4.2⟩, ⟨(PP 69).trans a5.1, s4.1.trans a5.2⟩, (II 68 (by decide) (by decide) (by decide)).trans a6, (II 70 (by decide) (by decide) (by decide)).trans a7⟩, ST0_s hS U (fun a h1 h2 => ⟨by omega, by omega⟩), ?_, ?_, PP 71, PP 72, ⟨PP 73, ?_⟩, PP 75, II 74 (by decide) (by decide) (by decide)⟩
    · have S3 : Sam (fun a => a < b + 32 ∧ a ≠ b) σ15 σ25 := Sam_tr g6 (Sam_tr (R := fun a => a < b + 32 ∧ a ≠ b) v3 u25 (fun a ha => ⟨⟨by have := ha.1; omega, by have := ha.1; omega⟩, ha.2⟩)) (fun a ha => ⟨ha, ha⟩)
      exact TL0_s t2 S3 ⟨by omega, by omega⟩ ⟨by omega, by omega⟩ ⟨by omega, by omega⟩ ⟨by omega, by omega⟩
    · exact FL0_s v2 u25 (show b + 33 ≠ b by omega) (show b + 34 ≠ b by omega) (show b + 34 + 1 ≠ b by omega) (show b + 34 + 2 ≠ b by omega) (show b + 34 + 3 ≠ b by omega)
    · exact (u25 (b + 32) (show b + 32 ≠ b by omega)).1.trans ((v3 (b + 32) ⟨by omega, by omega⟩).1.trans g3)
  have key := x_places_L (b := b) (σ0 := σ25) FB.1.1 FB.1.2.2.2.1.1 FB.1.2.2.2.2.1.1 FB.1.2.2.2.2.1.2 1000 0 σ25 ⟨Sam_rf, FB.1.2.2.2.1.2, fun i hi => by omega⟩ (by omega) (by omega)
  rw [nI_0] at key
  refine ev_mono key (fun q hq => ?_)
  obtain ⟨⟨σ1, h1, h2⟩, h3⟩ := hq
  exact ⟨⟨x_fin FB h1 h2, x_fin2 h1 h2 v64⟩, h3⟩
theorem x_initL (b : Nat) (x : Int32) : ev (m_FR_init b x (pN fl_e b (.inl 1)) (b + 1)) (fun q => (XI b q.1 ∧ X2 b (if 0 < (if x < 5 then x else 5) then (if x < 5 then x else 5) else 0) q.1) ∧ q.2 = b + 126) := by
  unfold m_FR_init
  have k0 : gK (pN fl_e b (.inl 1)) b = some (.inl 1) := by rw [z_gK_pN, if_pos rfl]
  generalize pN fl_e b (.inl 1) = σ at k0 ⊢
  have e1 : b ≠ b + 1 := by omega
  have e2 : b ≠ b + 2 := by omega
  have e3 : b ≠ b + 3 := by omega
  have e4 : b ≠ b + 4 := by omega
  have e5 : b ≠ b + 5 := by omega
  refine ev_bs (a := pN σ (b + 1) (.inr (1, 8))) rfl ?_
  refine ev_bs (a := pP (pN σ (b + 1) (.inr (1, 8))) 65 b (some (b + 1))) (sP_k (by simp [z_gK_pN, k0])) ?_
  refine ev_bs (a := pN (pP (pN σ (b + 1) (.inr (1, 8))) 65 b (some (b + 1))) (b + 2) (.inr (0, 8))) rfl ?_
  refine ev_bs (a := pP (pN (pP (pN σ (b + 1) (.inr (1, 8))) 65 b (some (b + 1))) (b + 2) (.inr (0, 8))) 66 b (some (b + 2))) (sP_k (by simp [z_gK_pN, z_gK_pP, k0])) ?_
  have g4 : ∀ τ, τ = pP (pN (pP (pN σ (b + 1) (.inr (1, 8))) 65 b (some (b + 1))) (b + 2) (.inr (0, 8))) 66 b (some (b + 2)) → gK τ b = some (.inl 1) ∧ (gP τ 65 b = some (b + 1) ∧ gK τ (b + 1) = some (.inr (1, 8))) ∧ (gP τ 66 b = some (b + 2) ∧ gK τ (b + 2) = some (.inr (0, 8))) := by
    intro τ e
    subst e
    simp [z_gK_pN, z_gK_pP, z_gP_pN, z_gP_pP, k0]
  have g4 := g4 _ rfl
  generalize pP (pN (pP (pN σ (b + 1) (.inr (1, 8))) 65 b (some (b + 1))) (b + 2) (.inr (0, 8))) 66 b (some (b + 2)) = σ4 at g4 ⊢
  obtain ⟨q1, q2, q3⟩ := g4
  refine ev_bs (a := pN σ4 (b + 3) (.inr (2, 16))) rfl ?_
  refine ev_bs (a := pP (pN σ4 (b + 3) (.inr (2, 16))) 67 b (some (b + 3))) (sP_k (by simp [z_gK_pN, q1])) ?_
  refine ev_bs (a := pI (pP (pN σ4 (b + 3) (.inr (2, 16))) 67 b (some (b + 3))) 68 b 0) (sI_k (by simp [z_gK_pN, z_gK_pP, q1])) ?_
  refine ev_bs (a := pN (pI (pP (pN σ4 (b + 3) (.inr (2, 16))) 67 b (some (b + 3))) 68 b 0) (b + 4) (.inr (3, 10))) rfl ?_
  refine ev_bs (a := pP (pN (pI (pP (pN σ4 (b + 3) (.inr (2, 16))) 67 b (some (b + 3))) 68 b 0) (b + 4) (.inr (3, 10))) 69 b (some (b + 4))) (sP_k (by simp [z_gK_pN, z_gK_pP, z_gK_pI, q1])) ?_
  refine ev_bs (a := pI (pP (pN (pI (pP (pN σ4 (b + 3) (.inr (2, 16))) 67 b (some (b + 3))) 68 b 0) (b + 4) (.inr (3, 10))) 69 b (some (b + 4))) 70 b 0) (sI_k (by simp [z_gK_pN, z_gK_pP, z_gK_pI, q1])) ?_
  refine ev_bs (a := pN (pI (pP (pN (pI (pP (pN σ4 (b + 3) (.inr (2, 16))) 67 b (some (b + 3))) 68 b 0) (b + 4) (.inr (3, 10))) 69 b (some (b + 4))) 70 b 0) (b + 5) (.inl 5)) rfl ?_
  have g11 : ∀ τ, τ = pN (pI (pP (pN (pI (pP (pN σ4 (b + 3) (.inr (2, 16))) 67 b (some (b + 3))) 68 b 0) (b + 4) (.inr (3, 10))) 69 b (some (b + 4))) 70 b 0) (b + 5) (.inl 5) → FA0 τ b ∧ gK τ (b + 5) = some (.inl 5) := by
    intro τ e
    subst e
    simp [FA0, z_gK_pN, z_gK_pP, z_gK_pI, z_gP_pN, z_gP_pP, z_gP_pI, z_gI_pN, z_gI_pP, gI_pIx, q1, q2, q3]
  have g11 := g11 _ rfl
  generalize pN (pI (pP (pN (pI (pP (pN σ4 (b + 3) (.inr (2, 16))) 67 b (some (b + 3))) 68 b 0) (b + 4) (.inr (3, 10))) 69 b (some (b + 4))) 70 b 0) (b + 5) (.inl 5) = σ11 at g11 ⊢
  refine ev_b (x_store0 (b := b) g11.2) (fun w hw => ?_)
  obtain ⟨σ12, n12⟩ := w
  obtain ⟨w1, w2, w3⟩ := hw
  have w1 : n12 = b + 28 := w1
  have w2 : ST0 σ12 b := w2
  have w3 : Sam (fun a => a < b + 5) σ11 σ12 := w3
  subst w1
  obtain ⟨a1, a2, a3, a4, a5, a6, a7⟩ := g11.1
  have sb := w3 b (show b < b + 5 by omega)
  have s1 := w3 (b + 1) (show b + 1 < b + 5 by omega)
  have s2 := w3 (b + 2) (show b + 2 < b + 5 by omega)
  have s3 := w3 (b + 3) (show b + 3 < b + 5 by omega)
  have s4 := w3 (b + 4) (show b + 4 < b + 5 by omega)
  have FA : FA0 σ12 b := ⟨sb.1.trans a1, ⟨(sb.2.2.1 65).trans a2.1, s1.1.trans a2.2⟩, ⟨(sb.2.2.1 66).trans a3.1, s2.1.trans a3.2⟩, ⟨(sb.2.2.1 67).trans a4.1, s3.1.trans a4.2⟩, ⟨(sb.2.2.1 69).trans a5.1, s4.1.trans a5.2⟩, (sb.2.1 68).trans a6, (sb.2.1 70).trans a7⟩
  exact x_init2 FA w2 _
theorem x_init (b : Nat) (x : Int32) : ev (m_FR_init b x (pN fl_e b (.inl 1)) (b + 1)) (fun q => XI b q.1 ∧ q.2 = b + 126) := ev_mono (x_initL b x) (fun _ h => ⟨h.1.1, h.2⟩)
