theorem rel_ii {α β : Type} {c : Prop} {hd hd' : Decidable c} {x y : Option α} {x' y' : Option β} {Q : α → β → Prop} (h1 : c → rel x x' Q) (h2 : ¬ c → rel y y' Q) : rel (@ite _ c hd x y) (@ite _ c hd' x' y') Q := by
  by_cases h : c
  · rw [if_pos h, if_pos h]; exact h1 h
  · rw [if_neg h, if_neg h]; exact h2 h
/-- a read of the class, a call of the reference -/
def RQ (b c : Nat) (σ : fr_S) : Int32 → Int32 × fr_S → Prop := fun r q => r = q.1 ∧ RE b c σ q.2
/-- a call of both -/
def RS (b c : Nat) : Int32 × fr_S → Int32 × fr_S → Prop := fun q q' => q.1 = q'.1 ∧ RE b c q.2 q'.2
theorem RQ_end {b c : Nat} {σ : fr_S} {o : Option Int32} {o' : Option (Int32 × fr_S)} (h : rel o o' (RQ b c σ)) (hx : XI b σ) (hm : ev o' (fun q => MI c q.2)) : rel o o' (fun r q => r = q.1 ∧ RR b c σ q.2) := by
  obtain ⟨r, q, e, e', h1, h2⟩ := h
  obtain ⟨q', e2, h3⟩ := hm
  rw [e'] at e2
  cases e2
  exact ⟨r, q, e, e', h1, hx, h3, h2⟩
theorem RS_end {b c : Nat} {o o' : Option (Int32 × fr_S)} (h : rel o o' (RS b c)) (hx : ev o (fun q => XI b q.2)) (hm : ev o' (fun q => MI c q.2)) : rel o o' (fun q q' => q.1 = q'.1 ∧ RR b c q.2 q'.2) := by
  obtain ⟨r, q, e, e', h1, h2⟩ := h
  obtain ⟨q', e2, h3⟩ := hm
  obtain ⟨r', e3, h4⟩ := hx
  rw [e'] at e2
  cases e2
  rw [e] at e3
  cases e3
  exact ⟨r, q, e, e', h1, h4, h3, h2⟩
theorem r_idx {x : Int32} {n : Nat} (hn : n < 2 ^ 31) (h0 : ¬ x < 0) : (nI n ≤ x ∧ ¬ x < nI n) ∨ (¬ nI n ≤ x ∧ x < nI n ∧ ∃ j, j < n ∧ x = nI j) := by
  by_cases h : nI n ≤ x
  · exact Or.inl ⟨h, Int32.not_lt.mpr h⟩
  · exact Or.inr ⟨h, Int32.not_le.mp h, nI_get hn h0 h⟩
theorem r_isPlace {b c np nw nk nt nl nf : Nat} {σ τ : fr_S} (hs : Sx b σ) (hm : Sm c τ) (hR : RN b c np nw nk nt nl nf σ τ) (x : Int32) : rel (m_FR_isPlace b x σ) (m_Md_isPlace c x τ) (fun r r' => (r = 0 ∧ r' = 0) ∨ (r = 1 ∧ r' = 1 ∧ ∃ j, j < np ∧ x = nI j)) := by
  have hn := hR.1.1
  unfold m_FR_isPlace m_Md_isPlace
  refine rel_ii (fun _ => rel_some (Or.inl ⟨rfl, rfl⟩)) (fun h0 => ?_)
  refine rel_l ((xI hs).trans (congrArg some hn.2.1)) ?_
  refine rel_r ((mI hm).trans (congrArg some hn.2.2)) ?_
  exact rel_ii (fun _ => rel_some (Or.inl ⟨rfl, rfl⟩)) (fun h1 => rel_some (Or.inr ⟨rfl, rfl, nI_get (by omega) h0 h1⟩))
theorem r_isWant {b c np nw nk nt nl nf : Nat} {σ τ : fr_S} (hs : Sx b σ) (hm : Sm c τ) (hR : RN b c np nw nk nt nl nf σ τ) (x : Int32) : rel (m_FR_isWant b x σ) (m_Md_isWant c x τ) (fun r r' => (r = 0 ∧ r' = 0) ∨ (r = 1 ∧ r' = 1 ∧ ∃ j, j < nw ∧ x = nI j)) := by
  have hn := hR.1.2.1
  unfold m_FR_isWant m_Md_isWant
  refine rel_ii (fun _ => rel_some (Or.inl ⟨rfl, rfl⟩)) (fun h0 => ?_)
  refine rel_l ((xI hs).trans (congrArg some hn.2.1)) ?_
  refine rel_r ((mI hm).trans (congrArg some hn.2.2)) ?_
  exact rel_ii (fun _ => rel_some (Or.inl ⟨rfl, rfl⟩)) (fun h1 => rel_some (Or.inr ⟨rfl, rfl, nI_get (by omega) h0 h1⟩))
theorem r_lacks {b c : Nat} {σ τ : fr_S} (h : RR b c σ τ) (x : Int32) : rel (m_FR_lacks b x σ) (m_Md_lacks c x τ) (fun r q => r = q.1 ∧ RR b c σ q.2) := by
  obtain ⟨h1, h2, np, nw, nk, nt, nl, nf, hR⟩ := id h
  refine RQ_end ?_ h1 (md_lacks h2 x)
  have hs := h1.1
  have hm : Sm c (pI τ 1 c 0) := h2.1
  have hR : RN b c np nw nk nt nl nf σ (pI τ 1 c 0) := hR
  have hl := hR.1.2.2.2.2.1
  have fin : RE b c σ (pI τ 1 c 0) := ⟨np, nw, nk, nt, nl, nf, hR⟩
  unfold m_FR_lacks m_Md_lacks
  refine rel_r (mSI h2.1) ?_
  refine rel_ii (fun _ => rel_some ⟨rfl, fin⟩) (fun h0 => ?_)
  refine rel_l ((xI hs).trans (congrArg some hl.2.1)) ?_
  refine rel_r ((mI hm).trans (congrArg some hl.2.2)) ?_
  rcases r_idx (n := nl) (by omega) h0 with ⟨z1, z2⟩ | ⟨z1, z2, j, hj, rfl⟩
  · rw [if_pos z1, if_neg z2]
    exact rel_some ⟨rfl, fin⟩
  · rw [if_neg z1, if_pos z2]
    refine rel_l (xp73 hs) ?_
    refine rel_l (oV_nI (n := 10) hs.1.2.2.2.2.2.2.2.1.2 (by omega) (by decide)) ?_
    refine rel_r (mP38 hm) ?_
    refine rel_r (mV30 hm (by omega)) ?_
    exact rel_some ⟨hR.2.2.2.2.2.2.2.2.1 j hj, fin⟩
theorem r_has {b c np nw nk nt nl nf : Nat} {σ τ : fr_S} (hs : Sx b σ) (hR : RN b c np nw nk nt nl nf σ τ) (x : Int32) : ev (m_Tellings_has (b + 28) x σ) (fun r => (r = 0 ∧ (x < 0 ∨ ¬ x < 0 ∧ ¬ x < nI nt)) ∨ (r = 1 ∧ ¬ x < 0 ∧ x < nI nt ∧ ∃ j, j < nt ∧ x = nI j)) := by
  have hl := hR.1.2.2.2.1
  unfold m_Tellings_has
  refine ev_if (fun z => ev_some (Or.inl ⟨rfl, Or.inl z⟩)) (fun h0 => ?_)
  refine ev_bs ((oI_k hs.1.2.2.2.2.2.2.1.2.1).trans (congrArg some hl.2.1)) ?_
  rcases r_idx (n := nt) (by omega) h0 with ⟨z1, z2⟩ | ⟨z1, z2, j, hj, rfl⟩
  · rw [if_pos z1]
    exact ev_some (Or.inl ⟨rfl, Or.inr ⟨h0, z2⟩⟩)
  · rw [if_neg z1]
    exact ev_some (Or.inr ⟨rfl, h0, z2, j, hj, rfl⟩)
theorem r_came {b c : Nat} {σ τ : fr_S} (h : RR b c σ τ) (x : Int32) : rel (m_FR_came b x σ) (m_Md_came c x τ) (fun r q => r = q.1 ∧ RR b c σ q.2) := by
  obtain ⟨h1, h2, np, nw, nk, nt, nl, nf, hR⟩ := id h
  refine RQ_end ?_ h1 (md_came h2 x)
  have hs := h1.1
  have hm : Sm c (pI τ 1 c 0) := h2.1
  have hR : RN b c np nw nk nt nl nf σ (pI τ 1 c 0) := hR
  have hl := hR.1.2.2.2.1
  have fin : RE b c σ (pI τ 1 c 0) := ⟨np, nw, nk, nt, nl, nf, hR⟩
  have hT := hs.1.2.2.2.2.2.2.1
  unfold m_FR_came m_Md_came
  refine rel_r (mSI h2.1) ?_
  refine rel_l (xp72 hs) ?_
  refine rel_l (oK_k hT.2.1) ?_
  refine rel_el (r_has hs hR x) (fun r hr => ?_)
  rcases hr with ⟨rfl, hr⟩ | ⟨rfl, z0, z2, j, hj, rfl⟩
  · rw [if_pos rfl]
    refine rel_ir (fun _ => rel_some ⟨rfl, fin⟩) (fun z => ?_)
    refine rel_r ((mI hm).trans (congrArg some hl.2.2)) ?_
    refine rel_ir (fun z2 => ?_) (fun _ => rel_some ⟨rfl, fin⟩)
    rcases hr with hr | hr
    · exact absurd hr z
    · exact absurd z2 hr.2
  · rw [if_neg (by decide), if_neg z0]
    refine rel_r ((mI hm).trans (congrArg some hl.2.2)) ?_
    rw [if_pos z2]
    refine rel_l (xp72 hs) ?_
    refine rel_l (oP_g hT.2.1 hT.2.2.2.2.2.2.1) ?_
    refine rel_l (oV_nI (n := 60) hT.2.2.2.2.2.2.2 (by omega) (by decide)) ?_
    refine rel_r (mP37 hm) ?_
    refine rel_r (mV29 hm (by omega)) ?_
    exact rel_some ⟨(hR.2.2.2.2.2.2.2.1 j hj).2.2, fin⟩
theorem r_barred {b c : Nat} {σ τ : fr_S} (h : RR b c σ τ) (x y : Int32) : rel (m_FR_barred b x y σ) (m_Md_barred c x y τ) (fun r q => r = q.1 ∧ RR b c σ q.2) := by
  obtain ⟨h1, h2, np, nw, nk, nt, nl, nf, hR⟩ := id h
  refine RQ_end ?_ h1 (md_barred h2 x y)
  have hs := h1.1
  have hm : Sm c (pI τ 1 c 0) := h2.1
  have hR : RN b c np nw nk nt nl nf σ (pI τ 1 c 0) := hR
  have hl := hR.1.2.2.2.1
  have fin : RE b c σ (pI τ 1 c 0) := ⟨np, nw, nk, nt, nl, nf, hR⟩
  have hT := hs.1.2.2.2.2.2.2.1
  unfold m_FR_barred m_Md_barred
  refine rel_r (mSI h2.1) ?_
  refine rel_l (xp72 hs) ?_
  refine rel_l (oK_k hT.2.1) ?_
  refine rel_el (r_has hs hR x) (fun r hr => ?_)
  rcases hr with ⟨rfl, hr⟩ | ⟨rfl, z0, z2, j, hj, rfl⟩
  · rw [if_pos rfl]
    refine rel_ir (fun _ => rel_some ⟨rfl, fin⟩) (fun z => ?_)
    refine rel_r ((mI hm).trans (congrArg some hl.2.2)) ?_
    refine rel_ir (fun z2 => ?_) (fun _ => rel_some ⟨rfl, fin⟩)
    rcases hr with hr | hr
    · exact absurd hr z
    · exact absurd z2 hr.2
  · rw [if_neg (by decide), if_neg z0]
    refine rel_r ((mI hm).trans (congrArg some hl.2.2)) ?_
    rw [if_pos z2]
    refine rel_ii (fun _ => ?_) (fun _ => rel_ii (fun _ => ?_) (fun _ => rel_some ⟨rfl, fin⟩))
    · refine rel_l (xp72 hs) ?_
      refine rel_l (oP_g hT.2.1 hT.2.2.1) ?_
      refine rel_l (oV_nI (n := 60) hT.2.2.2.1 (by omega) (by decide)) ?_
      refine rel_r (mP35 hm) ?_
      refine rel_r (mV27 hm (by omega)) ?_
      exact rel_some ⟨(hR.2.2.2.2.2.2.2.1 j hj).1, fin⟩
    · refine rel_l (xp72 hs) ?_
      refine rel_l (oP_g hT.2.1 hT.2.2.2.2.1) ?_
      refine rel_l (oV_nI (n := 60) hT.2.2.2.2.2.1 (by omega) (by decide)) ?_
      refine rel_r (mP36 hm) ?_
      refine rel_r (mV28 hm (by omega)) ?_
      exact rel_some ⟨(hR.2.2.2.2.2.2.2.1 j hj).2.1, fin⟩
theorem r_file {b c : Nat} {σ τ : fr_S} (h : RR b c σ τ) (x y : Int32) : rel (m_FR_file b x y σ) (m_Md_file c x y τ) (fun r q => r = q.1 ∧ RR b c σ q.2) := by
  obtain ⟨h1, h2, np, nw, nk, nt, nl, nf, hR⟩ := id h
  refine RQ_end ?_ h1 (md_file h2 x y)
  have hs := h1.1
  have hm : Sm c (pI τ 1 c 0) := h2.1
  have hR : RN b c np nw nk nt nl nf σ (pI τ 1 c 0) := hR
  have hl := hR.1.2.2.2.2.2
  have fin : RE b c σ (pI τ 1 c 0) := ⟨np, nw, nk, nt, nl, nf, hR⟩
  have hF := hs.1.2.2.2.2.2.2.2.2
  have has : ev (m_Files_has (b + 33) x σ) (fun r => (r = 0 ∧ (x < 0 ∨ ¬ x < 0 ∧ ¬ x < nI nf)) ∨ (r = 1 ∧ ¬ x < 0 ∧ x < nI nf ∧ ∃ j, j < nf ∧ x = nI j)) := by
    unfold m_Files_has
    refine ev_if (fun z => ev_some (Or.inl ⟨rfl, Or.inl z⟩)) (fun h0 => ?_)
    refine ev_bs ((oI_k hF.2.1).trans (congrArg some hl.2.1)) ?_
    rcases r_idx (n := nf) (by omega) h0 with ⟨z1, z2⟩ | ⟨z1, z2, j, hj, rfl⟩
    · rw [if_pos z1]
      exact ev_some (Or.inl ⟨rfl, Or.inr ⟨h0, z2⟩⟩)
    · rw [if_neg z1]
      exact ev_some (Or.inr ⟨rfl, h0, z2, j, hj, rfl⟩)
  unfold m_FR_file m_Md_file
  refine rel_r (mSI h2.1) ?_
  refine rel_l (xp75 hs) ?_
  refine rel_l (oK_k hF.2.1) ?_
  refine rel_el has (fun r hr => ?_)
  rcases hr with ⟨rfl, hr⟩ | ⟨rfl, z0, z2, j, hj, rfl⟩
  · rw [if_pos rfl]
    refine rel_ir (fun _ => rel_some ⟨rfl, fin⟩) (fun z => ?_)
    refine rel_r ((mI hm).trans (congrArg some hl.2.2)) ?_
    refine rel_ir (fun z2 => ?_) (fun _ => rel_some ⟨rfl, fin⟩)
    rcases hr with hr | hr
    · exact absurd hr z
    · exact absurd z2 hr.2
  · rw [if_neg (by decide), if_neg z0]
    refine rel_r ((mI hm).trans (congrArg some hl.2.2)) ?_
    rw [if_pos z2]
    have hf := hR.2.2.2.2.2.2.2.2.2 j hj
    refine rel_ii (fun _ => ?_) (fun _ => rel_ii (fun _ => ?_) (fun _ => rel_ii (fun _ => ?_) (fun _ => rel_ii (fun _ => ?_) (fun _ => rel_some ⟨rfl, fin⟩))))
    · exact rel_l (xp75 hs) (rel_l (oP_g hF.2.1 hF.2.2.1) (rel_l (oV_nI (n := 33) hF.2.2.2.1 (by omega) (by decide)) (rel_r (mP40 hm) (rel_r (mV31 hm (by omega)) (rel_some ⟨hf.1, fin⟩)))))
    · exact rel_l (xp75 hs) (rel_l (oP_g hF.2.1 hF.2.2.2.2.1) (rel_l (oV_nI (n := 33) hF.2.2.2.2.2.1 (by omega) (by decide)) (rel_r (mP41 hm) (rel_r (mV32 hm (by omega)) (rel_some ⟨hf.2.1, fin⟩)))))
    · exact rel_l (xp75 hs) (rel_l (oP_g hF.2.1 hF.2.2.2.2.2.2.1) (rel_l (oV_nI (n := 33) hF.2.2.2.2.2.2.2.1 (by omega) (by decide)) (rel_r (mP42 hm) (rel_r (mV33 hm (by omega)) (rel_some ⟨hf.2.2.1, fin⟩)))))
    · exact rel_l (xp75 hs) (rel_l (oP_g hF.2.1 hF.2.2.2.2.2.2.2.2.1) (rel_l (oV_nI (n := 33) hF.2.2.2.2.2.2.2.2.2 (by omega) (by decide)) (rel_r (mP43 hm) (rel_r (mV34 hm (by omega)) (rel_some ⟨hf.2.2.2, fin⟩)))))
theorem r_credential {b c : Nat} {σ τ : fr_S} (h : RR b c σ τ) (x y : Int32) : rel (m_FR_credential b x y σ) (m_Md_credential c x y τ) (fun q q' => q.1 = q'.1 ∧ RR b c q.2 q'.2) := by
  obtain ⟨h1, h2, np, nw, nk, nt, nl, nf, hR⟩ := id h
  refine RS_end ?_ (ev_mono (x_credential h1 x y) (fun _ z => z.2)) (ev_mono (md_credential h2 x y) (fun _ z => z.2))
  have hs := h1.1
  have hm : Sm c (pI τ 1 c 0) := h2.1
  have hR : RN b c np nw nk nt nl nf σ (pI τ 1 c 0) := hR
  have fin : RE b c σ (pI τ 1 c 0) := ⟨np, nw, nk, nt, nl, nf, hR⟩
  unfold m_FR_credential m_Md_credential
  refine rel_r (mSI h2.1) ?_
  refine rel_el (x_isHost x σ) (fun r hr => ?_)
  rcases hr with ⟨rfl, hr⟩ | ⟨rfl, e1, e2, j, hj, rfl⟩
  · rw [if_pos rfl]
    refine rel_ir (fun _ => rel_some ⟨rfl, fin⟩) (fun z => ?_)
    refine rel_ir (fun z2 => ?_) (fun _ => rel_some ⟨rfl, fin⟩)
    exact absurd ⟨z, Int32.not_le.mpr z2⟩ hr
  · rw [if_neg (by decide), if_neg e1, if_pos (Int32.not_le.mp e2)]
    refine rel_l (xp65 hs) ?_
    refine rel_l (sV_nI (n := 8) hs.1.2.1.2 hj (by decide)) ?_
    refine rel_r (mP4 hm) ?_
    refine rel_r (mS1 hm hj) ?_
    exact rel_some ⟨rfl, np, nw, nk, nt, nl, nf, RN_h1 hR⟩
theorem r_want {b c : Nat} {σ τ : fr_S} (h : RR b c σ τ) (x : Int32) : rel (m_FR_want b x σ) (m_Md_want c x τ) (fun q q' => q.1 = q'.1 ∧ RR b c q.2 q'.2) := by
  obtain ⟨h1, h2, np, nw, nk, nt, nl, nf, hR⟩ := id h
  refine RS_end ?_ (x_want h1 x) (md_want h2 x)
  have hs := h1.1
  have hm : Sm c (pI τ 1 c 0) := h2.1
  have hR : RN b c np nw nk nt nl nf σ (pI τ 1 c 0) := hR
  have hn := hR.1.2.1
  have fin : RE b c σ (pI τ 1 c 0) := ⟨np, nw, nk, nt, nl, nf, hR⟩
  unfold m_FR_want m_Md_want
  refine rel_r (mSI h2.1) ?_
  refine rel_l ((xI hs).trans (congrArg some hn.2.1)) ?_
  refine rel_r ((mI hm).trans (congrArg some hn.2.2)) ?_
  refine rel_il (fun h10 => ?_) (fun h10 => ?_)
  · rw [nI_lit10, nI_ltI (by omega) (by omega)] at h10
    refine rel_ir (fun z => ?_) (fun _ => ?_)
    · rw [nI_lit10] at z
      have := nI_inj (by omega) (by omega) z
      omega
    refine rel_l (xp69 hs) ?_
    refine rel_l ((xI hs).trans (congrArg some hn.2.1)) ?_
    refine rel_l (xW hs h10) ?_
    refine rel_l (sI_k (wt_k hs h10)) ?_
    refine rel_r (mP22 hm) ?_
    refine rel_r ((mI hm).trans (congrArg some hn.2.2)) ?_
    refine rel_r (mS14 hm h10) ?_
    have hR2 := RN_w451 (j := nw) (v := x) hR
    have hs2 : Sx b (pI σ 451 (b + 86 + 4 * nw) x) := hs
    have hm2 : Sm c (pA (pI τ 1 c 0) (c + 14) (upd (gV (pI τ 1 c 0) (c + 14)) nw x)) := hm
    generalize pI σ 451 (b + 86 + 4 * nw) x = σ2 at hR2 hs2 ⊢
    generalize pA (pI τ 1 c 0) (c + 14) (upd (gV (pI τ 1 c 0) (c + 14)) nw x) = τ2 at hR2 hm2 ⊢
    have hn2 := hR2.1.2.1
    refine rel_l ((xI hs2).trans (congrArg some hn2.2.1)) ?_
    refine rel_l (sI_k hs2.1.1) ?_
    refine rel_r ((mI hm2).trans (congrArg some hn2.2.2)) ?_
    refine rel_r (mSI hm2) ?_
    rw [nI_1]
    have hR3 := RN_cw (n := nw + 1) (by omega) hR2
    have hm3 : Sm c (pI τ2 7 c (nI (nw + 1))) := hm2
    refine rel_r ((mI hm3).trans (congrArg some hR3.1.2.1.2.2)) ?_
    exact rel_some ⟨show nI nw = nI (nw + 1) - 1 by rw [nI_sm (by omega)]; rfl, np, nw + 1, nk, nt, nl, nf, hR3⟩
  · rw [nI_lit10, nI_ltI (by omega) (by omega)] at h10
    have e : nw = 10 := by omega
    refine rel_ir (fun _ => rel_some ⟨rfl, fin⟩) (fun z => ?_)
    rw [e] at z
    exact absurd nI_lit10.symm z
