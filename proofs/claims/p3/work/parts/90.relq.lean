/-- a file put: on both sides the same one -/
theorem r_put {b c np nw nk nt nl nf j len s e : Nat} {σ τ : fr_S} {f : Nat → Nat} (hs : Sx b σ) (hR : RN b c np nw nk nt nl nf σ τ) (hC : CR σ (b + 87 + 4 * j) (b + 88 + 4 * j) len f) (hM : MR c j τ len f) (hF : FO c len nf τ) (hse : s ≤ e) (he : e < len) (hnf : nf < 33) : ∃ σ' τ' nf', m_Files_put (b + 33) (b + 87 + 4 * j) (nI s) (nI e) σ = some σ' ∧ m_Md_putFile c (nI (100 * j)) (nI (100 * j + s)) (nI (100 * j + e)) (nI (100 * j + (e + 1))) (nI (f e)) τ = some τ' ∧ nf' ≤ nf + 1 ∧ Sx b σ' ∧ RN b c np nw nk nt nl nf' σ' τ' ∧ CR σ' (b + 87 + 4 * j) (b + 88 + 4 * j) len f ∧ MR c j τ' len f ∧ FO c len nf' τ' ∧ gV τ' (c + 19) = gV τ (c + 19) := by
  have hm := hM.1
  have hj := hM.2.1
  have hl := hM.2.2.1
  have hf := hR.1.2.2.2.2.2
  have hT := hs.1.2.2.2.2.2.2.2.2
  have hRf := hR.2.2.2.2.2.2.2.2.2
  obtain ⟨i, hi, E, E'⟩ := r_find hs hR hC hM hF hse (by omega) (nI (100 * j + (e + 1))) (nI (f e)) 1000 0 (by omega) (by omega)
  rw [nI_0] at E E'
  have e33 : (33 : Int32) = nI 33 := by decide +kernel
  have d1 : nI (100 * j + s) - nI (100 * j) = nI s := by rw [pk_sub (by omega)]; congr 1; omega
  have d2 : nI (100 * j + e) - nI (100 * j + s) = nI (e - s) := by rw [pk_sub (by omega)]; congr 1; omega
  have d3 : nI (100 * j + (e + 1)) - nI (100 * j) = nI (e + 1) := by rw [pk_sub (by omega)]; congr 1; omega
  have i33 : i < 33 := by omega
  by_cases q : i = nf
  · subst q
    let σ1 := pA σ (b + 36) (upd (gV σ (b + 36)) i (nI s))
    let σ2 := pA σ1 (b + 37) (upd (gV σ1 (b + 37)) i (nI (e - s)))
    let σ3 := pI σ2 132 (b + 33) (nI (i + 1))
    let σ4 := pA σ3 (b + 34) (upd (gV σ3 (b + 34)) i (nI (e + 1)))
    let σ5 := pA σ4 (b + 35) (upd (gV σ4 (b + 35)) i (nI (f e)))
    let τ1 := pA τ (c + 33) (upd (gV τ (c + 33)) i (nI s))
    let τ2 := pA τ1 (c + 34) (upd (gV τ1 (c + 34)) i (nI (e - s)))
    let τ3 := pI τ2 39 c (nI (i + 1))
    let τ4 := pA τ3 (c + 31) (upd (gV τ3 (c + 31)) i (nI (e + 1)))
    let τ5 := pA τ4 (c + 32) (upd (gV τ4 (c + 32)) i (nI (f e)))
    have s1 : Sx b σ1 := hs
    have s3 : Sx b σ3 := hs
    have s4 : Sx b σ4 := hs
    have t1 : Sm c τ1 := hm
    have t2 : Sm c τ2 := hm
    have t3 : Sm c τ3 := hm
    have t4 : Sm c τ4 := hm
    have t5 : Sm c τ5 := hm
    have v34 : gV σ5 (b + 34) = upd (gV σ (b + 34)) i (nI (e + 1)) := by
      show gV (pA σ4 (b + 35) _) (b + 34) = _
      rw [gV_pAn (by omega)]
      show gV (pA σ3 (b + 34) _) (b + 34) = _
      rw [gV_pAs]
      show upd (gV (pA σ1 (b + 37) _) (b + 34)) i (nI (e + 1)) = _
      rw [gV_pAn (by omega)]
      show upd (gV (pA σ (b + 36) _) (b + 34)) i (nI (e + 1)) = _
      rw [gV_pAn (by omega)]
    have v35 : gV σ5 (b + 35) = upd (gV σ (b + 35)) i (nI (f e)) := by
      show gV (pA σ4 (b + 35) _) (b + 35) = _
      rw [gV_pAs]
      show upd (gV (pA σ3 (b + 34) _) (b + 35)) i (nI (f e)) = _
      rw [gV_pAn (by omega)]
      show upd (gV (pA σ1 (b + 37) _) (b + 35)) i (nI (f e)) = _
      rw [gV_pAn (by omega)]
      show upd (gV (pA σ (b + 36) _) (b + 35)) i (nI (f e)) = _
      rw [gV_pAn (by omega)]
    have v36 : gV σ5 (b + 36) = upd (gV σ (b + 36)) i (nI s) := by
      show gV (pA σ4 (b + 35) _) (b + 36) = _
      rw [gV_pAn (by omega)]
      show gV (pA σ3 (b + 34) _) (b + 36) = _
      rw [gV_pAn (by omega)]
      show gV (pA σ1 (b + 37) _) (b + 36) = _
      rw [gV_pAn (by omega)]
      show gV (pA σ (b + 36) _) (b + 36) = _
      rw [gV_pAs]
    have v37 : gV σ5 (b + 37) = upd (gV σ (b + 37)) i (nI (e - s)) := by
      show gV (pA σ4 (b + 35) _) (b + 37) = _
      rw [gV_pAn (by omega)]
      show gV (pA σ3 (b + 34) _) (b + 37) = _
      rw [gV_pAn (by omega)]
      show gV (pA σ1 (b + 37) _) (b + 37) = _
      rw [gV_pAs]
      show upd (gV (pA σ (b + 36) _) (b + 37)) i (nI (e - s)) = _
      rw [gV_pAn (by omega)]
    have vo : ∀ a, (a < b + 34 ∨ b + 37 < a) → gV σ5 a = gV σ a := by
      intro a ha
      show gV (pA σ4 (b + 35) _) a = _
      rw [gV_pAn (by omega)]
      show gV (pA σ3 (b + 34) _) a = _
      rw [gV_pAn (by omega)]
      show gV (pA σ1 (b + 37) _) a = _
      rw [gV_pAn (by omega)]
      show gV (pA σ (b + 36) _) a = _
      rw [gV_pAn (by omega)]
    have vi : ∀ g a, g ≠ 132 → gI σ5 g a = gI σ g a := fun g a hg => gI_pIf (σ := σ2) hg
    have vc : gI σ5 132 (b + 33) = nI (i + 1) := gI_pIs (σ := σ2)
    have u31 : gV τ5 (c + 31) = upd (gV τ (c + 31)) i (nI (e + 1)) := by
      show gV (pA τ4 (c + 32) _) (c + 31) = _
      rw [gV_pAn (by omega)]
      show gV (pA τ3 (c + 31) _) (c + 31) = _
      rw [gV_pAs]
      show upd (gV (pA τ1 (c + 34) _) (c + 31)) i (nI (e + 1)) = _
      rw [gV_pAn (by omega)]
      show upd (gV (pA τ (c + 33) _) (c + 31)) i (nI (e + 1)) = _
      rw [gV_pAn (by omega)]
    have u32 : gV τ5 (c + 32) = upd (gV τ (c + 32)) i (nI (f e)) := by
      show gV (pA τ4 (c + 32) _) (c + 32) = _
      rw [gV_pAs]
      show upd (gV (pA τ3 (c + 31) _) (c + 32)) i (nI (f e)) = _
      rw [gV_pAn (by omega)]
      show upd (gV (pA τ1 (c + 34) _) (c + 32)) i (nI (f e)) = _
      rw [gV_pAn (by omega)]
      show upd (gV (pA τ (c + 33) _) (c + 32)) i (nI (f e)) = _
      rw [gV_pAn (by omega)]
    have u33 : gV τ5 (c + 33) = upd (gV τ (c + 33)) i (nI s) := by
      show gV (pA τ4 (c + 32) _) (c + 33) = _
      rw [gV_pAn (by omega)]
      show gV (pA τ3 (c + 31) _) (c + 33) = _
      rw [gV_pAn (by omega)]
      show gV (pA τ1 (c + 34) _) (c + 33) = _
      rw [gV_pAn (by omega)]
      show gV (pA τ (c + 33) _) (c + 33) = _
      rw [gV_pAs]
    have u34 : gV τ5 (c + 34) = upd (gV τ (c + 34)) i (nI (e - s)) := by
      show gV (pA τ4 (c + 32) _) (c + 34) = _
      rw [gV_pAn (by omega)]
      show gV (pA τ3 (c + 31) _) (c + 34) = _
      rw [gV_pAn (by omega)]
      show gV (pA τ1 (c + 34) _) (c + 34) = _
      rw [gV_pAs]
      show upd (gV (pA τ (c + 33) _) (c + 34)) i (nI (e - s)) = _
      rw [gV_pAn (by omega)]
    have uo : ∀ a, (a < 31 ∨ 34 < a) → gV τ5 (c + a) = gV τ (c + a) := by
      intro a ha
      show gV (pA τ4 (c + 32) _) (c + a) = _
      rw [gV_pAn (by omega)]
      show gV (pA τ3 (c + 31) _) (c + a) = _
      rw [gV_pAn (by omega)]
      show gV (pA τ1 (c + 34) _) (c + a) = _
      rw [gV_pAn (by omega)]
      show gV (pA τ (c + 33) _) (c + a) = _
      rw [gV_pAn (by omega)]
    have ui : ∀ g, g ≠ 39 → gI τ5 g c = gI τ g c := fun g hg => gI_pIf (σ := τ2) hg
    have uc : gI τ5 39 c = nI (i + 1) := gI_pIs (σ := τ2)
    have cr4 : CR σ4 (b + 87 + 4 * j) (b + 88 + 4 * j) len f := by
      refine CR_mk hC hC.1 (show gI (pI σ2 132 (b + 33) (nI (i + 1))) 257 (b + 87 + 4 * j) = gI σ2 257 (b + 87 + 4 * j) from gI_pIf (by decide)) ?_
      show gV (pA σ3 (b + 34) _) (b + 88 + 4 * j) = _
      rw [gV_pAn (by omega)]
      show gV (pA σ1 (b + 37) _) (b + 88 + 4 * j) = _
      rw [gV_pAn (by omega)]
      show gV (pA σ (b + 36) _) (b + 88 + 4 * j) = _
      rw [gV_pAn (by omega)]
    refine ⟨σ5, τ5, i + 1, ?_, ?_, by omega, hs, ?_, CR_mk hC hC.1 (vi 257 _ (by decide)) (vo _ (by omega)), MR_mk hM t5 (uo 20 (by decide)), fun k hk => ?_, uo 19 (by decide)⟩
    · unfold m_Files_put
      rw [pk_sub hse]
      refine obs (oK_k hT.2.1) (obs (show m_Files_findPath (b + 33) (b + 87 + 4 * j) (nI s) (nI (e - s)) σ = some (nI i) from E) (oif_p (by rw [e33, nI_ltI (by omega) (by omega)]; exact i33) (obs ((oI_k hT.2.1).trans (congrArg some hf.2.1)) (oif_p rfl ?_))))
      refine obs (oP_g hT.2.1 hT.2.2.2.2.2.2.1) (obs (sV_nI (n := 33) hT.2.2.2.2.2.2.2.1 i33 (by decide)) ?_)
      refine obs (oP_g (σ := σ1) hT.2.1 hT.2.2.2.2.2.2.2.2.1) (obs (sV_nI (σ := σ1) (n := 33) hT.2.2.2.2.2.2.2.2.2 i33 (by decide)) ?_)
      refine obs (Eq.trans (oI_k (σ := σ2) hT.2.1) (congrArg some (show gI σ2 132 (b + 33) = nI i from hf.2.1))) ?_
      rw [nI_1, nI_1]
      refine obs (sI_k (σ := σ2) hT.2.1) ?_
      refine obs (oP_g (σ := σ3) hT.2.1 hT.2.2.1) (obs (sV_nI (σ := σ3) (n := 33) hT.2.2.2.1 i33 (by decide)) ?_)
      exact obs (oP_g (σ := σ4) hT.2.1 hT.2.2.2.2.1) (obs (oK_k (σ := σ4) hC.1.1) (obs (cr_at cr4 he) (obs (sV_nI (σ := σ4) (n := 33) hT.2.2.2.2.2.1 i33 (by decide)) rfl)))
    · unfold m_Md_putFile
      rw [E']
      unfold pT
      rw [d1, d2, d3]
      refine obs ((mI hm).trans (congrArg some hf.2.2)) (oif_p rfl ?_)
      refine obs (mP42 hm) (obs (mS33 hm (by omega)) (obs (mP43 t1) (obs (mS34 t1 (by omega)) ?_)))
      refine obs (Eq.trans (mI t2) (congrArg some (show gI τ2 39 c = nI i from hf.2.2))) ?_
      rw [nI_1]
      exact obs (mSI t2) (obs (mP40 t3) (obs (mS31 t3 (by omega)) (obs (mP41 t4) (obs (mS32 t4 (by omega)) rfl))))
    · refine RN_fi hR vi vo ui uo ⟨by omega, vc, uc⟩ (fun k hk => ?_)
      rw [v34, v35, v36, v37, u31, u32, u33, u34]
      by_cases ek : k = i
      · rw [ek, upd_s, upd_s, upd_s, upd_s, upd_s, upd_s, upd_s, upd_s]
        exact ⟨rfl, rfl, rfl, rfl⟩
      · rw [upd_n ek, upd_n ek, upd_n ek, upd_n ek, upd_n ek, upd_n ek, upd_n ek, upd_n ek]
        exact hRf k (by omega)
    · rw [u33, u34]
      by_cases ek : k = i
      · rw [ek, upd_s, upd_s]
        exact ⟨s, e - s, by omega, rfl, rfl⟩
      · rw [upd_n ek, upd_n ek]
        exact hF k (by omega)
  · have hne : ¬ nI i = nI nf := fun z => q (nI_inj (by omega) (by omega) z)
    let σ1 := pA σ (b + 34) (upd (gV σ (b + 34)) i (nI (e + 1)))
    let σ2 := pA σ1 (b + 35) (upd (gV σ1 (b + 35)) i (nI (f e)))
    let τ1 := pA τ (c + 31) (upd (gV τ (c + 31)) i (nI (e + 1)))
    let τ2 := pA τ1 (c + 32) (upd (gV τ1 (c + 32)) i (nI (f e)))
    have t1 : Sm c τ1 := hm
    have t2 : Sm c τ2 := hm
    have v34 : gV σ2 (b + 34) = upd (gV σ (b + 34)) i (nI (e + 1)) := by
      show gV (pA σ1 (b + 35) _) (b + 34) = _
      rw [gV_pAn (by omega)]
      show gV (pA σ (b + 34) _) (b + 34) = _
      rw [gV_pAs]
    have v35 : gV σ2 (b + 35) = upd (gV σ (b + 35)) i (nI (f e)) := by
      show gV (pA σ1 (b + 35) _) (b + 35) = _
      rw [gV_pAs]
      show upd (gV (pA σ (b + 34) _) (b + 35)) i (nI (f e)) = _
      rw [gV_pAn (by omega)]
    have vo : ∀ a, a ≠ b + 34 → a ≠ b + 35 → gV σ2 a = gV σ a := by
      intro a a1 a2
      show gV (pA σ1 (b + 35) _) a = _
      rw [gV_pAn a2]
      show gV (pA σ (b + 34) _) a = _
      rw [gV_pAn a1]
    have u31 : gV τ2 (c + 31) = upd (gV τ (c + 31)) i (nI (e + 1)) := by
      show gV (pA τ1 (c + 32) _) (c + 31) = _
      rw [gV_pAn (by omega)]
      show gV (pA τ (c + 31) _) (c + 31) = _
      rw [gV_pAs]
    have u32 : gV τ2 (c + 32) = upd (gV τ (c + 32)) i (nI (f e)) := by
      show gV (pA τ1 (c + 32) _) (c + 32) = _
      rw [gV_pAs]
      show upd (gV (pA τ (c + 31) _) (c + 32)) i (nI (f e)) = _
      rw [gV_pAn (by omega)]
    have uo : ∀ a, a ≠ 31 → a ≠ 32 → gV τ2 (c + a) = gV τ (c + a) := by
      intro a a1 a2
      show gV (pA τ1 (c + 32) _) (c + a) = _
      rw [gV_pAn (by omega)]
      show gV (pA τ (c + 31) _) (c + a) = _
      rw [gV_pAn (by omega)]
    have cr1 : CR σ1 (b + 87 + 4 * j) (b + 88 + 4 * j) len f := CR_mk hC hC.1 rfl (gV_pAn (by omega))
    refine ⟨σ2, τ2, nf, ?_, ?_, by omega, hs, ?_, CR_mk hC hC.1 rfl (vo _ (by omega) (by omega)), MR_mk hM t2 (uo 20 (by decide) (by decide)), fun k hk => ?_, uo 19 (by decide) (by decide)⟩
    · unfold m_Files_put
      rw [pk_sub hse]
      refine obs (oK_k hT.2.1) (obs (show m_Files_findPath (b + 33) (b + 87 + 4 * j) (nI s) (nI (e - s)) σ = some (nI i) from E) (oif_p (by rw [e33, nI_ltI (by omega) (by omega)]; exact i33) (obs ((oI_k hT.2.1).trans (congrArg some hf.2.1)) (oif_n hne ?_))))
      rw [nI_1]
      exact obs (oP_g hT.2.1 hT.2.2.1) (obs (sV_nI (n := 33) hT.2.2.2.1 i33 (by decide)) (obs (oP_g (σ := σ1) hT.2.1 hT.2.2.2.2.1) (obs (oK_k (σ := σ1) hC.1.1) (obs (cr_at cr1 he) (obs (sV_nI (σ := σ1) (n := 33) hT.2.2.2.2.2.1 i33 (by decide)) rfl)))))
    · unfold m_Md_putFile
      rw [E']
      unfold pT
      rw [d3]
      exact obs ((mI hm).trans (congrArg some hf.2.2)) (oif_n hne (obs (mP40 hm) (obs (mS31 hm (by omega)) (obs (mP41 t1) (obs (mS32 t1 (by omega)) rfl)))))
    · refine RN_fi hR (fun _ _ _ => rfl) (fun a ha => vo a (by omega) (by omega)) (fun _ _ => rfl) (fun a ha => uo a (by omega) (by omega)) ⟨hf.1, hf.2.1, hf.2.2⟩ (fun k hk => ?_)
      rw [v34, v35, u31, u32, vo (b + 36) (by omega) (by omega), vo (b + 37) (by omega) (by omega), uo 33 (by decide) (by decide), uo 34 (by decide) (by decide)]
      obtain ⟨g1, g2, g3, g4⟩ := hRf k hk
      by_cases ek : k = i
      · rw [ek, upd_s, upd_s, upd_s, upd_s]
        rw [ek] at g3 g4
        exact ⟨rfl, rfl, g3, g4⟩
      · rw [upd_n ek, upd_n ek, upd_n ek, upd_n ek]
        exact ⟨g1, g2, g3, g4⟩
    · rw [uo 33 (by decide) (by decide), uo 34 (by decide) (by decide)]
      exact hF k hk
