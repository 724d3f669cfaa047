theorem r_ask_L {b c np nw nk nt nl nf : Nat} : ∀ (n k i : Nat) (y : Int32) (σ τ : fr_S), XI b σ → Sm c τ → RN b c np nw nk nt nl nf σ τ → (∀ i, i < np → gV τ (c + 6) i = -1 ∨ ∃ j, j < np ∧ gV τ (c + 6) i = nI j) → i < np → k ≤ 3 → 3 - k < n → rel (m_FR_ask_L36 n b (nI i) y (nI k) σ) (m_Md_ask_L40 n c (nI i) y (nI k) τ) (fun q q' => q.1 = q'.1 ∧ (q.1 = -1 ∨ ∃ j, j < np ∧ q.1 = nI j) ∧ RN b c np nw nk nt nl nf q.2 q'.2 ∧ XI b q.2 ∧ Sm c q'.2) := by
  intro n
  induction n with
  | zero => intro k i y σ τ _ _ _ _ _ _ h; omega
  | succ n ih =>
    intro k i y σ τ h1 hm hR hle hi hk hn
    have hs := h1.1
    have hnp := hR.1.1.1
    have hi16 : i < 16 := by omega
    have hkp := pl_k hs hi16
    obtain ⟨p1, p2, p3, p4, p5, p6, p7, p8, p9, p10⟩ := hR.2.2.2.1 i hi16
    have p9 := p9 hi
    have fin : ∀ r : Int32, (r = -1 ∨ ∃ j, j < np ∧ r = nI j) → rel (some (r, σ)) (some (r, τ)) (fun q q' => q.1 = q'.1 ∧ (q.1 = -1 ∨ ∃ j, j < np ∧ q.1 = nI j) ∧ RN b c np nw nk nt nl nf q.2 q'.2 ∧ XI b q.2 ∧ Sm c q'.2) := fun r hr => rel_some ⟨rfl, hr, hR, h1, hm⟩
    have no : (-1 : Int32) = -1 ∨ ∃ j, j < np ∧ (-1 : Int32) = nI j := Or.inl rfl
    have yes : nI i = -1 ∨ ∃ j, j < np ∧ nI i = nI j := Or.inr ⟨i, hi, rfl⟩
    have gv : ∀ o' : Option (Int32 × fr_S), (rel (if gI σ 198 (b + 38 + 3 * i) = 0 ∧ gI σ 195 (b + 38 + 3 * i) = -1 ∧ (y = 0 → gI σ 199 (b + 38 + 3 * i) = 0) then some (nI i, σ) else some (-1, σ)) o' (fun q q' => q.1 = q'.1 ∧ (q.1 = -1 ∨ ∃ j, j < np ∧ q.1 = nI j) ∧ RN b c np nw nk nt nl nf q.2 q'.2 ∧ XI b q.2 ∧ Sm c q'.2)) → rel ((oP σ 1 67 b).bind fun q12 => (oQ σ 2 q12 (nI i)).bind fun q13 => (oK σ 3 q13).bind fun _ => (m_Place_gives q13 y σ).bind fun r15 => if r15 = 0 then some ((-1 : Int32), σ) else some (nI i, σ)) o' (fun q q' => q.1 = q'.1 ∧ (q.1 = -1 ∨ ∃ j, j < np ∧ q.1 = nI j) ∧ RN b c np nw nk nt nl nf q.2 q'.2 ∧ XI b q.2 ∧ Sm c q'.2) := by
      intro o' ho
      refine rel_l (xp67 hs) ?_
      refine rel_l (xP hs hi16) ?_
      refine rel_l (oK_k hkp) ?_
      refine rel_l (gives_eq hkp) ?_
      by_cases e : gI σ 198 (b + 38 + 3 * i) = 0 ∧ gI σ 195 (b + 38 + 3 * i) = -1 ∧ (y = 0 → gI σ 199 (b + 38 + 3 * i) = 0)
      · rw [if_pos e] at ho
        rw [if_pos e]
        exact rel_ln (by decide) ho
      · rw [if_neg e] at ho
        rw [if_neg e]
        exact rel_lp rfl ho
    unfold m_FR_ask_L36 m_Md_ask_L40
    refine rel_r (mP18 hm) ?_
    refine rel_r (mV10 hm hi16) ?_
    by_cases G : gV τ (c + 10) i = 0
    · refine rel_rp G ?_
      refine rel_r (mP14 hm) ?_
      refine rel_r (mV6 hm hi16) ?_
      by_cases L : gV τ (c + 6) i = -1
      · refine rel_rp L ?_
        refine rel_r (mP18 hm) ?_
        refine rel_r (mV10 hm hi16) ?_
        refine rel_rp G ?_
        refine rel_r (mP19 hm) ?_
        refine rel_r (mV11 hm hi16) ?_
        have last : rel (if gI σ 198 (b + 38 + 3 * i) = 0 ∧ gI σ 195 (b + 38 + 3 * i) = -1 ∧ (y = 0 → gI σ 199 (b + 38 + 3 * i) = 0) then some (nI i, σ) else some (-1, σ)) (if gV τ (c + 11) i = 0 then some (nI i, τ) else if y = 0 then some ((-1 : Int32), τ) else some (nI i, τ)) (fun q q' => q.1 = q'.1 ∧ (q.1 = -1 ∨ ∃ j, j < np ∧ q.1 = nI j) ∧ RN b c np nw nk nt nl nf q.2 q'.2 ∧ XI b q.2 ∧ Sm c q'.2) := by
          rw [p4, p5, p9]
          by_cases W : gV τ (c + 11) i = 0
          · exact rel_lp ⟨G, L, fun _ => W⟩ (rel_rp W (fin _ yes))
          · refine rel_rn W ?_
            by_cases Y : y = 0
            · exact rel_rp Y (rel_ln (fun z => W (z.2.2 Y)) (fin _ no))
            · exact rel_rn Y (rel_lp ⟨G, L, fun z => absurd z Y⟩ (fin _ yes))
        refine rel_il (fun _ => gv _ last) (fun _ => ?_)
        refine rel_l (xp67 hs) ?_
        refine rel_l (xP hs hi16) ?_
        refine rel_l (oK_k hkp) ?_
        refine rel_l ((leads_eq hkp).trans (congrArg some (if_neg (fun z => z.2 (p9.trans L))))) ?_
        exact rel_lp rfl (gv _ last)
      · refine rel_rn L ?_
        rcases hle i hi with z | ⟨j, hj, hje⟩
        · exact absurd z L
        have hj16 : j < 16 := by omega
        by_cases K : k = 3
        · subst K
          refine rel_rp nI_v3 (rel_lp (by rw [nI_v3]; decide) (gv _ ?_))
          exact rel_ln (fun z => L (p9.symm.trans z.2.1)) (fin _ no)
        · refine rel_rn (fun z => K (nI_inj (by omega) (by omega) (z.trans nI_v3.symm))) ?_
          refine rel_ln (fun z => ?_) ?_
          · rw [← nI_v3, nI_leI (by omega) (by omega)] at z
            omega
          refine rel_l (xp67 hs) ?_
          refine rel_l (xP hs hi16) ?_
          refine rel_l (oK_k hkp) ?_
          refine rel_l ((leads_eq hkp).trans (congrArg some (if_pos ⟨p4.trans G, fun z => L (p9.symm.trans z)⟩))) ?_
          refine rel_ln (by decide) ?_
          refine rel_l (xp67 hs) ?_
          refine rel_l (xP hs hi16) ?_
          refine rel_l ((oI_k hkp).trans (congrArg some (p9.trans hje))) ?_
          refine rel_r (mP14 hm) ?_
          refine rel_r ((mV6 hm hi16).trans (congrArg some hje)) ?_
          obtain ⟨⟨g, hg, hge⟩, -⟩ := xpl h1 hj16
          have hge2 : gV τ (c + 3) j = nI g := (hR.2.2.2.1 j hj16).1.symm.trans hge
          have zero : rel ((oK σ 1 b).bind fun _ => (m_FR_countSent b (nI j) 0 σ).bind fun σ_32 => m_FR_ask_L36 n b (nI j) 0 (nI k + 1) σ_32) ((oP τ 0 5 c).bind fun q36 => (oP τ 0 11 c).bind fun q37 => (oV τ 0 q37 (nI j)).bind fun v38 => (oV τ 0 q36 v38).bind fun v39 => (sV τ 0 q36 v38 (v39 + 0)).bind fun σ_41 => m_Md_ask_L40 n c (nI j) 0 (nI k + 1) σ_41) (fun q q' => q.1 = q'.1 ∧ (q.1 = -1 ∨ ∃ j, j < np ∧ q.1 = nI j) ∧ RN b c np nw nk nt nl nf q.2 q'.2 ∧ XI b q.2 ∧ Sm c q'.2) := by
            refine rel_l (xK hs) ?_
            refine rel_l (r_count hs hR hj16 hg hge (Or.inl rfl)) ?_
            rw [if_pos rfl]
            refine rel_r (mP5 hm) ?_
            refine rel_r (mP11 hm) ?_
            refine rel_r ((mV3 hm hj16).trans (congrArg some hge2)) ?_
            refine rel_r (mV2 hm hg) ?_
            refine rel_r (mS2 hm hg) ?_
            rw [pA_same, nI_1]
            exact ih (k + 1) j 0 σ τ h1 hm hR hle hj (by omega) (by omega)
          refine rel_ii (fun _ => zero) (fun Y => ?_)
          refine rel_l (xp67 hs) ?_
          refine rel_l (xP hs hj16) ?_
          refine rel_l ((oI_k (pl_k hs hj16)).trans (congrArg some hge)) ?_
          refine rel_l (xp67 hs) ?_
          refine rel_l (xP hs hi16) ?_
          refine rel_l ((oI_k hkp).trans (congrArg some p1)) ?_
          refine rel_r (mP11 hm) ?_
          refine rel_r ((mV3 hm hj16).trans (congrArg some hge2)) ?_
          refine rel_r (mP11 hm) ?_
          refine rel_r (mV3 hm hi16) ?_
          refine rel_ii (fun _ => ?_) (fun _ => zero)
          refine rel_l (xK hs) ?_
          refine rel_l (r_count (y := 1) hs hR hj16 hg hge (Or.inr (by decide))) ?_
          rw [if_neg (show ¬ (1 : Int32) = 0 by decide)]
          refine rel_r (mP5 hm) ?_
          refine rel_r (mP11 hm) ?_
          refine rel_r ((mV3 hm hj16).trans (congrArg some hge2)) ?_
          refine rel_r (mV2 hm hg) ?_
          refine rel_r (mS2 hm hg) ?_
          rw [nI_1]
          refine ih (k + 1) j 1 _ _ (XI_oA h1 (by omega)) hm (RN_h2 hR) (fun i hi => ?_) hj (by omega) (by omega)
          rw [gV_pAn (by omega)]
          exact hle i hi
    · refine rel_rn G ?_
      refine rel_r (mP18 hm) ?_
      refine rel_r (mV10 hm hi16) ?_
      refine rel_rn G ?_
      have last : rel (if gI σ 198 (b + 38 + 3 * i) = 0 ∧ gI σ 195 (b + 38 + 3 * i) = -1 ∧ (y = 0 → gI σ 199 (b + 38 + 3 * i) = 0) then some (nI i, σ) else some (-1, σ)) (some ((-1 : Int32), τ)) (fun q q' => q.1 = q'.1 ∧ (q.1 = -1 ∨ ∃ j, j < np ∧ q.1 = nI j) ∧ RN b c np nw nk nt nl nf q.2 q'.2 ∧ XI b q.2 ∧ Sm c q'.2) := rel_ln (fun z => G (p4.symm.trans z.1)) (fin _ no)
      refine rel_il (fun _ => gv _ last) (fun _ => ?_)
      refine rel_l (xp67 hs) ?_
      refine rel_l (xP hs hi16) ?_
      refine rel_l (oK_k hkp) ?_
      refine rel_l ((leads_eq hkp).trans (congrArg some (if_neg (fun z => G (p4.symm.trans z.1))))) ?_
      exact rel_lp rfl (gv _ last)
theorem r_ask {b c np nw nk nt nl nf p : Nat} {σ τ : fr_S} (h1 : XI b σ) (hm : Sm c τ) (hR : RN b c np nw nk nt nl nf σ τ) (hle : ∀ i, i < np → gV τ (c + 6) i = -1 ∨ ∃ j, j < np ∧ gV τ (c + 6) i = nI j) (hp : p < np) : rel (m_FR_ask b (nI p) σ) (m_Md_ask c (nI p) τ) (fun q q' => q.1 = q'.1 ∧ (q.1 = -1 ∨ ∃ j, j < np ∧ q.1 = nI j) ∧ RN b c np nw nk nt nl nf q.2 q'.2 ∧ XI b q.2 ∧ Sm c q'.2) := by
  have hs := h1.1
  have hn := hR.1.1
  have hp16 : p < 16 := by omega
  obtain ⟨⟨g, hg, hge⟩, -⟩ := xpl h1 hp16
  have hge2 : gV τ (c + 3) p = nI g := (hR.2.2.2.1 p hp16).1.symm.trans hge
  have isP : m_FR_isPlace b (nI p) σ = some 1 := by
    unfold m_FR_isPlace
    rw [if_neg (nI_pos (by omega)), (xI hs).trans (congrArg some hn.2.1)]
    show (if nI np ≤ nI p then some (0 : Int32) else some 1) = some 1
    rw [if_neg (by rw [nI_leI (by omega) (by omega)]; omega)]
  unfold m_FR_ask m_Md_ask
  refine rel_l (xK hs) ?_
  refine rel_l isP ?_
  refine rel_ln (by decide) ?_
  refine rel_l (xp65 hs) ?_
  refine rel_l (xp67 hs) ?_
  refine rel_l (xP hs hp16) ?_
  refine rel_l ((oI_k (pl_k hs hp16)).trans (congrArg some hge)) ?_
  refine rel_l ((oV_nI (n := 8) hs.1.2.1.2 hg (by decide)).trans (congrArg some (hR.2.2.1.1 g hg))) ?_
  refine rel_l (xK hs) ?_
  refine rel_l (r_count hs hR hp16 hg hge (Classical.em _)) ?_
  refine rel_r (mP4 hm) ?_
  refine rel_r (mP11 hm) ?_
  refine rel_r ((mV3 hm hp16).trans (congrArg some hge2)) ?_
  refine rel_r (mV1 hm hg) ?_
  refine rel_r (mP5 hm) ?_
  refine rel_r (mP11 hm) ?_
  refine rel_r ((mV3 hm hp16).trans (congrArg some hge2)) ?_
  refine rel_r (mV2 hm hg) ?_
  by_cases e : gV τ (c + 1) g = 0
  · rw [if_pos e]
    refine rel_rp e ?_
    refine rel_r (mS2 hm hg) ?_
    rw [pA_same]
    have key := r_ask_L 1000 0 p (gV τ (c + 1) g) σ τ h1 hm hR hle hp (by omega) (by omega)
    rw [nI_0] at key
    exact key
  · rw [if_neg e]
    refine rel_rn e ?_
    refine rel_r (mS2 hm hg) ?_
    have key := r_ask_L 1000 0 p (gV τ (c + 1) g) _ (pA τ (c + 2) (upd (gV τ (c + 2)) g (gV τ (c + 2) g + 1))) (XI_oA h1 (a := b + 2) (u := upd (gV σ (b + 2)) g (gV τ (c + 2) g + 1)) (by omega)) hm (RN_h2 (j := g) (v := gV τ (c + 2) g + 1) hR) (fun i hi => by rw [gV_pAn (by omega)]; exact hle i hi) hp (by omega) (by omega)
    rw [nI_0] at key
    exact key
