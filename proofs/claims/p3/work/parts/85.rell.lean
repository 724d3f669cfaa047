/-! a turn of the clock -/
theorem min_nI {a b : Nat} (ha : a < 2 ^ 31) (hb : b < 2 ^ 31) : (if nI a < nI b then nI a else nI b) = nI (min b a) := by
  by_cases e : a < b
  · rw [if_pos (by rw [nI_ltI ha hb]; exact e), Nat.min_eq_right (by omega)]
  · rw [if_neg (by rw [nI_ltI ha hb]; exact e), Nat.min_eq_left (by omega)]
theorem pA_sam {τ : fr_S} {a h : Nat} {v : Int32} (hv : gV τ a h = v) : pA τ a (upd (gV τ a) h v) = τ := by
  have e := pA_same (τ := τ) (a := a) (h := h)
  rw [Int32.add_zero, hv] at e
  exact e
/-- what the reference does behind the asking -/
def gT (c : Nat) (x1 i : Int32) (σ : fr_S) : Option fr_S :=
  (oP σ 0 15 c).bind fun q11 => (oV σ 0 q11 i).bind fun v12 =>
  if v12 ≤ 0 then
    (oP σ 0 12 c).bind fun q15 => (oV σ 0 q15 i).bind fun v16 => (oP σ 0 15 c).bind fun q17 => (oV σ 0 q17 i).bind fun v18 => (sV σ 0 q17 i (v18 - 0)).bind fun σ_20 => m_Md_turn_L122 1000 c x1 i 0 v16 0 σ_20
  else
    (oP σ 0 16 c).bind fun q22 => (oV σ 0 q22 i).bind fun v23 => (oP σ 0 12 c).bind fun q24 => (oV σ 0 q24 i).bind fun v25 =>
    if v25 ≤ v23 then
      (oP σ 0 12 c).bind fun q27 => (oV σ 0 q27 i).bind fun v28 => (oP σ 0 15 c).bind fun q29 => (oV σ 0 q29 i).bind fun v30 => (sV σ 0 q29 i (v30 - 1)).bind fun σ_32 => m_Md_turn_L122 1000 c x1 i 1 v28 0 σ_32
    else
      (oP σ 0 16 c).bind fun q33 => (oV σ 0 q33 i).bind fun v34 => (oP σ 0 15 c).bind fun q35 => (oV σ 0 q35 i).bind fun v36 => (sV σ 0 q35 i (v36 - 1)).bind fun σ_38 => m_Md_turn_L122 1000 c x1 i 1 v34 0 σ_38
theorem r_giveTo {b c np nw nk nt nl nf i j : Nat} {σ τ : fr_S} (h1 : XI b σ) (h2 : MI c τ) (hR : RN b c np nw nk nt nl nf σ τ) (hi : i < np) (hj : j < 10) (hb : gV τ (c + 17) j = 1) : ∃ y σ' τ', m_Place_giveTo (b + 38 + 3 * i) (b + 87 + 4 * j) σ = some (y, σ') ∧ gT c (nI j) (nI i) τ = mT c i j y τ' ∧ RN b c np nw nk nt nl nf σ' τ' ∧ XI b σ' ∧ MI c τ' ∧ gV τ' (c + 17) j = 1 := by
  have hs := h1.1
  have hm := h2.1
  have hnp := hR.1.1
  have hi16 : i < 16 := by omega
  have hk := pl_k hs hi16
  obtain ⟨-, np', nw', nk', nt', nl', nf', re, a1, a2, a3, a4, a5, a6, a7, a8, a9, a10, a11, a12, a13, a14, a15, a16, a17, a18⟩ := id h2
  have enp : np' = np := nI_inj (by omega) (by omega) (a1.2.symm.trans hnp.2.2)
  subst enp
  obtain ⟨⟨sz, sz1, sz2⟩, ⟨cu, cu1, cu2⟩, ⟨cb, cb1, cb2⟩⟩ := a9 i hi16
  obtain ⟨-, ⟨ra, ra1, ra2, ra3⟩, -⟩ := a8 i hi
  obtain ⟨-, ⟨z, z1, z2⟩, -⟩ := a12 j hj
  obtain ⟨p1, p2, p3, p4, p5, p6, p7, p8, p9, p10⟩ := hR.2.2.2.1 i hi16
  have p8 := (p8 hi).trans ra3
  have p2 := p2.trans cu2
  have p3 := p3.trans cb2
  have hl : gI σ 257 (b + 39 + 3 * i) = nI sz := (hR.2.2.2.2.1 i hi16).1.trans sz2
  have hl2 : gI σ 257 (b + 87 + 4 * j) = nI z := ((hR.2.2.2.2.2.1 j hj).2.2.2.2.2.2.2 (by rw [hb]; decide)).1.trans z2
  have kp := row_k h1 (pr_p hi16)
  have kw := row_k h1 (pr_w hj)
  by_cases e0 : cu = 0
  · obtain ⟨σ', τ', E, E', rest⟩ := r_give_L (i := i) (j := j) (q := ra) (sz := sz) (k0 := z) hi16 hj sz1 (by omega) 0 (Or.inl rfl) rfl 1000 0 σ τ h1 h2 hR hb sz2 z2 (by omega) (by omega) (by omega)
    refine ⟨0, σ', τ', ?_, ?_, rest⟩
    · unfold m_Place_giveTo
      refine obs ((oI_k hk).trans (congrArg some p2)) (oif_p (by rw [e0, nI_0]; exact Int32.le_refl 0) ?_)
      refine obs ((oI_k hk).trans (congrArg some p8)) (obs (pl_r hs hi16) (obs ((oI_k kp).trans (congrArg some hl)) (obs ((oI_k kw).trans (congrArg some hl2)) (obs ((oI_k kw).trans (congrArg some hl2)) ?_))))
      rw [nI_add, min_nI (by omega) (by omega)]
      exact E
    · unfold gT
      refine obs (mP15 hm) (obs ((mV7 hm hi16).trans (congrArg some cu2)) (oif_p (by rw [e0, nI_0]; exact Int32.le_refl 0) ?_))
      refine obs (mP12 hm) (obs ((mV4 hm hi16).trans (congrArg some ra3)) (obs (mP15 hm) (obs ((mV7 hm hi16).trans (congrArg some cu2)) ?_)))
      rw [nI_s0]
      refine obs (mS7 hm hi16) ?_
      rw [pA_sam cu2]
      rw [nI_0] at E'
      exact E'
  · have npos : ¬ nI cu ≤ 0 := fun q => by
      rw [← nI_0, nI_leI (by omega) (by omega)] at q
      omega
    have hRc := RN_p196 (j := i) (v := nI (cu - 1)) hR
    have h1c : XI b (pI σ 196 (b + 38 + 3 * i) (nI (cu - 1))) := XI_o h1 (by decide) (by decide)
    have h2c := MI_cu (p := i) (t := cu - 1) h2 (by omega)
    obtain ⟨σ', τ', E, E', rest⟩ := r_give_L (i := i) (j := j) (q := min ra cb) (sz := sz) (k0 := z) hi16 hj sz1 (by omega) 1 (Or.inr rfl) rfl 1000 0 _ _ h1c h2c hRc (by rw [gV_pAn (by omega)]; exact hb) (by rw [gV_pAn (by omega)]; exact sz2) (by rw [gV_pAn (by omega)]; exact z2) (by omega) (by omega) (by omega)
    rw [nI_0] at E'
    refine ⟨1, σ', τ', ?_, ?_, rest⟩
    · unfold m_Place_giveTo
      refine obs ((oI_k hk).trans (congrArg some p2)) (oif_n npos ?_)
      refine obs ((oI_k hk).trans (congrArg some p8)) (obs ((oI_k hk).trans (congrArg some p2)) (obs (sI_k hk) ?_))
      rw [nI_sm (by omega)]
      refine obs (Eq.trans (oI_k (σ := pI σ 196 (b + 38 + 3 * i) (nI (cu - 1))) hk) (congrArg some (show _ = nI cb by rw [gI_pIf (by decide)]; exact p3))) (obs (pl_r (σ := pI σ 196 (b + 38 + 3 * i) (nI (cu - 1))) hs hi16) (obs (Eq.trans (oI_k (σ := pI σ 196 (b + 38 + 3 * i) (nI (cu - 1))) kp) (congrArg some (show _ = nI sz by rw [gI_pIf (by decide)]; exact hl))) (obs (Eq.trans (oI_k (σ := pI σ 196 (b + 38 + 3 * i) (nI (cu - 1))) kw) (congrArg some (show _ = nI z by rw [gI_pIf (by decide)]; exact hl2))) (obs (Eq.trans (oI_k (σ := pI σ 196 (b + 38 + 3 * i) (nI (cu - 1))) kw) (congrArg some (show _ = nI z by rw [gI_pIf (by decide)]; exact hl2))) ?_))))
      rw [min_nI (by omega) (by omega), nI_add, min_nI (by omega) (by omega)]
      exact E
    · unfold gT
      refine obs (mP15 hm) (obs ((mV7 hm hi16).trans (congrArg some cu2)) (oif_n npos ?_))
      refine obs (mP16 hm) (obs ((mV8 hm hi16).trans (congrArg some cb2)) (obs (mP12 hm) (obs ((mV4 hm hi16).trans (congrArg some ra3)) ?_)))
      by_cases el : ra ≤ cb
      · rw [Nat.min_eq_left el] at E'
        refine oif_p (by rw [nI_leI (by omega) (by omega)]; exact el) ?_
        refine obs (mP12 hm) (obs ((mV4 hm hi16).trans (congrArg some ra3)) (obs (mP15 hm) (obs ((mV7 hm hi16).trans (congrArg some cu2)) ?_)))
        rw [nI_sm (by omega)]
        exact obs (mS7 hm hi16) E'
      · rw [Nat.min_eq_right (by omega)] at E'
        refine oif_n (by rw [nI_leI (by omega) (by omega)]; exact el) ?_
        refine obs (mP16 hm) (obs ((mV8 hm hi16).trans (congrArg some cb2)) (obs (mP15 hm) (obs ((mV7 hm hi16).trans (congrArg some cu2)) ?_)))
        rw [nI_sm (by omega)]
        exact obs (mS7 hm hi16) E'
theorem r_turn {b c np nw nk nt nl nf j : Nat} {σ τ : fr_S} (h1 : XI b σ) (h2 : MI c τ) (hR : RN b c np nw nk nt nl nf σ τ) (hj : j < nw) (hb : gV τ (c + 17) j = 1) : rel (m_FR_takeTurn b (nI j) σ) (m_Md_turn c (nI j) τ) (fun σ' τ' => ∃ nk' nt', RN b c np nw nk' nt' nl nf σ' τ') := by
  have hnw := hR.1.2.1
  have hj10 : j < 10 := by omega
  unfold m_FR_takeTurn m_Md_turn
  refine rel_l (xp69 h1.1) ?_
  refine rel_l (xW h1.1 hj10) ?_
  refine rel_l ((oI_k (wt_k h1.1 hj10)).trans (congrArg some (hR.2.2.2.2.2.1 j hj10).2.2.2.1)) ?_
  refine rel_l (sI_k (wt_k h1.1 hj10)) ?_
  refine rel_r (mP30 h2.1) ?_
  refine rel_r (mV22 h2.1 hj10) ?_
  refine rel_r (mS22 h2.1 hj10) ?_
  have hR := RN_w456 (j := j) (v := gV τ (c + 22) j + 1) hR
  have h1 : XI b (pI σ 456 (b + 86 + 4 * j) (gV τ (c + 22) j + 1)) := XI_o h1 (by decide) (by decide)
  have h2 := MI_pA (a := 22) (u := upd (gV τ (c + 22)) j (gV τ (c + 22) j + 1)) h2 (by decide)
  have hb : gV (pA τ (c + 22) (upd (gV τ (c + 22)) j (gV τ (c + 22) j + 1))) (c + 17) j = 1 := by rw [gV_pAn (by omega)]; exact hb
  generalize pI σ 456 (b + 86 + 4 * j) (gV τ (c + 22) j + 1) = σ at h1 hR ⊢
  generalize pA τ (c + 22) (upd (gV τ (c + 22)) j (gV τ (c + 22) j + 1)) = τ at h2 hR hb ⊢
  have hs := h1.1
  have hm := h2.1
  have hnp := hR.1.1
  have hk := wt_k hs hj10
  obtain ⟨-, np', nw', nk', nt', nl', nf', re, a1, a2, a3, a4, a5, a6, a7, a8, a9, a10, a11, a12, a13, a14, a15, a16, a17, a18⟩ := id h2
  have enp : np' = np := nI_inj (by omega) (by omega) (a1.2.symm.trans hnp.2.2)
  subst enp
  obtain ⟨w1, w2, w3, w4, w5, w6, w7, w8⟩ := hR.2.2.2.2.2.1 j hj10
  have w6 := w6 (Or.inl hb)
  obtain ⟨m, a, p, m6, m1, m2, m3, p1, p2⟩ := busy_get a12 a11 hj10 hb
  refine rel_l (oK_k hk) ?_
  refine rel_l (cur_eq hs hj10 (w6.1.trans m2) (w2.trans m1) m3 m6 ((w5 m a m1 m6 m3).trans p2)) ?_
  refine rel_l (xK hs) ?_
  refine rel_r (mP24 hm) ?_
  refine rel_r (mP26 hm) ?_
  refine rel_r ((mV18 hm hj10).trans (congrArg some m2)) ?_
  rw [nI_6]
  refine rel_r ((mV16 hm (by omega)).trans (congrArg some p2)) ?_
  refine rel_r (mK hm) ?_
  refine rel_b (rel_ev (r_ask h1 hm hR (fun i hi => (a8 i hi).2.2) p1) (x_ask h1 (nI p)) (md_ask hm a8 a1.1 p1)) (fun q q' hq => ?_)
  obtain ⟨r, σ2⟩ := q
  obtain ⟨r', τ2⟩ := q'
  obtain ⟨⟨er, hr, hR2, h12, hm2⟩, -, hsb, -⟩ := hq
  have er : r = r' := er
  subst er
  have hr : r = -1 ∨ ∃ j, j < np' ∧ r = nI j := hr
  have hR2 : RN b c np' nw nk nt nl nf σ2 τ2 := hR2
  have h12 : XI b σ2 := h12
  have hm2 : Sm c τ2 := hm2
  have hsb : SB c τ τ2 := hsb
  have h22 : MI c τ2 := SB_MI h2 hsb
  have hb2 : gV τ2 (c + 17) j = 1 := by rw [hsb.2.2 17 (by decide)]; exact hb
  have e18 : gV τ2 (c + 18) j = nI a := by rw [hsb.2.2 18 (by decide)]; exact m2
  have e453 : gI σ2 453 (b + 86 + 4 * j) = nI a := ((hR2.2.2.2.2.2.1 j hj10).2.2.2.2.2.1 (Or.inl hb2)).1.trans e18
  refine rel_ii (fun _ => ?_) (fun hne => ?_)
  · refine rel_l (xK h12.1) ?_
    refine rel_r (mP26 hm2) ?_
    refine rel_r ((mV18 hm2 hj10).trans (congrArg some e18)) ?_
    refine rel_r (mK hm2) ?_
    rw [nI_1]
    exact rel_b (r_giveUp h12 hm2 hR2 hj10 (by omega) e453) (fun σ' τ' q => rel_some ⟨_, _, q⟩)
  · rcases hr with hr | ⟨i, hi, rfl⟩
    · exact absurd hr hne
    have hi16 : i < 16 := by omega
    obtain ⟨y, σ3, τ3, E, E', hR3, h13, h23, hb3⟩ := r_giveTo h12 h22 hR2 hi hj10 hb2
    have hs3 := h13.1
    refine rel_l (xp67 h12.1) ?_
    refine rel_l (xP h12.1 hi16) ?_
    refine rel_l (wt_r h12.1 hj10) ?_
    refine rel_l (oK_k (pl_k h12.1 hi16)) ?_
    refine rel_l E ?_
    show rel _ (gT c (nI j) (nI i) τ2) _
    rw [E']
    unfold mT
    obtain ⟨u1, u2, u3, u4, u5, u6, u7, u8⟩ := hR3.2.2.2.2.2.1 j hj10
    have u8 := u8 (by rw [hb3]; decide)
    refine rel_l (wt_r hs3 hj10) ?_
    refine rel_l ((oI_k (row_k h13 (pr_w hj10))).trans (congrArg some u8.1)) ?_
    refine rel_l (pl_r hs3 hi16) ?_
    refine rel_l ((oI_k (row_k h13 (pr_p hi16))).trans (congrArg some (hR3.2.2.2.2.1 i hi16).1)) ?_
    refine rel_ii (fun _ => ?_) (fun _ => ?_)
    · refine rel_ii (fun _ => rel_some ⟨_, _, hR3⟩) (fun _ => ?_)
      refine rel_l (xK hs3) ?_
      refine rel_r (mK h23.1) ?_
      exact rel_b (r_falter h13 h23 hR3 hj10 hb3) (fun σ' τ' q => rel_some ⟨_, _, q⟩)
    · refine rel_l (xK hs3) ?_
      refine rel_r (mK h23.1) ?_
      exact rel_b (r_check h13 h23 hR3 hj hb3) (fun σ' τ' q => rel_some q)
theorem r_wake {b c np nw nk nt nl nf j : Nat} {σ τ : fr_S} (hR : RN b c np nw nk nt nl nf σ τ) (hj : j < 10) (hb : gV τ (c + 17) j = 2) : RN b c np nw nk nt nl nf (pI σ 452 (b + 86 + 4 * j) 1) (pA τ (c + 17) (upd (gV τ (c + 17)) j 1)) := by
  obtain ⟨w1, w2, w3, w4, w5, w6, w7, w8⟩ := hR.2.2.2.2.2.1 j hj
  have w6 := w6 (Or.inr hb)
  have w8 := w8 (by rw [hb]; decide)
  refine RN_want hj hR (DX_w DX_rf) (DM_a (by decide) DM_rf) ?_
  have st : gV (pA τ (c + 17) (upd (gV τ (c + 17)) j 1)) (c + 17) j = 1 := by rw [gV_pAs, upd_s]
  refine ⟨?_, ?_, ?_, ?_, fun m' k em h6 hk' => ?_, fun y => ⟨?_, ?_⟩, fun y => ?_, fun y => ⟨?_, fun m' k em h6 hk' => ?_⟩⟩
  · rw [gI_pIf (by decide), gV_pAn (by omega)]; exact w1
  · rw [gI_pIf (by decide), gV_pAn (by omega)]; exact w2
  · rw [gI_pIs, st]
  · rw [gI_pIf (by decide), gV_pAn (by omega)]; exact w4
  · rw [gV_pAn (by omega)] at em
    rw [gV_pI, gV_pAn (by omega)]
    exact w5 m' k em h6 hk'
  · rw [gI_pIf (by decide), gV_pAn (by omega)]; exact w6.1
  · rw [gI_pIf (by decide), gV_pAn (by omega)]; exact w6.2
  · rw [st] at y
    exact absurd y (by decide)
  · rw [gI_pIf (by decide), gV_pAn (by omega)]; exact w8.1
  · rw [gV_pAn (by omega)] at em
    rw [gV_pI, gV_pAn (by omega)]
    exact w8.2 m' k em h6 hk'
def RT (b c np nw nl nf : Nat) (σ τ : fr_S) : Prop := XI b σ ∧ MI c τ ∧ ∃ nk nt, RN b c np nw nk nt nl nf σ τ
theorem r_turn2 {b c np nw nl nf j : Nat} {σ τ : fr_S} (h : RT b c np nw nl nf σ τ) (hj : j < nw) (hb : gV τ (c + 17) j = 1) : rel (m_FR_takeTurn b (nI j) σ) (m_Md_turn c (nI j) τ) (RT b c np nw nl nf) := by
  obtain ⟨h1, h2, nk, nt, hR⟩ := h
  have hnw := hR.1.2.1
  exact rel_mono (rel_ev (r_turn h1 h2 hR hj hb) (x_turn h1 (by omega)) (md_turn h2 ⟨nw, hnw.2.2, hnw.1, hj⟩ hb)) (fun a a' q => ⟨q.2.1, q.2.2, q.1⟩)
theorem r_move_L {b c np nw nl nf : Nat} (y1 y2 : Int32) : ∀ (n k : Nat) (σ τ : fr_S), RT b c np nw nl nf σ τ → k ≤ nw → nw - k < n → rel (m_FR_moveClock_L12 n b (nI k) σ) (m_Md_tick_L36 n c y1 y2 (nI k) τ) (RT b c np nw nl nf) := by
  intro n
  induction n with
  | zero => intro k σ τ _ _ h; omega
  | succ n ih =>
    intro k σ τ h hk hn
    obtain ⟨h1, h2, nk, nt, hR⟩ := id h
    have hs := h1.1
    have hm := h2.1
    have hnw := hR.1.2.1
    unfold m_FR_moveClock_L12 m_Md_tick_L36
    refine rel_l ((xI hs).trans (congrArg some hnw.2.1)) ?_
    refine rel_r ((mI hm).trans (congrArg some hnw.2.2)) ?_
    refine rel_ii (fun _ => rel_some h) (fun z => ?_)
    rw [nI_leI (by omega) (by omega)] at z
    have hk10 : k < 10 := by omega
    have go : ∀ σ' τ' : fr_S, RT b c np nw nl nf σ' τ' → rel ((oI σ' 7 452 (b + 86 + 4 * k)).bind fun v9 => if v9 = 1 then (oK σ' 1 b).bind fun _ => (m_FR_takeTurn b (nI k) σ').bind fun σ_12 => m_FR_moveClock_L12 n b (nI k + 1) σ_12 else m_FR_moveClock_L12 n b (nI k + 1) σ') ((oP τ' 0 25 c).bind fun q30 => (oV τ' 0 q30 (nI k)).bind fun v31 => if v31 = 1 then (oK τ' 0 c).bind fun _ => (m_Md_turn c (nI k) τ').bind fun σ_34 => m_Md_tick_L36 n c y1 y2 (nI k + 1) σ_34 else m_Md_tick_L36 n c y1 y2 (nI k + 1) τ') (RT b c np nw nl nf) := by
      intro σ' τ' h'
      obtain ⟨g1, g2, nk2, nt2, gR⟩ := id h'
      refine rel_l ((oI_k (wt_k g1.1 hk10)).trans (congrArg some (gR.2.2.2.2.2.1 k hk10).2.2.1)) ?_
      refine rel_r (mP25 g2.1) ?_
      refine rel_r (mV17 g2.1 hk10) ?_
      rw [nI_1]
      refine rel_ii (fun e => ?_) (fun _ => ih (k + 1) σ' τ' h' (by omega) (by omega))
      refine rel_l (xK g1.1) ?_
      refine rel_r (mK g2.1) ?_
      exact rel_b (r_turn2 h' (by omega) e) (fun σ2 τ2 q => ih (k + 1) σ2 τ2 q (by omega) (by omega))
    obtain ⟨w1, w2, w3, w4, w5, w6, w7, w8⟩ := hR.2.2.2.2.2.1 k hk10
    refine rel_l (xp69 hs) ?_
    refine rel_l (xW hs hk10) ?_
    refine rel_l ((oI_k (wt_k hs hk10)).trans (congrArg some w3)) ?_
    refine rel_r (mP25 hm) ?_
    refine rel_r (mV17 hm hk10) ?_
    refine rel_ii (fun e => ?_) (fun _ => go σ τ h)
    refine rel_l ((oI_k (wt_k hs hk10)).trans (congrArg some (w7 e))) ?_
    refine rel_l ((xI hs).trans (congrArg some hR.2.1.2.1)) ?_
    refine rel_r (mP29 hm) ?_
    refine rel_r (mV21 hm hk10) ?_
    refine rel_r (mI hm) ?_
    refine rel_ii (fun _ => go σ τ h) (fun _ => ?_)
    refine rel_l (sI_k (wt_k hs hk10)) ?_
    refine rel_r (mP25 hm) ?_
    refine rel_r (mS17 hm hk10) ?_
    exact go _ _ ⟨XI_o h1 (by decide) (by decide), MI_wake h2 e, nk, nt, r_wake hR hk10 e⟩
theorem r_busy_L {b c np nw nk nt nl nf : Nat} {σ τ : fr_S} (hs : Sx b σ) (hm : Sm c τ) (hR : RN b c np nw nk nt nl nf σ τ) : ∀ (n k : Nat) (y : Int32), k ≤ nw → nw - k < n → rel (m_FR_countBusy_L4 n b y (nI k) σ) (m_Md_tick_L105 n c y (nI k) τ) (fun r q => r = q.1 ∧ q.2 = τ) := by
  have hnw := hR.1.2.1
  intro n
  induction n with
  | zero => intro k y _ h; omega
  | succ n ih =>
    intro k y hk hn
    unfold m_FR_countBusy_L4 m_Md_tick_L105
    refine rel_l ((xI hs).trans (congrArg some hnw.2.1)) ?_
    refine rel_r ((mI hm).trans (congrArg some hnw.2.2)) ?_
    refine rel_ii (fun _ => rel_some ⟨rfl, rfl⟩) (fun z => ?_)
    rw [nI_leI (by omega) (by omega)] at z
    have hk10 : k < 10 := by omega
    have w3 := (hR.2.2.2.2.2.1 k hk10).2.2.1
    refine rel_l (xp69 hs) ?_
    refine rel_l (xW hs hk10) ?_
    refine rel_l (oK_k (wt_k hs hk10)) ?_
    refine rel_el (r_isBusy hs hk10) (fun r hr => ?_)
    rw [w3] at hr
    refine rel_r (mP25 hm) ?_
    refine rel_r (mV17 hm hk10) ?_
    rw [nI_1]
    rcases hr with ⟨rfl, hr⟩ | ⟨rfl, n1, n2⟩
    · refine rel_ln (by decide) ?_
      refine rel_ir (fun _ => ih (k + 1) _ (by omega) (by omega)) (fun z1 => ?_)
      refine rel_r (mP25 hm) ?_
      refine rel_r (mV17 hm hk10) ?_
      refine rel_ir (fun _ => ih (k + 1) _ (by omega) (by omega)) (fun z2 => ?_)
      rcases hr with hr | hr
      · exact absurd hr z1
      · exact absurd hr z2
    · refine rel_lp rfl (rel_rn n1 ?_)
      refine rel_r (mP25 hm) ?_
      refine rel_r (mV17 hm hk10) ?_
      refine rel_rn n2 ?_
      rw [Int32.add_zero]
      exact ih (k + 1) _ (by omega) (by omega)
/-- the clock, on both sides -/
theorem RN_clock {b c np nw nk nt nl nf : Nat} {σ τ : fr_S} {v : Int32} (h : RN b c np nw nk nt nl nf σ τ) : RN b c np nw nk nt nl nf (pI σ 77 b v) (pI τ 2 c v) := by
  obtain ⟨h_c, h_g, h_h, h_p, h_b, h_w, h_k, h_t, h_l, h_f⟩ := h
  refine ⟨?_, ?_, h_h, ?_, ?_, ?_, ?_, h_t, h_l, h_f⟩
  · simpa [R_c, gI_pIx] using h_c
  · obtain ⟨g1, g2, g3⟩ := h_g
    refine ⟨?_, ?_, ?_⟩
    · rw [gI_pIf (by decide), gI_pIf (by decide)]; exact g1
    · rw [gI_pIs, gI_pIs]
    · rw [gI_pIf (by decide), gI_pIf (by decide)]; exact g3
  · intro i hi
    rw [gI_pIf (by decide), gI_pIf (by decide), gI_pIf (by decide), gI_pIf (by decide), gI_pIf (by decide), gI_pIf (by decide), gI_pIf (by decide), gI_pIf (by decide), gI_pIf (by decide)]
    exact h_p i hi
  · intro i hi
    exact ⟨by rw [gI_pIf (by decide)]; exact (h_b i hi).1, (h_b i hi).2⟩
  · intro i hi
    obtain ⟨g1, g2, g3, g4, g5, g6, g7, g8⟩ := h_w i hi
    refine ⟨?_, ?_, ?_, ?_, g5, fun z => ?_, fun z => ?_, fun z => ⟨?_, (g8 z).2⟩⟩
    · rw [gI_pIf (by decide)]; exact g1
    · rw [gI_pIf (by decide)]; exact g2
    · rw [gI_pIf (by decide)]; exact g3
    · rw [gI_pIf (by decide)]; exact g4
    · rw [gI_pIf (by decide), gI_pIf (by decide)]; exact g6 z
    · rw [gI_pIf (by decide)]; exact g7 z
    · rw [gI_pIf (by decide)]; exact (g8 z).1
  · intro i hi
    exact ⟨(h_k i hi).1, by rw [gI_pIf (by decide)]; exact (h_k i hi).2.1, (h_k i hi).2.2⟩
theorem r_tick_L {b c np nw nl nf q : Nat} (hq : q ≤ 50) : ∀ (n k : Nat) (σ τ : fr_S), RT b c np nw nl nf σ τ → k ≤ q → q - k < n → rel (m_FR_tick_L14 n b (nI q) (nI k) σ) (m_Md_tick_L19 n c (nI q) (nI k) τ) (RS b c) := by
  intro n
  induction n with
  | zero => intro k σ τ _ _ h; omega
  | succ n ih =>
    intro k σ τ h hk hn
    obtain ⟨h1, h2, nk, nt, hR⟩ := id h
    have hs := h1.1
    have hm := h2.1
    have hnw := hR.1.2.1
    unfold m_FR_tick_L14 m_Md_tick_L19
    refine rel_ii (fun _ => ?_) (fun z => ?_)
    · refine rel_l (xK hs) ?_
      have key := r_busy_L hs hm hR 1000 0 0 (by omega) (by omega)
      rw [nI_0] at key
      obtain ⟨r, q', e, e', q1, q2⟩ := key
      refine rel_l (show m_FR_countBusy b σ = some r from e) ?_
      rw [e']
      exact rel_some ⟨q1, np, nw, nk, nt, nl, nf, by rw [q2]; exact hR⟩
    · rw [nI_leI (by omega) (by omega)] at z
      refine rel_l (xK hs) ?_
      unfold m_FR_moveClock
      have key := r_move_L (b := b) (c := c) (nI q) (nI k) 1000 0 (pI σ 77 b (gI τ 2 c + 1)) (pI τ 2 c (gI τ 2 c + 1)) ⟨XI_o h1 (by decide) (by decide), MI_pI h2 (by decide), nk, nt, RN_clock hR⟩ (by omega) (by omega)
      rw [nI_0] at key
      obtain ⟨σ2, τ2, e, e', hq2⟩ := key
      refine rel_l (a := σ2) (obs ((xI hs).trans (congrArg some hR.2.1.2.1)) (obs (sI_k hs.1.1) e)) ?_
      refine rel_r (mI hm) ?_
      refine rel_r (mSI hm) ?_
      refine rel_r e' ?_
      rw [nI_1]
      exact ih (k + 1) σ2 τ2 hq2 (by omega) (by omega)
theorem r_tick {b c : Nat} {σ τ : fr_S} (h : RR b c σ τ) (x : Int32) : rel (m_FR_tick b x σ) (m_Md_tick c x τ) (fun q q' => q.1 = q'.1 ∧ RR b c q.2 q'.2) := by
  obtain ⟨h1, h2, np, nw, nk, nt, nl, nf, hR⟩ := id h
  refine RS_end ?_ (x_tick h1 x) (md_tick h2 x)
  have hM : MI c (pI τ 1 c 0) := M_code h2
  have hR : RN b c np nw nk nt nl nf σ (pI τ 1 c 0) := hR
  have fin : RE b c σ (pI τ 1 c 0) := ⟨np, nw, nk, nt, nl, nf, hR⟩
  unfold m_FR_tick m_Md_tick
  refine rel_r (mSI h2.1) ?_
  refine rel_ii (fun _ => rel_some ⟨rfl, fin⟩) (fun h0 => ?_)
  refine rel_ii (fun h50 => ?_) (fun _ => rel_some ⟨rfl, fin⟩)
  obtain ⟨q, -, hq, rfl⟩ := nI_rng (x := x) (lo := 0) (hi := 50) (by rw [nI_0]; exact h0) (by rw [← nI_lit50]; exact h50) (by decide) (by decide)
  have key := r_tick_L (b := b) (c := c) hq 1000 0 σ (pI τ 1 c 0) ⟨h1, hM, nk, nt, hR⟩ (by omega) (by omega)
  rw [nI_0] at key
  exact key
