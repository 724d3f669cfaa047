theorem r_begin {b c : Nat} {σ τ : fr_S} (h : RR b c σ τ) (x : Int32) : rel (m_FR_begin b x σ) (m_Md_begin c x τ) (fun q q' => q.1 = q'.1 ∧ RR b c q.2 q'.2) := by
  obtain ⟨h1, h2, np, nw, nk, nt, nl, nf, hR⟩ := id h
  refine RS_end ?_ (x_begin h1 x) (md_begin h2 x)
  have hs := h1.1
  have hm : Sm c (pI τ 1 c 0) := h2.1
  have hR : RN b c np nw nk nt nl nf σ (pI τ 1 c 0) := hR
  have hM : MI c (pI τ 1 c 0) := M_code h2
  have hnw := hR.1.2.1
  have fin : RE b c σ (pI τ 1 c 0) := ⟨np, nw, nk, nt, nl, nf, hR⟩
  unfold m_FR_begin m_Md_begin
  refine rel_r (mSI h2.1) ?_
  generalize pI τ 1 c 0 = τ1 at hm hR hM hnw fin ⊢
  obtain ⟨-, np', nw', nk', nt', nl', nf', re, a1, a2, a3, a4, a5, a6, a7, a8, a9, a10, a11, a12, a13, a14, a15, a16, a17, a18⟩ := hM
  have enw : nw' = nw := nI_inj (by omega) (by omega) (a2.2.symm.trans hnw.2.2)
  subst enw
  have lek := I_ke_le a14
  have lel := I_la_le a17
  have enk : nk' = nk := nI_inj (by omega) (by have := hR.1.2.2.1.1; omega) (a3.symm.trans hR.1.2.2.1.2.2)
  have enl : nl' = nl := nI_inj (by omega) (by have := hR.1.2.2.2.2.1.1; omega) (a5.symm.trans hR.1.2.2.2.2.1.2.2)
  subst enk enl
  refine rel_l (xK hs) ?_
  refine rel_r (mK hm) ?_
  refine rel_b (r_isWant hs hm hR x) (fun r r' hr => ?_)
  rcases hr with ⟨rfl, rfl⟩ | ⟨rfl, rfl, j, hj, rfl⟩
  · exact rel_lp rfl (rel_rp rfl (rel_some ⟨rfl, fin⟩))
  refine rel_ln (by decide) (rel_rn (by decide) ?_)
  have hj10 : j < 10 := by omega
  have hk := wt_k hs hj10
  obtain ⟨w1, w2, w3, w4, w5, w6, w7, w8⟩ := hR.2.2.2.2.2.1 j hj10
  refine rel_l (xp69 hs) ?_
  refine rel_l (xW hs hj10) ?_
  refine rel_l (oK_k hk) ?_
  refine rel_el (r_isBusy hs hj10) (fun r hr => ?_)
  rw [w3] at hr
  rcases hr with ⟨rfl, hr⟩ | ⟨rfl, n1, n2⟩
  · refine rel_ln (by decide) ?_
    refine rel_r (mP25 hm) ?_
    refine rel_r (mV17 hm hj10) ?_
    refine rel_ir (fun _ => rel_some ⟨rfl, fin⟩) (fun z1 => ?_)
    refine rel_r (mP25 hm) ?_
    refine rel_r (mV17 hm hj10) ?_
    refine rel_ir (fun _ => rel_some ⟨rfl, fin⟩) (fun z2 => ?_)
    rcases hr with hr | hr
    · exact absurd hr z1
    · exact absurd hr z2
  refine rel_lp rfl ?_
  refine rel_r (mP25 hm) ?_
  refine rel_r (mV17 hm hj10) ?_
  refine rel_rn n1 ?_
  refine rel_r (mP25 hm) ?_
  refine rel_r (mV17 hm hj10) ?_
  refine rel_rn n2 ?_
  refine rel_l (xp69 hs) ?_
  refine rel_l (xW hs hj10) ?_
  refine rel_l (xp71 hs) ?_
  refine rel_l ((oI_k hk).trans (congrArg some w1)) ?_
  have hT := hs.1.2.2.2.2.2.1
  refine rel_l (oK_k hT.2.1) ?_
  refine rel_r (mP22 hm) ?_
  refine rel_r (mV14 hm hj10) ?_
  refine rel_r (mK hm) ?_
  refine rel_b (r_kept hs hm hR a14.2 _) (fun r r' hr => ?_)
  obtain ⟨rfl, hr⟩ := hr
  refine rel_ii (fun _ => ?_) (fun hne => ?_)
  · refine rel_l ((xI hs).trans (congrArg some hR.2.1.2.2)) ?_
    refine rel_r (mI hm) ?_
    refine rel_ii (fun _ => ?_) (fun _ => ?_)
    · refine rel_l (xK hs) ?_
      refine rel_r (mK hm) ?_
      have key := r_goOn (f := 0) h1 hm hR hj10 (by omega)
      rw [nI_0] at key
      refine rel_b key (fun σ' τ' hq => ?_)
      obtain ⟨q1, q2, q3⟩ := hq
      refine rel_l (oI_k (wt_k q2 hj10)) ?_
      refine rel_r (mP25 q3) ?_
      refine rel_r (mV17 q3 hj10) ?_
      exact rel_some ⟨(q1.2.2.2.2.2.1 j hj10).2.2.1, np, _, _, nt, _, nf, q1⟩
    · refine rel_l (sI_k hk) ?_
      refine rel_l (xK (σ := pI σ 452 (b + 86 + 4 * j) 4) hs) ?_
      refine rel_r (mP27 hm) ?_
      refine rel_r (mS19 hm hj10) ?_
      have hm2 : Sm c (pA τ1 (c + 19) (upd (gV τ1 (c + 19)) j 0)) := hm
      refine rel_r (mP25 hm2) ?_
      refine rel_r (mS17 hm2 hj10) ?_
      have hm3 : Sm c (pA (pA τ1 (c + 19) (upd (gV τ1 (c + 19)) j 0)) (c + 17) (upd (gV (pA τ1 (c + 19) (upd (gV τ1 (c + 19)) j 0)) (c + 17)) j 4)) := hm
      have st : gV (pA (pA τ1 (c + 19) (upd (gV τ1 (c + 19)) j 0)) (c + 17) (upd (gV (pA τ1 (c + 19) (upd (gV τ1 (c + 19)) j 0)) (c + 17)) j 4)) (c + 17) j = 4 := by rw [gV_pAs, upd_s]
      have e30 : gV (pA (pA τ1 (c + 19) (upd (gV τ1 (c + 19)) j 0)) (c + 17) (upd (gV (pA τ1 (c + 19) (upd (gV τ1 (c + 19)) j 0)) (c + 17)) j 4)) (c + 30) = gV τ1 (c + 30) := by rw [gV_pAn (by omega), gV_pAn (by omega)]
      have hR3 : RN b c np nw' nk' nt nl' nf (pI σ 452 (b + 86 + 4 * j) 4) (pA (pA τ1 (c + 19) (upd (gV τ1 (c + 19)) j 0)) (c + 17) (upd (gV (pA τ1 (c + 19) (upd (gV τ1 (c + 19)) j 0)) (c + 17)) j 4)) := by
        refine RN_want hj10 hR (DX_w DX_rf) (DM_a (by decide) (DM_a (by decide) DM_rf)) ?_
        refine ⟨?_, ?_, ?_, ?_, fun m' k em h6 hk' => ?_, fun y => ?_, fun y => ?_, fun y => absurd st y⟩
        · rw [gI_pIf (by decide), gV_pAn (by omega), gV_pAn (by omega)]; exact w1
        · rw [gI_pIf (by decide), gV_pAn (by omega), gV_pAn (by omega)]; exact w2
        · rw [gI_pIs, st]
        · rw [gI_pIf (by decide), gV_pAn (by omega), gV_pAn (by omega)]; exact w4
        · rw [gV_pAn (by omega), gV_pAn (by omega)] at em
          rw [gV_pI, gV_pAn (by omega), gV_pAn (by omega)]
          exact w5 m' k em h6 hk'
        · rw [st] at y
          exact absurd y (by decide)
        · rw [st] at y
          exact absurd y (by decide)
      have i4 : gI (pI σ 452 (b + 86 + 4 * j) 4) 452 (b + 86 + 4 * j) = 4 := gI_pIs
      generalize pA (pA τ1 (c + 19) (upd (gV τ1 (c + 19)) j 0)) (c + 17) (upd (gV (pA τ1 (c + 19) (upd (gV τ1 (c + 19)) j 0)) (c + 17)) j 4) = τ3 at hm3 st e30 hR3 ⊢
      refine rel_r (mK hm3) ?_
      have key := r_note (σ := pI σ 452 (b + 86 + 4 * j) 4) hs hm3 hR3 (nI j) (fun hall => by
        rw [e30] at hall
        have := I_la_le (I_la_add a17 hj hall)
        omega)
      refine rel_b key (fun σ' τ' hq => ?_)
      obtain ⟨⟨nl2, q1⟩, q2, q3, q4, q5, q6⟩ := hq
      refine rel_l ((oI_k (wt_k q5 hj10)).trans (congrArg some ((q3 452 (by decide) _).trans i4))) ?_
      refine rel_r (mP25 q6) ?_
      refine rel_r ((mV17 q6 hj10).trans (congrArg some ((congrFun (q4 (c + 17) (by omega)) j).trans st))) ?_
      exact rel_some ⟨rfl, np, _, _, nt, nl2, nf, q1⟩
  · rcases hr with hr | ⟨k, hkn, rfl⟩
    · exact absurd hr hne
    have hk10 : k < 10 := by omega
    obtain ⟨n, hn, hnl⟩ := (XI_row h1 (pr_k hk10)).2.1
    obtain ⟨g1, g2, g3⟩ := hR.2.2.2.2.2.2.1 k hkn
    have hl : gV τ1 (c + 25) k = nI n := g2.symm.trans hnl
    refine rel_l (wt_r hs hj10) ?_
    refine rel_l (xp71 hs) ?_
    refine rel_l (oP_g hT.2.1 hT.2.2.2.2.1) ?_
    refine rel_l (oQ_nI (n := 10) hT.2.2.2.2.2 hk10 (by decide) (hs.2.2.2 k hk10).1) ?_
    refine rel_l (oK_k (row_k h1 (pr_w hj10))) ?_
    refine rel_l (r_copy h1 (pr_w hj10) (pr_k hk10) hnl hn) ?_
    refine rel_l (sI_k (show gK (pI (pA σ (b + 88 + 4 * j) (va_cpy (gV σ (b + 9 + 2 * k)) (gV σ (b + 88 + 4 * j)) 0 0 n)) 257 (b + 87 + 4 * j) (nI n)) (b + 86 + 4 * j) = some (.inl 7) from hk)) ?_
    refine rel_l (Eq.trans (oI_k (show gK (pI (pI (pA σ (b + 88 + 4 * j) (va_cpy (gV σ (b + 9 + 2 * k)) (gV σ (b + 88 + 4 * j)) 0 0 n)) 257 (b + 87 + 4 * j) (nI n)) 452 (b + 86 + 4 * j) 3) (b + 86 + 4 * j) = some (.inl 7) from hk)) (congrArg some gI_pIs)) ?_
    refine rel_r (mP27 hm) ?_
    refine rel_r (mP33 hm) ?_
    refine rel_r ((mV25 hm hk10).trans (congrArg some hl)) ?_
    refine rel_r (mS19 hm hj10) ?_
    have key := r_copyM (c := c) (τ := τ1) hj10 hk10 hn 1000 0 (pA τ1 (c + 19) (upd (gV τ1 (c + 19)) j (nI n))) hm (DM_a (by decide) DM_rf) (by rw [gV_pAs, upd_s]) (by rw [gV_pAn (by omega)]) (fun i hi => by omega) (by omega) (by omega)
    rw [nI_0] at key
    obtain ⟨q, e, q1, q2, q3, q4, q5, q6⟩ := key
    rw [e]
    refine rel_some ⟨q1.symm, np, _, _, nt, _, nf, RN_want hj10 hR (DX_w (DX_r (DX_v DX_rf))) q2 ?_⟩
    refine ⟨?_, ?_, ?_, ?_, fun m' i em h6 hk' => ?_, fun y => ?_, fun y => ?_, fun _ => ⟨?_, fun m' i em h6 hi => ?_⟩⟩
    · rw [gI_pIf (by decide), gI_pIf (by decide), gI_pA, q2.2.1 14 (by decide) (by decide)]; exact w1
    · rw [gI_pIf (by decide), gI_pIf (by decide), gI_pA, q2.2.1 15 (by decide) (by decide)]; exact w2
    · rw [gI_pIs, q3]
    · rw [gI_pIf (by decide), gI_pIf (by decide), gI_pA, q5]; exact w4
    · rw [q2.2.1 15 (by decide) (by decide)] at em
      rw [gV_pI, gV_pI, gV_pAn (by omega), q2.2.1 16 (by decide) (by decide)]
      exact w5 m' i em h6 hk'
    · rw [q3] at y
      exact absurd y (by decide)
    · rw [q3] at y
      exact absurd y (by decide)
    · rw [gI_pIf (by decide), gI_pIs, q4]
    · rw [q4] at em
      have em2 : n = m' := nI_inj (by omega) (by omega) em
      subst em2
      rw [gV_pI, gV_pI, gV_pAs, pk_cpy_in (Nat.zero_le _) (by omega), q6 i hi]
      have e0 : 0 + (i - 0) = i := by omega
      rw [e0]
      exact g3 n i hl hn hi
theorem pA_same {τ : fr_S} {a h : Nat} : pA τ a (upd (gV τ a) h (gV τ a h + 0)) = τ := by
  have e : upd (gV τ a) h (gV τ a h + 0) = gV τ a := by
    funext i
    by_cases e : i = h
    · rw [e, upd_s, Int32.add_zero]
    · rw [upd_n e]
  rw [e]
  unfold pA gV
  refine Prod.ext rfl (Prod.ext rfl (Prod.ext rfl (Prod.ext ?_ rfl)))
  funext q
  show (if q = a then τ.2.2.2.1 a else τ.2.2.2.1 q) = τ.2.2.2.1 q
  by_cases e : q = a
  · rw [if_pos e, e]
  · rw [if_neg e]
/-- a place asked, its credential sent or not: both sides' counts -/
theorem r_count {b c np nw nk nt nl nf i g : Nat} {σ τ : fr_S} {y : Int32} (hs : Sx b σ) (hR : RN b c np nw nk nt nl nf σ τ) (hi : i < 16) (hg : g < 8) (he : gI σ 193 (b + 38 + 3 * i) = nI g) (hy : y = 0 ∨ y ≠ 0) : m_FR_countSent b (nI i) y σ = some (if y = 0 then σ else pA σ (b + 2) (upd (gV σ (b + 2)) g (gV τ (c + 2) g + 1))) := by
  unfold m_FR_countSent
  by_cases e : y = 0
  · rw [if_pos e, if_pos e]
  · rw [if_neg e, if_neg e]
    have key : ev ((oP σ 1 66 b).bind fun q2 => (oP σ 1 67 b).bind fun q3 => (oQ σ 2 q3 (nI i)).bind fun q4 => (oI σ 3 193 q4).bind fun v5 => (oV σ 0 q2 v5).bind fun v6 => (sV σ 0 q2 v5 (v6 + 1)).bind fun σ_7 => some σ_7) (fun z => z = pA σ (b + 2) (upd (gV σ (b + 2)) g (gV τ (c + 2) g + 1))) := by
      refine ev_bs (xp66 hs) ?_
      refine ev_bs (xp67 hs) ?_
      refine ev_bs (xP hs hi) ?_
      refine ev_bs ((oI_k (pl_k hs hi)).trans (congrArg some he)) ?_
      refine ev_bs ((oV_nI (n := 8) hs.1.2.2.1.2 hg (by decide)).trans (congrArg some (hR.2.2.1.2 g hg))) ?_
      refine ev_bs (sV_nI (n := 8) hs.1.2.2.1.2 hg (by decide)) ?_
      exact ev_some rfl
    obtain ⟨a, ea, rfl⟩ := key
    exact ea
theorem gives_eq {p : Nat} {σ : fr_S} {y : Int32} (hk : gK σ p = some (.inl 3)) : m_Place_gives p y σ = some (if gI σ 198 p = 0 ∧ gI σ 195 p = -1 ∧ (y = 0 → gI σ 199 p = 0) then 1 else 0) := by
  unfold m_Place_gives
  rw [oI_k hk, oI_k hk, oI_k hk]
  show (if gI σ 198 p = 0 then (if gI σ 195 p = (-1) then (if y = 0 then (if gI σ 199 p = 0 then some (1 : Int32) else some 0) else some 1) else some 0) else some 0) = _
  by_cases e1 : gI σ 198 p = 0 <;> by_cases e2 : gI σ 195 p = -1 <;> by_cases e3 : y = 0 <;> by_cases e4 : gI σ 199 p = 0 <;> simp [e1, e2, e3, e4]
theorem leads_eq {p : Nat} {σ : fr_S} (hk : gK σ p = some (.inl 3)) : m_Place_leadsOn p σ = some (if gI σ 198 p = 0 ∧ gI σ 195 p ≠ -1 then 1 else 0) := by
  unfold m_Place_leadsOn
  rw [oI_k hk, oI_k hk]
  show (if gI σ 198 p = 0 then (if gI σ 195 p = (-1) then some (0 : Int32) else some 1) else some 0) = _
  by_cases e1 : gI σ 198 p = 0 <;> by_cases e2 : gI σ 195 p = -1 <;> simp [e1, e2]
theorem r_ask_L {b c np nw nk nt nl nf : Nat} : ∀ (n k i : Nat) (y : Int32) (σ τ : fr_S), XI b σ → Sm c τ → RN b c np nw nk nt nl nf σ τ → (∀ i, i < np → gV τ (c + 6) i = -1 ∨ ∃ j, j < np ∧ gV τ (c + 6) i = nI j) → i < np → k ≤ 3 → 3 - k < n → rel (m_FR_ask_L36 n b (nI i) y (nI k) σ) (m_Md_ask_L40 n c (nI i) y (nI k) τ) (fun q q' => q.1 = q'.1 ∧ (q.1 = -1 ∨ ∃ j, j < np ∧ q.1 = nI j) ∧ RN b c np nw nk nt nl nf q.2 q'.2 ∧ XI b q.2 ∧ Sm c q'.2) := by
  intro n
  induction n with
  | zero => intro k i y σ τ _ _ _ _ _ _ h; omega
  | succ n ih =>
    intro k i y σ τ h1 hm hR hle hi hk hn
    have hs := h1.1
    have hnp := hR.1.1.1
    have hi16 : i < 16 := by omega
    have hkp := pl_k hs hi16
    obtain ⟨p1, p2, p3, p4, p5, p6, p7, p8, p9, p10⟩ := hR.2.2.2.1 i hi16
    have p9 := p9 hi
    have fin : ∀ r : Int32, (r = -1 ∨ ∃ j, j < np ∧ r = nI j) → rel (some (r, σ)) (some (r, τ)) (fun q q' => q.1 = q'.1 ∧ (q.1 = -1 ∨ ∃ j, j < np ∧ q.1 = nI j) ∧ RN b c np nw nk nt nl nf q.2 q'.2 ∧ XI b q.2 ∧ Sm c q'.2) := fun r hr => rel_some ⟨rfl, hr, hR, h1, hm⟩
    have no : (-1 : Int32) = -1 ∨ ∃ j, j < np ∧ (-1 : Int32) = nI j := Or.inl rfl
    have yes : nI i = -1 ∨ ∃ j, j < np ∧ nI i = nI j := Or.inr ⟨i, hi, rfl⟩
    have gv : ∀ o' : Option (Int32 × fr_S), (rel (if gI σ 198 (b + 38 + 3 * i) = 0 ∧ gI σ 195 (b + 38 + 3 * i) = -1 ∧ (y = 0 → gI σ 199 (b + 38 + 3 * i) = 0) then some (nI i, σ) else some (-1, σ)) o' (fun q q' => q.1 = q'.1 ∧ (q.1 = -1 ∨ ∃ j, j < np ∧ q.1 = nI j) ∧ RN b c np nw nk nt nl nf q.2 q'.2 ∧ XI b q.2 ∧ Sm c q'.2)) → rel ((oP σ 1 67 b).bind fun q12 => (oQ σ 2 q12 (nI i)).bind fun q13 => (oK σ 3 q13).bind fun _ => (m_Place_gives q13 y σ).bind fun r15 => if r15 = 0 then some ((-1 : Int32), σ) else some (nI i, σ)) o' (fun q q' => q.1 = q'.1 ∧ (q.1 = -1 ∨ ∃ j, j < np ∧ q.1 = nI j) ∧ RN b c np nw nk nt nl nf q.2 q'.2 ∧ XI b q.2 ∧ Sm c q'.2) := by
      intro o' ho
      refine rel_l (xp67 hs) ?_
      refine rel_l (xP hs hi16) ?_
      refine rel_l (oK_k hkp) ?_
      refine rel_l (gives_eq hkp) ?_
      by_cases e : gI σ 198 (b + 38 + 3 * i) = 0 ∧ gI σ 195 (b + 38 + 3 * i) = -1 ∧ (y = 0 → gI σ 199 (b + 38 + 3 * i) = 0)
      · rw [if_pos e] at ho
        rw [if_pos e]
        exact rel_ln (by decide) ho
      · rw [if_neg e] at ho
        rw [if_neg e]
        exact rel_lp rfl ho
    unfold m_FR_ask_L36 m_Md_ask_L40
    refine rel_r (mP18 hm) ?_
    refine rel_r (mV10 hm hi16) ?_
    by_cases G : gV τ (c + 10) i = 0
    · refine rel_rp G ?_
      refine rel_r (mP14 hm) ?_
      refine rel_r (mV6 hm hi16) ?_
      by_cases L : gV τ (c + 6) i = -1
      · refine rel_rp L ?_
        refine rel_r (mP18 hm) ?_
        refine rel_r (mV10 hm hi16) ?_
        refine rel_rp G ?_
        refine rel_r (mP19 hm) ?_
        refine rel_r (mV11 hm hi16) ?_
        have last : rel (if gI σ 198 (b + 38 + 3 * i) = 0 ∧ gI σ 195 (b + 38 + 3 * i) = -1 ∧ (y = 0 → gI σ 199 (b + 38 + 3 * i) = 0) then some (nI i, σ) else some (-1, σ)) (if gV τ (c + 11) i = 0 then some (nI i, τ) else if y = 0 then some ((-1 : Int32), τ) else some (nI i, τ)) (fun q q' => q.1 = q'.1 ∧ (q.1 = -1 ∨ ∃ j, j < np ∧ q.1 = nI j) ∧ RN b c np nw nk nt nl nf q.2 q'.2 ∧ XI b q.2 ∧ Sm c q'.2) := by
          rw [p4, p5, p9]
          by_cases W : gV τ (c + 11) i = 0
          · exact rel_lp ⟨G, L, fun _ => W⟩ (rel_rp W (fin _ yes))
          · refine rel_rn W ?_
            by_cases Y : y = 0
            · exact rel_rp Y (rel_ln (fun z => W (z.2.2 Y)) (fin _ no))
            · exact rel_rn Y (rel_lp ⟨G, L, fun z => absurd z Y⟩ (fin _ yes))
        refine rel_il (fun _ => gv _ last) (fun _ => ?_)
        refine rel_l (xp67 hs) ?_
        refine rel_l (xP hs hi16) ?_
        refine rel_l (oK_k hkp) ?_
        refine rel_l ((leads_eq hkp).trans (congrArg some (if_neg (fun z => z.2 (p9.trans L))))) ?_
        exact rel_lp rfl (gv _ last)
      · refine rel_rn L ?_
        rcases hle i hi with z | ⟨j, hj, hje⟩
        · exact absurd z L
        have hj16 : j < 16 := by omega
        by_cases K : k = 3
        · subst K
          refine rel_rp nI_v3 (rel_lp (by rw [nI_v3]; decide) (gv _ ?_))
          exact rel_ln (fun z => L (p9.symm.trans z.2.1)) (fin _ no)
        · refine rel_rn (fun z => K (nI_inj (by omega) (by omega) (z.trans nI_v3.symm))) ?_
          refine rel_ln (fun z => ?_) ?_
          · rw [← nI_v3, nI_leI (by omega) (by omega)] at z
            omega
          refine rel_l (xp67 hs) ?_
          refine rel_l (xP hs hi16) ?_
          refine rel_l (oK_k hkp) ?_
          refine rel_l ((leads_eq hkp).trans (congrArg some (if_pos ⟨p4.trans G, fun z => L (p9.symm.trans z)⟩))) ?_
          refine rel_ln (by decide) ?_
          refine rel_l (xp67 hs) ?_
          refine rel_l (xP hs hi16) ?_
          refine rel_l ((oI_k hkp).trans (congrArg some (p9.trans hje))) ?_
          refine rel_r (mP14 hm) ?_
          refine rel_r ((mV6 hm hi16).trans (congrArg some hje)) ?_
          obtain ⟨⟨g, hg, hge⟩, -⟩ := xpl h1 hj16
          have hge2 : gV τ (c + 3) j = nI g := (hR.2.2.2.1 j hj16).1.symm.trans hge
          have zero : rel ((oK σ 1 b).bind fun _ => (m_FR_countSent b (nI j) 0 σ).bind fun σ_32 => m_FR_ask_L36 n b (nI j) 0 (nI k + 1) σ_32) ((oP τ 0 5 c).bind fun q36 => (oP τ 0 11 c).bind fun q37 => (oV τ 0 q37 (nI j)).bind fun v38 => (oV τ 0 q36 v38).bind fun v39 => (sV τ 0 q36 v38 (v39 + 0)).bind fun σ_41 => m_Md_ask_L40 n c (nI j) 0 (nI k + 1) σ_41) (fun q q' => q.1 = q'.1 ∧ (q.1 = -1 ∨ ∃ j, j < np ∧ q.1 = nI j) ∧ RN b c np nw nk nt nl nf q.2 q'.2 ∧ XI b q.2 ∧ Sm c q'.2) := by
            refine rel_l (xK hs) ?_
            refine rel_l (r_count hs hR hj16 hg hge (Or.inl rfl)) ?_
            rw [if_pos rfl]
            refine rel_r (mP5 hm) ?_
            refine rel_r (mP11 hm) ?_
            refine rel_r ((mV3 hm hj16).trans (congrArg some hge2)) ?_
            refine rel_r (mV2 hm hg) ?_
            refine rel_r (mS2 hm hg) ?_
            rw [pA_same, nI_1]
            exact ih (k + 1) j 0 σ τ h1 hm hR hle hj (by omega) (by omega)
          refine rel_ii (fun _ => zero) (fun Y => ?_)
          refine rel_l (xp67 hs) ?_
          refine rel_l (xP hs hj16) ?_
          refine rel_l ((oI_k (pl_k hs hj16)).trans (congrArg some hge)) ?_
          refine rel_l (xp67 hs) ?_
          refine rel_l (xP hs hi16) ?_
          refine rel_l ((oI_k hkp).trans (congrArg some p1)) ?_
          refine rel_r (mP11 hm) ?_
          refine rel_r ((mV3 hm hj16).trans (congrArg some hge2)) ?_
          refine rel_r (mP11 hm) ?_
          refine rel_r (mV3 hm hi16) ?_
          refine rel_ii (fun _ => ?_) (fun _ => zero)
          refine rel_l (xK hs) ?_
          refine rel_l (r_count (y := 1) hs hR hj16 hg hge (Or.inr (by decide))) ?_
          rw [if_neg (show ¬ (1 : Int32) = 0 by decide)]
          refine rel_r (mP5 hm) ?_
          refine rel_r (mP11 hm) ?_
          refine rel_r ((mV3 hm hj16).trans (congrArg some hge2)) ?_
          refine rel_r (mV2 hm hg) ?_
          refine rel_r (mS2 hm hg) ?_
          rw [nI_1]
          refine ih (k + 1) j 1 _ _ (XI_oA h1 (by omega)) hm (RN_h2 hR) (fun i hi => ?_) hj (by omega) (by omega)
          rw [gV_pAn (by omega)]
          exact hle i hi
    · refine rel_rn G ?_
      refine rel_r (mP18 hm) ?_
      refine rel_r (mV10 hm hi16) ?_
      refine rel_rn G ?_
      have last : rel (if gI σ 198 (b + 38 + 3 * i) = 0 ∧ gI σ 195 (b + 38 + 3 * i) = -1 ∧ (y = 0 → gI σ 199 (b + 38 + 3 * i) = 0) then some (nI i, σ) else some (-1, σ)) (some ((-1 : Int32), τ)) (fun q q' => q.1 = q'.1 ∧ (q.1 = -1 ∨ ∃ j, j < np ∧ q.1 = nI j) ∧ RN b c np nw nk nt nl nf q.2 q'.2 ∧ XI b q.2 ∧ Sm c q'.2) := rel_ln (fun z => G (p4.symm.trans z.1)) (fin _ no)
      refine rel_il (fun _ => gv _ last) (fun _ => ?_)
      refine rel_l (xp67 hs) ?_
      refine rel_l (xP hs hi16) ?_
      refine rel_l (oK_k hkp) ?_
      refine rel_l ((leads_eq hkp).trans (congrArg some (if_neg (fun z => G (p4.symm.trans z.1))))) ?_
      exact rel_lp rfl (gv _ last)
theorem r_ask {b c np nw nk nt nl nf p : Nat} {σ τ : fr_S} (h1 : XI b σ) (hm : Sm c τ) (hR : RN b c np nw nk nt nl nf σ τ) (hle : ∀ i, i < np → gV τ (c + 6) i = -1 ∨ ∃ j, j < np ∧ gV τ (c + 6) i = nI j) (hp : p < np) : rel (m_FR_ask b (nI p) σ) (m_Md_ask c (nI p) τ) (fun q q' => q.1 = q'.1 ∧ (q.1 = -1 ∨ ∃ j, j < np ∧ q.1 = nI j) ∧ RN b c np nw nk nt nl nf q.2 q'.2 ∧ XI b q.2 ∧ Sm c q'.2) := by
  have hs := h1.1
  have hn := hR.1.1
  have hp16 : p < 16 := by omega
  obtain ⟨⟨g, hg, hge⟩, -⟩ := xpl h1 hp16
  have hge2 : gV τ (c + 3) p = nI g := (hR.2.2.2.1 p hp16).1.symm.trans hge
  have isP : m_FR_isPlace b (nI p) σ = some 1 := by
    unfold m_FR_isPlace
    rw [if_neg (nI_pos (by omega)), (xI hs).trans (congrArg some hn.2.1)]
    show (if nI np ≤ nI p then some (0 : Int32) else some 1) = some 1
    rw [if_neg (by rw [nI_leI (by omega) (by omega)]; omega)]
  unfold m_FR_ask m_Md_ask
  refine rel_l (xK hs) ?_
  refine rel_l isP ?_
  refine rel_ln (by decide) ?_
  refine rel_l (xp65 hs) ?_
  refine rel_l (xp67 hs) ?_
  refine rel_l (xP hs hp16) ?_
  refine rel_l ((oI_k (pl_k hs hp16)).trans (congrArg some hge)) ?_
  refine rel_l ((oV_nI (n := 8) hs.1.2.1.2 hg (by decide)).trans (congrArg some (hR.2.2.1.1 g hg))) ?_
  refine rel_l (xK hs) ?_
  refine rel_l (r_count hs hR hp16 hg hge (Classical.em _)) ?_
  refine rel_r (mP4 hm) ?_
  refine rel_r (mP11 hm) ?_
  refine rel_r ((mV3 hm hp16).trans (congrArg some hge2)) ?_
  refine rel_r (mV1 hm hg) ?_
  refine rel_r (mP5 hm) ?_
  refine rel_r (mP11 hm) ?_
  refine rel_r ((mV3 hm hp16).trans (congrArg some hge2)) ?_
  refine rel_r (mV2 hm hg) ?_
  by_cases e : gV τ (c + 1) g = 0
  · rw [if_pos e]
    refine rel_rp e ?_
    refine rel_r (mS2 hm hg) ?_
    rw [pA_same]
    have key := r_ask_L 1000 0 p (gV τ (c + 1) g) σ τ h1 hm hR hle hp (by omega) (by omega)
    rw [nI_0] at key
    exact key
  · rw [if_neg e]
    refine rel_rn e ?_
    refine rel_r (mS2 hm hg) ?_
    have key := r_ask_L 1000 0 p (gV τ (c + 1) g) _ (pA τ (c + 2) (upd (gV τ (c + 2)) g (gV τ (c + 2) g + 1))) (XI_oA h1 (a := b + 2) (u := upd (gV σ (b + 2)) g (gV τ (c + 2) g + 1)) (by omega)) hm (RN_h2 (j := g) (v := gV τ (c + 2) g + 1) hR) (fun i hi => by rw [gV_pAn (by omega)]; exact hle i hi) hp (by omega) (by omega)
    rw [nI_0] at key
    exact key
theorem r_giveUp {b c np nw nk nt nl nf j a : Nat} {σ τ : fr_S} (h1 : XI b σ) (hm : Sm c τ) (hR : RN b c np nw nk nt nl nf σ τ) (hj : j < 10) (ha : a ≤ 5) (he : gI σ 453 (b + 86 + 4 * j) = nI a) : rel (m_FR_giveUp b (b + 86 + 4 * j) σ) (m_Md_goOn c (nI j) (nI (a + 1)) τ) (fun σ' τ' => RN b c np nw nk nt nl nf σ' τ') := by
  have hs := h1.1
  unfold m_FR_giveUp
  refine rel_l ((oI_k (wt_k hs hj)).trans (congrArg some he)) ?_
  refine rel_l (xK hs) ?_
  rw [nI_1]
  obtain ⟨σ', τ', e, e', q⟩ := r_goOn (f := a + 1) h1 hm hR hj (by omega)
  rw [e, e']
  exact rel_some q.1
theorem r_falter {b c np nw nk nt nl nf j : Nat} {σ τ : fr_S} (h1 : XI b σ) (h2 : MI c τ) (hR : RN b c np nw nk nt nl nf σ τ) (hj : j < 10) (hb : gV τ (c + 17) j = 1) : rel (m_FR_falter b (b + 86 + 4 * j) σ) (m_Md_falter c (nI j) τ) (fun σ' τ' => RN b c np nw nk nt nl nf σ' τ') := by
  have hs := h1.1
  have hm := h2.1
  have hk := wt_k hs hj
  obtain ⟨-, np', nw', nk', nt', nl', nf', re, a1, a2, a3, a4, a5, a6, a7, a8, a9, a10, a11, a12, a13, a14, a15, a16, a17, a18⟩ := h2
  obtain ⟨w1, w2, w3, w4, w5, w6, w7, w8⟩ := hR.2.2.2.2.2.1 j hj
  obtain ⟨-, -, f, f1, f2⟩ := a12 j hj
  obtain ⟨m, a, p, m6, m1, m2, m3, -⟩ := busy_get a12 a11 hj hb
  have w6 := w6 (Or.inl hb)
  have w8 := w8 (by rw [hb]; decide)
  have e453 : gI σ 453 (b + 86 + 4 * j) = nI a := w6.1.trans m2
  have e454 : gI σ 454 (b + 86 + 4 * j) = nI f := w6.2.trans f2
  have e64 : gI σ 64 b = nI re := hR.2.1.1.trans a7.2
  have e77 := hR.2.1.2.1
  unfold m_FR_falter m_Md_falter
  refine rel_l ((oI_k hk).trans (congrArg some e454)) ?_
  refine rel_l ((xI hs).trans (congrArg some e64)) ?_
  refine rel_r (mP31 hm) ?_
  refine rel_r ((mV23 hm hj).trans (congrArg some f2)) ?_
  refine rel_r ((mI hm).trans (congrArg some a7.2)) ?_
  have hre := a7.1
  by_cases e : f = re
  · subst e
    refine rel_ln (by rw [nI_ltI (by omega) (by omega)]; omega) (rel_rp rfl ?_)
    refine rel_l (xK hs) ?_
    refine rel_r (mP26 hm) ?_
    refine rel_r ((mV18 hm hj).trans (congrArg some m2)) ?_
    refine rel_r (mK hm) ?_
    rw [nI_1]
    exact rel_b (r_giveUp h1 hm hR hj (by omega) e453) (fun σ' τ' q => rel_some q)
  · refine rel_lp (by rw [nI_ltI (by omega) (by omega)]; omega) (rel_rn (fun z => e (nI_inj (by omega) (by omega) z)) ?_)
    refine rel_l ((xI hs).trans (congrArg some e77)) ?_
    refine rel_l ((oI_k hk).trans (congrArg some e454)) ?_
    refine rel_l (sI_k hk) ?_
    refine rel_l (Eq.trans (oI_k (show gK (pI σ 455 (b + 86 + 4 * j) (gI τ 2 c + (1 <<< (nI f &&& 31)))) (b + 86 + 4 * j) = some (.inl 7) from hk)) (congrArg some (show _ = nI f by rw [gI_pIf (by decide)]; exact e454))) ?_
    refine rel_l (sI_k (show gK (pI σ 455 (b + 86 + 4 * j) (gI τ 2 c + (1 <<< (nI f &&& 31)))) (b + 86 + 4 * j) = some (.inl 7) from hk)) ?_
    refine rel_l (sI_k (show gK (pI (pI σ 455 (b + 86 + 4 * j) (gI τ 2 c + (1 <<< (nI f &&& 31)))) 454 (b + 86 + 4 * j) (nI f + 1)) (b + 86 + 4 * j) = some (.inl 7) from hk)) ?_
    refine rel_r (mP25 hm) ?_
    refine rel_r (mS17 hm hj) ?_
    have hm2 : Sm c (pA τ (c + 17) (upd (gV τ (c + 17)) j 2)) := hm
    refine rel_r (mP29 hm2) ?_
    refine rel_r (mI hm2) ?_
    refine rel_r (mP31 hm2) ?_
    refine rel_r (Eq.trans (mV23 hm2 hj) (congrArg some (show _ = nI f by rw [gV_pAn (by omega)]; exact f2))) ?_
    refine rel_r (mS21 hm2 hj) ?_
    have e2 : gI (pA τ (c + 17) (upd (gV τ (c + 17)) j 2)) 2 c = gI τ 2 c := rfl
    rw [e2]
    generalize gI τ 2 c + (1 <<< (nI f &&& 31)) = v
    have hm3 : Sm c (pA (pA τ (c + 17) (upd (gV τ (c + 17)) j 2)) (c + 21) (upd (gV (pA τ (c + 17) (upd (gV τ (c + 17)) j 2)) (c + 21)) j v)) := hm
    refine rel_r (mP31 hm3) ?_
    refine rel_r (Eq.trans (mV23 hm3 hj) (congrArg some (show _ = nI f by rw [gV_pAn (by omega), gV_pAn (by omega)]; exact f2))) ?_
    refine rel_r (mS23 hm3 hj) ?_
    refine rel_some (RN_want hj hR (DX_w (DX_w (DX_w DX_rf))) (DM_a (by decide) (DM_a (by decide) (DM_a (by decide) DM_rf))) ?_)
    refine ⟨?_, ?_, ?_, ?_, fun m' k em h6 hk' => ?_, fun y => ⟨?_, ?_⟩, fun y => ?_, fun y => ⟨?_, fun m' k em h6 hk' => ?_⟩⟩
    · rw [gI_pIf (by decide), gI_pIf (by decide), gI_pIf (by decide), gV_pAn (by omega), gV_pAn (by omega), gV_pAn (by omega)]; exact w1
    · rw [gI_pIf (by decide), gI_pIf (by decide), gI_pIf (by decide), gV_pAn (by omega), gV_pAn (by omega), gV_pAn (by omega)]; exact w2
    · rw [gI_pIs, gV_pAn (by omega), gV_pAn (by omega), gV_pAs, upd_s]
    · rw [gI_pIf (by decide), gI_pIf (by decide), gI_pIf (by decide), gV_pAn (by omega), gV_pAn (by omega), gV_pAn (by omega)]; exact w4
    · rw [gV_pAn (by omega), gV_pAn (by omega), gV_pAn (by omega)] at em
      rw [gV_pI, gV_pI, gV_pI, gV_pAn (by omega), gV_pAn (by omega), gV_pAn (by omega)]
      exact w5 m' k em h6 hk'
    · rw [gI_pIf (by decide), gI_pIf (by decide), gI_pIf (by decide), gV_pAn (by omega), gV_pAn (by omega), gV_pAn (by omega)]; exact w6.1
    · rw [gI_pIf (by decide), gI_pIs, gV_pAs, upd_s]
    · rw [gI_pIf (by decide), gI_pIf (by decide), gI_pIs, gV_pAn (by omega), gV_pAs, upd_s]
    · rw [gI_pIf (by decide), gI_pIf (by decide), gI_pIf (by decide), gV_pAn (by omega), gV_pAn (by omega), gV_pAn (by omega)]; exact w8.1
    · rw [gV_pAn (by omega), gV_pAn (by omega), gV_pAn (by omega)] at em
      rw [gV_pI, gV_pI, gV_pI, gV_pAn (by omega), gV_pAn (by omega), gV_pAn (by omega)]
      exact w8.2 m' k em h6 hk'
/-! a turn: the bytes that a place gives -/
theorem obs {α β : Type} {o : Option α} {a : α} {f : α → Option β} {r : Option β} (h : o = some a) (h2 : f a = r) : o.bind f = r := by
  subst h
  exact h2
theorem oif_p {α : Type} {c : Prop} {hd : Decidable c} {x y r : α} (hc : c) (h : x = r) : (if c then x else y) = r := by rw [if_pos hc]; exact h
theorem oif_n {α : Type} {c : Prop} {hd : Decidable c} {x y r : α} (hc : ¬ c) (h : y = r) : (if c then x else y) = r := by rw [if_neg hc]; exact h
theorem at_eq {b r v k n : Nat} {σ : fr_S} (h : XI b σ) (hp : pr b r v) (hl : gI σ 257 r = nI n) (hn : n ≤ 100) (hk : k < n) : m_Row_at r (nI k) σ = some (gV σ v k) := by
  obtain ⟨⟨k1, k2, k3⟩, -, -⟩ := XI_row h hp
  unfold m_Row_at
  refine oif_n (nI_pos (by omega)) ?_
  refine obs ((oI_k k1).trans (congrArg some hl)) ?_
  refine oif_n (fun z => ?_) ?_
  · rw [nI_leI (by omega) (by omega)] at z
    omega
  refine obs (oP_g k1 k2) ?_
  exact obs (oV_nI k3 (by omega) (by decide)) rfl
theorem append_eq {b r v n : Nat} {σ : fr_S} (h : XI b σ) (hp : pr b r v) (hl : gI σ 257 r = nI n) (hn : n < 100) (x : Int32) : m_Row_append r x σ = some (pA (pI σ 257 r (nI (n + 1))) v (upd (gV σ v) n x)) := by
  obtain ⟨⟨k1, k2, k3⟩, -, -⟩ := XI_row h hp
  unfold m_Row_append
  refine obs ((oI_k k1).trans (congrArg some hl)) ?_
  refine oif_n (fun z => ?_) ?_
  · rw [nI_lit100, nI_leI (by omega) (by omega)] at z
    omega
  refine obs (oP_g k1 k2) ?_
  refine obs ((oI_k k1).trans (congrArg some hl)) ?_
  refine obs (sI_k k1) ?_
  rw [nI_1]
  exact obs (sV_nI (n := 100) (show gK (pI σ 257 r (nI (n + 1))) v = some (.inr (0, 100)) from k3) (by omega) (by decide)) rfl
def gvn (z : Nat) (l x : Int32) : Int32 := if z = 0 ∧ l ≠ 0 then x ^^^ 1 else x
theorem given_eq {b i k n : Nat} {σ : fr_S} (h : XI b σ) (hi : i < 16) (hl : gI σ 257 (b + 39 + 3 * i) = nI n) (hn : n ≤ 100) (hk : k < n) : m_Place_givenByte (b + 38 + 3 * i) (nI k) σ = some (gvn k (gI σ 200 (b + 38 + 3 * i)) (gV σ (b + 40 + 3 * i) k)) := by
  have hs := h.1
  have hr := row_k h (pr_p hi)
  have e := at_eq h (pr_p hi) hl hn hk
  unfold m_Place_givenByte gvn
  by_cases z : k = 0
  · refine oif_p (by rw [z, nI_0]) ?_
    refine obs (oI_k (pl_k hs hi)) ?_
    by_cases l : gI σ 200 (b + 38 + 3 * i) = 0
    · refine oif_p l ?_
      rw [if_neg (fun q => q.2 l)]
      exact obs (pl_r hs hi) (obs (oK_k hr) (obs e rfl))
    · refine oif_n l ?_
      rw [if_pos ⟨z, l⟩]
      exact obs (pl_r hs hi) (obs (oK_k hr) (obs e rfl))
  · refine oif_n (fun q => ?_) ?_
    · rw [← nI_0] at q
      exact z (nI_inj (by omega) (by omega) q)
    rw [if_neg (fun q => z q.1)]
    exact obs (pl_r hs hi) (obs (oK_k hr) (obs e rfl))
/-- what the reference does behind the bytes -/
def mT (c i j : Nat) (y : Int32) (τ : fr_S) : Option fr_S := if gV τ (c + 19) j < gV τ (c + 5) i then (if y = 0 then some τ else (oK τ 0 c).bind fun _ => (m_Md_falter c (nI j) τ).bind fun s => some s) else (oK τ 0 c).bind fun _ => (m_Md_judge c (nI j) τ).bind fun s => some s
/-- a byte more in a want's row -/
theorem RN_byte {b c np nw nk nt nl nf j z : Nat} {σ τ : fr_S} {v : Int32} (hj : j < 10) (hb : gV τ (c + 17) j = 1) (hz : z < 100) (h19 : gV τ (c + 19) j = nI z) (hR : RN b c np nw nk nt nl nf σ τ) : RN b c np nw nk nt nl nf (pA (pI σ 257 (b + 87 + 4 * j) (nI (z + 1))) (b + 88 + 4 * j) (upd (gV σ (b + 88 + 4 * j)) z v)) (pA (pA τ (c + 20) (upd (gV τ (c + 20)) (100 * j + z) v)) (c + 19) (upd (gV τ (c + 19)) j (nI (z + 1)))) := by
  obtain ⟨w1, w2, w3, w4, w5, w6, w7, w8⟩ := hR.2.2.2.2.2.1 j hj
  have w8 := w8 (by rw [hb]; decide)
  have e19 : gV (pA τ (c + 20) (upd (gV τ (c + 20)) (100 * j + z) v)) (c + 19) = gV τ (c + 19) := gV_pAn (by omega)
  have hD : DM c j τ (pA (pA τ (c + 20) (upd (gV τ (c + 20)) (100 * j + z) v)) (c + 19) (upd (gV (pA τ (c + 20) (upd (gV τ (c + 20)) (100 * j + z) v)) (c + 19)) j (nI (z + 1)))) := DM_a (x := 19) (by decide) (DM_b (by omega) DM_rf)
  rw [e19] at hD
  refine RN_want hj hR (DX_v (DX_r DX_rf)) hD ?_
  refine ⟨?_, ?_, ?_, ?_, fun m' k em h6 hk' => ?_, fun y => ?_, fun y => ?_, fun y => ⟨?_, fun m' k em h6 hk' => ?_⟩⟩
  · rw [gI_pA, gI_pIf (by decide), gV_pAn (by omega), gV_pAn (by omega)]; exact w1
  · rw [gI_pA, gI_pIf (by decide), gV_pAn (by omega), gV_pAn (by omega)]; exact w2
  · rw [gI_pA, gI_pIf (by decide), gV_pAn (by omega), gV_pAn (by omega)]; exact w3
  · rw [gI_pA, gI_pIf (by decide), gV_pAn (by omega), gV_pAn (by omega)]; exact w4
  · rw [gV_pAn (by omega), gV_pAn (by omega)] at em
    rw [gV_pAn (by omega), gV_pI, gV_pAn (by omega), gV_pAn (by omega)]
    exact w5 m' k em h6 hk'
  · rw [gI_pA, gI_pIf (by decide), gI_pA, gI_pIf (by decide), gV_pAn (by omega), gV_pAn (by omega), gV_pAn (by omega), gV_pAn (by omega)]; exact w6 (Or.inl hb)
  · rw [gV_pAn (by omega), gV_pAn (by omega), hb] at y
    exact absurd y (by decide)
  · rw [gI_pA, gI_pIs, gV_pAs, upd_s]
  · rw [gV_pAs, upd_s] at em
    have e2 : z + 1 = m' := nI_inj (by omega) (by omega) em
    rw [gV_pAs, gV_pAn (by omega), gV_pAs]
    by_cases ek : k = z
    · rw [ek, upd_s, upd_s]
    · rw [upd_n ek, upd_n (by omega)]
      exact w8.2 z k h19 (by omega) (by omega)
theorem r_give_L {b c np nw nk nt nl nf i j q sz k0 e : Nat} (hi : i < 16) (hj : j < 10) (hsz : sz ≤ 100) (hq : q ≤ 100) (y : Int32) (hy : y = 0 ∨ y = 1) (he : e = min sz (k0 + q)) : ∀ (n t : Nat) (σ τ : fr_S), XI b σ → MI c τ → RN b c np nw nk nt nl nf σ τ → gV τ (c + 17) j = 1 → gV τ (c + 5) i = nI sz → gV τ (c + 19) j = nI (k0 + t) → k0 + t ≤ 100 → t ≤ q → q - t < n → ∃ σ' τ', m_Place_giveTo_L65 n (b + 38 + 3 * i) (b + 87 + 4 * j) y (nI e) (nI (k0 + t)) σ = some (y, σ') ∧ m_Md_turn_L122 n c (nI j) (nI i) y (nI q) (nI t) τ = mT c i j y τ' ∧ RN b c np nw nk nt nl nf σ' τ' ∧ XI b σ' ∧ MI c τ' ∧ gV τ' (c + 17) j = 1 := by
  intro n
  induction n with
  | zero => intro t σ τ _ _ _ _ _ _ _ _ h; omega
  | succ n ih =>
    intro t σ τ h1 h2 hR hb h5 h19 h100 htq hn
    have hs := h1.1
    have hm := h2.1
    by_cases hx : q ≤ t ∨ sz ≤ k0 + t
    · refine ⟨σ, τ, ?_, ?_, hR, h1, h2, hb⟩
      · unfold m_Place_giveTo_L65
        exact oif_p (by rw [nI_leI (by omega) (by omega)]; omega) (obs (show oZ y = some () from if_pos hy) rfl)
      · unfold m_Md_turn_L122 mT
        rw [h19, h5]
        by_cases hqt : q ≤ t
        · refine oif_p (by rw [nI_leI (by omega) (by omega)]; omega) ?_
          refine obs (mP27 hm) (obs ((mV19 hm hj).trans (congrArg some h19)) (obs (mP13 hm) (obs ((mV5 hm hi).trans (congrArg some h5)) ?_)))
          rfl
        · refine oif_n (by rw [nI_leI (by omega) (by omega)]; omega) ?_
          refine obs (mP27 hm) (obs ((mV19 hm hj).trans (congrArg some h19)) (obs (mP13 hm) (obs ((mV5 hm hi).trans (congrArg some h5)) ?_)))
          refine oif_p (by rw [nI_leI (by omega) (by omega)]; omega) ?_
          refine obs (mP27 hm) (obs ((mV19 hm hj).trans (congrArg some h19)) (obs (mP13 hm) (obs ((mV5 hm hi).trans (congrArg some h5)) ?_)))
          rfl
    · have hqt : t < q := by omega
      have hks : k0 + t < sz := by omega
      obtain ⟨-, np', nw', nk', nt', nl', nf', re, a1, a2, a3, a4, a5, a6, a7, a8, a9, a10, -⟩ := id h2
      have hl : gI σ 257 (b + 39 + 3 * i) = nI sz := (hR.2.2.2.2.1 i hi).1.trans h5
      have hg := given_eq h1 hi hl hsz hks
      obtain ⟨-, -, -, -, -, p200, -⟩ := hR.2.2.2.1 i hi
      rw [p200, (hR.2.2.2.2.1 i hi).2 sz (k0 + t) h5 hsz hks] at hg
      obtain ⟨x, hx, hxe⟩ := a10 (100 * i + (k0 + t)) (by omega)
      have hv : ∃ y, y < 256 ∧ gvn (k0 + t) (gV τ (c + 12) i) (gV τ (c + 9) (100 * i + (k0 + t))) = nI y := by
        unfold gvn
        rw [hxe]
        by_cases z : k0 + t = 0 ∧ gV τ (c + 12) i ≠ 0
        · rw [if_pos z]; exact xor1 hx
        · rw [if_neg z]; exact ⟨x, hx, rfl⟩
      obtain ⟨v, hv1, hv2⟩ := hv
      have hl2 : gI σ 257 (b + 87 + 4 * j) = nI (k0 + t) := ((hR.2.2.2.2.2.1 j hj).2.2.2.2.2.2.2 (by rw [hb]; decide)).1.trans h19
      have ha := append_eq h1 (pr_w hj) hl2 (by omega) (nI v)
      have hR1 := RN_byte (v := nI v) hj hb (by omega) h19 hR
      have h11 : XI b (pA (pI σ 257 (b + 87 + 4 * j) (nI (k0 + t + 1))) (b + 88 + 4 * j) (upd (gV σ (b + 88 + 4 * j)) (k0 + t) (nI v))) := XI_val (σ := pI σ 257 (b + 87 + 4 * j) (nI (k0 + t + 1))) (XI_len h1 (by omega)) (pr_ne (pr_w hj)) hv1
      have h21 : MI c (pA (pA τ (c + 20) (upd (gV τ (c + 20)) (100 * j + (k0 + t)) (nI v))) (c + 19) (upd (gV (pA τ (c + 20) (upd (gV τ (c + 20)) (100 * j + (k0 + t)) (nI v))) (c + 19)) j (nI (k0 + t + 1)))) := MI_ha (w := j) (n := k0 + t + 1) (MI_row (k := 100 * j + (k0 + t)) h2 hv1) (by omega)
      have e19 : gV (pA τ (c + 20) (upd (gV τ (c + 20)) (100 * j + (k0 + t)) (nI v))) (c + 19) = gV τ (c + 19) := gV_pAn (by omega)
      rw [e19] at h21
      obtain ⟨σ', τ', E, E', rest⟩ := ih (t + 1) _ _ h11 h21 hR1 (by rw [gV_pAn (by omega), gV_pAn (by omega)]; exact hb) (by rw [gV_pAn (by omega), gV_pAn (by omega)]; exact h5) (by rw [gV_pAs, upd_s]; rfl) (by omega) (by omega) (by omega)
      refine ⟨σ', τ', ?_, ?_, rest⟩
      · unfold m_Place_giveTo_L65
        refine oif_n (by rw [nI_leI (by omega) (by omega)]; omega) ?_
        refine obs (oK_k (pl_k hs hi)) (obs (hg.trans (congrArg some hv2)) (obs (oK_k (row_k h1 (pr_w hj))) (obs ha ?_)))
        rw [nI_1]
        exact E
      · have go : ((sV τ 0 (c + 20) (nI (100 * j + (k0 + t))) (nI v)).bind fun σ_86 => (oP σ_86 0 27 c).bind fun q87 => (oV σ_86 0 q87 (nI j)).bind fun v88 => (sV σ_86 0 q87 (nI j) (v88 + 1)).bind fun σ_89 => m_Md_turn_L122 n c (nI j) (nI i) y (nI q) (nI t + 1) σ_89) = mT c i j y τ' := by
          refine obs (mS20 hm (by omega)) ?_
          have hm1 : Sm c (pA τ (c + 20) (upd (gV τ (c + 20)) (100 * j + (k0 + t)) (nI v))) := hm
          refine obs (mP27 hm1) (obs (Eq.trans (mV19 hm1 hj) (congrArg some (show _ = nI (k0 + t) by rw [e19]; exact h19))) (obs (mS19 hm1 hj) ?_))
          rw [nI_1, nI_1, e19]
          exact E'
        unfold m_Md_turn_L122
        refine oif_n (by rw [nI_leI (by omega) (by omega)]; omega) ?_
        refine obs (mP27 hm) (obs ((mV19 hm hj).trans (congrArg some h19)) (obs (mP13 hm) (obs ((mV5 hm hi).trans (congrArg some h5)) ?_)))
        refine oif_n (by rw [nI_leI (by omega) (by omega)]; omega) ?_
        refine obs (mP17 hm) (obs (mP27 hm) (obs ((mV19 hm hj).trans (congrArg some h19)) ?_))
        rw [nI_100]
        refine obs (mV9 hm (by omega)) (obs (mP28 hm) (obs (mP27 hm) (obs ((mV19 hm hj).trans (congrArg some h19)) (obs (mP27 hm) (obs ((mV19 hm hj).trans (congrArg some h19)) ?_)))))
        rw [nI_100]
        unfold gvn at hv2
        by_cases z : k0 + t = 0
        · refine oif_p (by rw [z, nI_0]) ?_
          refine obs (mP20 hm) (obs (mV12 hm hi) ?_)
          by_cases l : gV τ (c + 12) i = 0
          · refine oif_p l ?_
            rw [if_neg (fun q => q.2 l)] at hv2
            rw [hv2]
            exact go
          · refine oif_n l ?_
            rw [if_pos ⟨z, l⟩] at hv2
            rw [hv2]
            exact go
        · refine oif_n (fun q => ?_) ?_
          · rw [← nI_0] at q
            exact z (nI_inj (by omega) (by omega) q)
          rw [if_neg (fun q => z q.1)] at hv2
          rw [hv2]
          exact go
/-- a kept row more, or a telling more: all else is as it was -/
theorem RN_kt {b c np nw nk nt nl nf nk' nt' : Nat} {σ τ σ' τ' : fr_S} (h : RN b c np nw nk nt nl nf σ τ) (x1 : ∀ f a, f ≠ 387 → f ≠ 322 → (f = 257 → ∀ i, i < 10 → a ≠ b + 8 + 2 * i) → gI σ' f a = gI σ f a) (x2 : ∀ a, a ≠ b + 29 → a ≠ b + 30 → a ≠ b + 31 → a ≠ b + 6 → (∀ i, i < 10 → a ≠ b + 9 + 2 * i) → gV σ' a = gV σ a) (m1 : ∀ f, f ≠ 8 → f ≠ 9 → gI τ' f c = gI τ f c) (m2 : ∀ a, (a < 24 ∨ 29 < a) → gV τ' (c + a) = gV τ (c + a)) (ck : nk' ≤ 10 ∧ gI σ' 322 (b + 5) = nI nk' ∧ gI τ' 8 c = nI nk') (ct : nt' ≤ 60 ∧ gI σ' 387 (b + 28) = nI nt' ∧ gI τ' 9 c = nI nt') (hk : R_k b c nk' σ' τ') (ht : R_t b c nt' σ' τ') : RN b c np nw nk' nt' nl nf σ' τ' := by
  obtain ⟨h_c, h_g, h_h, h_p, h_b, h_w, h_k, h_t, h_l, h_f⟩ := h
  have y1 : ∀ f a, f ≠ 387 → f ≠ 322 → f ≠ 257 → gI σ' f a = gI σ f a := fun f a e1 e2 e3 => x1 f a e1 e2 (fun z => absurd z e3)
  refine ⟨?_, ?_, ?_, ?_, ?_, ?_, hk, ht, ?_, ?_⟩
  · obtain ⟨c1, c2, c3, c4, c5, c6⟩ := h_c
    refine ⟨⟨c1.1, ?_, ?_⟩, ⟨c2.1, ?_, ?_⟩, ck, ct, ⟨c5.1, ?_, ?_⟩, ⟨c6.1, ?_, ?_⟩⟩
    · rw [y1 _ _ (by decide) (by decide) (by decide)]; exact c1.2.1
    · rw [m1 _ (by decide) (by decide)]; exact c1.2.2
    · rw [y1 _ _ (by decide) (by decide) (by decide)]; exact c2.2.1
    · rw [m1 _ (by decide) (by decide)]; exact c2.2.2
    · rw [y1 _ _ (by decide) (by decide) (by decide)]; exact c5.2.1
    · rw [m1 _ (by decide) (by decide)]; exact c5.2.2
    · rw [y1 _ _ (by decide) (by decide) (by decide)]; exact c6.2.1
    · rw [m1 _ (by decide) (by decide)]; exact c6.2.2
  · refine ⟨?_, ?_, ?_⟩
    · rw [y1 _ _ (by decide) (by decide) (by decide), m1 _ (by decide) (by decide)]; exact h_g.1
    · rw [y1 _ _ (by decide) (by decide) (by decide), m1 _ (by decide) (by decide)]; exact h_g.2.1
    · rw [y1 _ _ (by decide) (by decide) (by decide), m1 _ (by decide) (by decide)]; exact h_g.2.2
  · refine ⟨fun i hi => ?_, fun i hi => ?_⟩
    · rw [x2 _ (by omega) (by omega) (by omega) (by omega) (by omega), m2 _ (by decide)]; exact h_h.1 i hi
    · rw [x2 _ (by omega) (by omega) (by omega) (by omega) (by omega), m2 _ (by decide)]; exact h_h.2 i hi
  · intro i hi
    rw [y1 193 _ (by decide) (by decide) (by decide), y1 194 _ (by decide) (by decide) (by decide), y1 195 _ (by decide) (by decide) (by decide), y1 196 _ (by decide) (by decide) (by decide), y1 197 _ (by decide) (by decide) (by decide), y1 198 _ (by decide) (by decide) (by decide), y1 199 _ (by decide) (by decide) (by decide), y1 200 _ (by decide) (by decide) (by decide), y1 201 _ (by decide) (by decide) (by decide), m2 3 (by decide), m2 4 (by decide), m2 6 (by decide), m2 7 (by decide), m2 8 (by decide), m2 10 (by decide), m2 11 (by decide), m2 12 (by decide), m2 13 (by decide)]
    exact h_p i hi
  · intro i hi
    have g := h_b i hi
    refine ⟨?_, fun m k e hm hk => ?_⟩
    · rw [x1 257 _ (by decide) (by decide) (fun _ q hq => by omega), m2 5 (by decide)]; exact g.1
    · rw [m2 5 (by decide)] at e
      rw [x2 _ (by omega) (by omega) (by omega) (by omega) (fun q hq => by omega), m2 9 (by decide)]
      exact g.2 m k e hm hk
  · intro i hi
    obtain ⟨g1, g2, g3, g4, g5, g6, g7, g8⟩ := h_w i hi
    have q17 := congrFun (m2 17 (by decide)) i
    refine ⟨?_, ?_, ?_, ?_, fun m k em hm hk => ?_, fun z => ?_, fun z => ?_, fun z => ?_⟩
    · rw [y1 _ _ (by decide) (by decide) (by decide), m2 14 (by decide)]; exact g1
    · rw [y1 _ _ (by decide) (by decide) (by decide), m2 15 (by decide)]; exact g2
    · rw [y1 _ _ (by decide) (by decide) (by decide), q17]; exact g3
    · rw [y1 _ _ (by decide) (by decide) (by decide), m2 22 (by decide)]; exact g4
    · rw [m2 15 (by decide)] at em
      rw [x2 _ (by omega) (by omega) (by omega) (by omega) (fun q hq => by omega), m2 16 (by decide)]
      exact g5 m k em hm hk
    · rw [q17] at z
      rw [y1 453 _ (by decide) (by decide) (by decide), y1 454 _ (by decide) (by decide) (by decide), m2 18 (by decide), m2 23 (by decide)]
      exact g6 z
    · rw [q17] at z
      rw [y1 _ _ (by decide) (by decide) (by decide), m2 21 (by decide)]
      exact g7 z
    · rw [q17] at z
      have g8 := g8 z
      refine ⟨?_, fun m k em hm hk => ?_⟩
      · rw [x1 257 _ (by decide) (by decide) (fun _ q hq => by omega), m2 19 (by decide)]; exact g8.1
      · rw [m2 19 (by decide)] at em
        rw [x2 _ (by omega) (by omega) (by omega) (by omega) (fun q hq => by omega), m2 20 (by decide)]
        exact g8.2 m k em hm hk
  · intro i hi
    rw [x2 _ (by omega) (by omega) (by omega) (by omega) (fun q hq => by omega), m2 30 (by decide)]
    exact h_l i hi
  · intro i hi
    rw [x2 _ (by omega) (by omega) (by omega) (by omega) (fun q hq => by omega), x2 _ (by omega) (by omega) (by omega) (by omega) (fun q hq => by omega), x2 _ (by omega) (by omega) (by omega) (by omega) (fun q hq => by omega), x2 _ (by omega) (by omega) (by omega) (by omega) (fun q hq => by omega), m2 31 (by decide), m2 32 (by decide), m2 33 (by decide), m2 34 (by decide)]
    exact h_f i hi
/-- a telling more, on both sides -/
theorem r_tell {b c np nw nk nt nl nf : Nat} {σ τ : fr_S} (h1 : XI b σ) (hR : RN b c np nw nk nt nl nf σ τ) (hn : nt < 60) (x y z : Int32) : ∃ σ', m_Tellings_tell (b + 28) x y z σ = some σ' ∧ XI b σ' ∧ (∀ f a, f ≠ 387 → gI σ' f a = gI σ f a) ∧ ∀ τ', Sm c τ' → (∀ f, f ≠ 9 → gI τ' f c = gI τ f c) → (∀ a, (a < 27 ∨ 29 < a) → gV τ' (c + a) = gV τ (c + a)) → gI τ' 9 c = nI (nt + 1) → gV τ' (c + 27) = upd (gV τ (c + 27)) nt x → gV τ' (c + 28) = upd (gV τ (c + 28)) nt y → gV τ' (c + 29) = upd (gV τ (c + 29)) nt z → RN b c np nw nk (nt + 1) nl nf σ' τ' := by
  have hs := h1.1
  have hT := hs.1.2.2.2.2.2.2.1
  have hl := hR.1.2.2.2.1
  have h_k := hR.2.2.2.2.2.2.1
  have h_t := hR.2.2.2.2.2.2.2.1
  have hnk := hR.1.2.2.1.1
  have e29 : ∀ u, gV (pA σ (b + 29) u) (b + 30) = gV σ (b + 30) := fun u => gV_pAn (by omega)
  have e30 : ∀ u u', gV (pA (pA σ (b + 29) u) (b + 30) u') (b + 31) = gV σ (b + 31) := fun u u' => by rw [gV_pAn (by omega), gV_pAn (by omega)]
  refine ⟨pI (pA (pA (pA σ (b + 29) (upd (gV σ (b + 29)) nt x)) (b + 30) (upd (gV σ (b + 30)) nt y)) (b + 31) (upd (gV σ (b + 31)) nt z)) 387 (b + 28) (nI (nt + 1)), ?_, ?_, fun f a hf => ?_, fun τ' hm m1 m2 c9 c27 c28 c29 => ?_⟩
  · unfold m_Tellings_tell
    refine obs ((oI_k hT.2.1).trans (congrArg some hl.2.1)) ?_
    refine oif_p (by rw [show (60 : Int32) = nI 60 by decide +kernel, nI_ltI (by omega) (by omega)]; exact hn) ?_
    refine obs (oP_g hT.2.1 hT.2.2.1) (obs ((oI_k hT.2.1).trans (congrArg some hl.2.1)) (obs (sV_nI (n := 60) hT.2.2.2.1 hn (by decide)) ?_))
    refine obs (oP_g (σ := pA σ (b + 29) (upd (gV σ (b + 29)) nt x)) hT.2.1 hT.2.2.2.2.1) (obs (Eq.trans (oI_k (σ := pA σ (b + 29) (upd (gV σ (b + 29)) nt x)) hT.2.1) (congrArg some hl.2.1)) (obs (sV_nI (σ := pA σ (b + 29) (upd (gV σ (b + 29)) nt x)) (n := 60) hT.2.2.2.2.2.1 hn (by decide)) ?_))
    rw [e29]
    refine obs (oP_g (σ := pA (pA σ (b + 29) (upd (gV σ (b + 29)) nt x)) (b + 30) (upd (gV σ (b + 30)) nt y)) hT.2.1 hT.2.2.2.2.2.2.1) (obs (Eq.trans (oI_k (σ := pA (pA σ (b + 29) (upd (gV σ (b + 29)) nt x)) (b + 30) (upd (gV σ (b + 30)) nt y)) hT.2.1) (congrArg some hl.2.1)) (obs (sV_nI (σ := pA (pA σ (b + 29) (upd (gV σ (b + 29)) nt x)) (b + 30) (upd (gV σ (b + 30)) nt y)) (n := 60) hT.2.2.2.2.2.2.2 hn (by decide)) ?_))
    rw [e30]
    refine obs (Eq.trans (oI_k (σ := pA (pA (pA σ (b + 29) (upd (gV σ (b + 29)) nt x)) (b + 30) (upd (gV σ (b + 30)) nt y)) (b + 31) (upd (gV σ (b + 31)) nt z)) hT.2.1) (congrArg some hl.2.1)) ?_
    rw [nI_1]
    exact obs (sI_k (σ := pA (pA (pA σ (b + 29) (upd (gV σ (b + 29)) nt x)) (b + 30) (upd (gV σ (b + 30)) nt y)) (b + 31) (upd (gV σ (b + 31)) nt z)) hT.2.1) rfl
  · exact XI_cnt (XI_oA (XI_oA (XI_oA h1 (by omega)) (by omega)) (by omega)) (by omega)
  · rw [gI_pIf hf]; rfl
  · refine RN_kt hR (fun f a f1 f2 _ => ?_) (fun a a1 a2 a3 _ _ => ?_) (fun f f1 f2 => m1 f f2) (fun a ha => m2 a (by omega)) ⟨hnk, ?_, ?_⟩ ⟨by omega, ?_, c9⟩ (fun i hi => ?_) (fun i hi => ?_)
    · rw [gI_pIf f1]; rfl
    · rw [gV_pI, gV_pAn a3, gV_pAn a2, gV_pAn a1]
    · rw [gI_pIf (by decide)]; exact hR.1.2.2.1.2.1
    · rw [m1 8 (by decide)]; exact hR.1.2.2.1.2.2
    · rw [gI_pIs]
    · obtain ⟨g1, g2⟩ := h_k i hi
      refine ⟨?_, ?_, fun m k e hm' hk => ?_⟩
      · rw [gV_pI, gV_pAn (by omega), gV_pAn (by omega), gV_pAn (by omega), m2 24 (by decide)]; exact g1
      · rw [gI_pIf (by decide), m2 25 (by decide)]; exact g2.1
      · rw [m2 25 (by decide)] at e
        rw [gV_pI, gV_pAn (by omega), gV_pAn (by omega), gV_pAn (by omega), m2 26 (by decide)]
        exact g2.2 m k e hm' hk
    · rw [c27, c28, c29, gV_pI, gV_pAn (show b + 29 ≠ b + 31 by omega), gV_pAn (show b + 29 ≠ b + 30 by omega), gV_pAs, gV_pI, gV_pAn (show b + 30 ≠ b + 31 by omega), gV_pAs, gV_pI, gV_pAs]
      by_cases e : i = nt
      · rw [e, upd_s, upd_s, upd_s, upd_s, upd_s, upd_s]
        exact ⟨rfl, rfl, rfl⟩
      · rw [upd_n e, upd_n e, upd_n e, upd_n e, upd_n e, upd_n e]
        exact h_t i (by omega)
