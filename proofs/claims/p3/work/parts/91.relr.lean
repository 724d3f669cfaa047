theorem r_fill_L {b c np nw nk nt nl j len k : Nat} {f : Nat → Nat} (hk5 : k ≤ 5) : ∀ (n p seen nf : Nat) (σ τ : fr_S), illL f len n p = -1 → Sx b σ → RN b c np nw nk nt nl nf σ τ → CR σ (b + 87 + 4 * j) (b + 88 + 4 * j) len f → MR c j τ len f → FO c len nf τ → nf ≤ seen → 3 * seen ≤ p → p ≤ len → len - p < n → rel (m_Files_fill_L10 n (b + 33) (b + 87 + 4 * j) (nI k) (nI p) (nI seen) σ) (m_Md_read_L21 n c (nI j) (nI k) 1 (nI (100 * j)) (nI (100 * j + len)) (nI (100 * j + p)) τ) (fun σ' q => ∃ nf', RN b c np nw nk nt nl nf' σ' q.2 ∧ Sx b σ' ∧ Sm c q.2) := by
  intro n
  induction n with
  | zero => intro p seen nf σ τ _ _ _ _ _ _ _ _ _ h; omega
  | succ n ih =>
    intro p seen nf σ τ hill hs hR hC hM hF hnf hsp hp hn
    have hm := hM.1
    have hj := hM.2.1
    have hl := hM.2.2.1
    have hk := hC.1.1
    have hT := hs.1.2.2.2.2.2.2.2.2
    have e33 : (33 : Int32) = nI 33 := by decide +kernel
    have l20 : (20 : Int32) = nI 20 := by decide +kernel
    have hlen := (oI_k (ci := 4) (f := 257) hk).trans (congrArg some hC.2.1)
    unfold m_Files_fill_L10 m_Md_read_L21
    by_cases q1 : len ≤ p
    · refine rel_rp (by rw [nI_leI (by omega) (by omega)]; omega) ?_
      refine rel_il (fun _ => rel_some ⟨nf, hR, hs, hm⟩) (fun _ => ?_)
      refine rel_l hlen ?_
      exact rel_lp (by rw [nI_leI (by omega) (by omega)]; exact q1) (rel_some ⟨nf, hR, hs, hm⟩)
    have hill2 : illE f len p = -1 ∧ illL f len n (nx f p) = -1 := by
      unfold illL at hill
      rw [if_neg q1] at hill
      by_cases q2 : illE f len p = -1
      · rw [if_pos q2] at hill
        exact ⟨q2, hill⟩
      · rw [if_neg q2] at hill
        exact absurd hill q2
    obtain ⟨o1, o2, o3, o4, o5⟩ := illE_ok hl (by omega) hill2.1
    have onx : p + 3 ≤ nx f p := by unfold nx; omega
    have b1 := (hM.2.2.2 p (by omega)).1
    have b2 := (hM.2.2.2 (p + 1 + f p) o3).1
    refine rel_ln (by rw [e33, nI_leI (by omega) (by omega)]; omega) ?_
    refine rel_l hlen ?_
    refine rel_ln (by rw [nI_leI (by omega) (by omega)]; exact q1) ?_
    refine rel_rn (by rw [nI_leI (by omega) (by omega)]; omega) ?_
    refine rel_l (pe_eq hC (by omega)) ?_
    have hsp2 := spL_le f (e := p + 1 + f p) 1000 k (p + 1) (by omega)
    rw [nI_1]
    refine rel_l (show m_Archive_strippedStart (b + 87 + 4 * j) (nI (p + 1)) (nI (p + 1 + f p)) (nI k) σ = _ from spc_eq hC (e := p + 1 + f p) (by omega) 1000 (p + 1) k (p + 1) hk5 (fun _ => rfl) (by omega) (by omega)) ?_
    refine rel_r (mP28 hm) ?_
    refine rel_r (mr_at hM (by omega)) ?_
    have e1 : nI (100 * j + p) + 1 = nI (100 * j + (p + 1)) := nI_1 _
    have e2 : nI (100 * j + (p + 1)) + nI (f p) = nI (100 * j + (p + 1 + f p)) := by rw [nI_add]; congr 1; omega
    have e3 : nI (100 * j + (p + 1 + f p)) + 1 = nI (100 * j + (p + 1 + f p + 1)) := nI_1 _
    have e4 : nI (100 * j + (p + 1 + f p + 1)) + nI (f (p + 1 + f p)) = nI (100 * j + nx f p) := by rw [nI_add]; congr 1; unfold nx; omega
    rw [e1, e2, e3]
    refine rel_rn (by rw [nI_lit1, nI_ltI (by omega) (by omega)]; omega) ?_
    refine rel_rp (by rw [l20, nI_leI (by omega) (by omega)]; omega) ?_
    refine rel_rp (by rw [nI_ltI (by omega) (by omega)]; omega) ?_
    refine rel_r (mK hm) ?_
    have e := rm_eq hM (e := p + 1 + f p) (by omega) 1000 (p + 1) 0 (by omega) (by omega)
    rw [show cnt f (p + 1) 0 = 0 from rfl, nI_0, Nat.add_zero] at e
    refine rel_r (show m_Md_isRight c (nI (100 * j + (p + 1))) (nI (100 * j + (p + 1 + f p))) τ = _ from e) ?_
    refine rel_rn o4 ?_
    refine rel_r (mP28 hm) ?_
    refine rel_r (mr_at hM o3) ?_
    rw [e4]
    refine rel_rp (by rw [nI_leI (by omega) (by omega)]; omega) ?_
    refine rel_r (mK hm) ?_
    refine rel_r (show m_Md_strip c (nI (100 * j + (p + 1))) (nI (100 * j + (p + 1 + f p))) (nI k) τ = _ from spm_eq hM (e := p + 1 + f p) (by omega) 1000 k (p + 1) hk5 (by omega) (by omega)) ?_
    refine rel_rn (by decide) ?_
    generalize hsg : spL f 1000 (p + 1 + f p) k (p + 1) = s at hsp2 ⊢
    by_cases q2 : p + 1 + f p ≤ s
    · refine rel_lp (by rw [nI_leI (by omega) (by omega)]; exact q2) ?_
      refine rel_rp (by rw [nI_leI (by omega) (by omega)]; omega) ?_
      refine rel_l (ee_eq hC (by omega) o3) ?_
      rw [nI_1]
      exact ih (nx f p) (seen + 1) nf σ τ hill2.2 hs hR hC hM hF (by omega) (by omega) o5 (by omega)
    · refine rel_ln (by rw [nI_leI (by omega) (by omega)]; exact q2) ?_
      refine rel_rn (by rw [nI_leI (by omega) (by omega)]; omega) ?_
      obtain ⟨σ', τ', nf', E, E', hn', hs', hR', hC', hM', hF', -⟩ := r_put (s := s) (e := p + 1 + f p) hs hR hC hM hF (by omega) o3 (by omega)
      refine rel_l (oK_k hT.2.1) ?_
      refine rel_l E ?_
      refine rel_l (ee_eq hC' (by omega) o3) ?_
      refine rel_r (mK hm) ?_
      refine rel_r E' ?_
      rw [nI_1]
      exact ih (nx f p) (seen + 1) nf' σ' τ' hill2.2 hs' hR' hC' hM' hF' (by omega) (by omega) o5 (by omega)
theorem r_unpack {b c : Nat} {σ τ : fr_S} (h : RR b c σ τ) (x y : Int32) : rel (m_FR_unpack b x y σ) (m_Md_unpack c x y τ) (fun q q' => q.1 = q'.1 ∧ RR b c q.2 q'.2) := by
  obtain ⟨h1, h2, np, nw, nk, nt, nl, nf, hR⟩ := id h
  refine RS_end ?_ (x_unpack h1 x y) (md_unpack h2 x y)
  have hs := h1.1
  have hm : Sm c (pI τ 1 c 0) := h2.1
  have hR : RN b c np nw nk nt nl nf σ (pI τ 1 c 0) := hR
  have hnw := hR.1.2.1
  have fin : RE b c σ (pI τ 1 c 0) := ⟨np, nw, nk, nt, nl, nf, hR⟩
  unfold m_FR_unpack m_Md_unpack
  refine rel_r (mSI h2.1) ?_
  generalize pI τ 1 c 0 = τ1 at hm hR hnw fin ⊢
  refine rel_l (xK hs) ?_
  refine rel_r (mK hm) ?_
  refine rel_b (r_isWant hs hm hR x) (fun r r' hr => ?_)
  rcases hr with ⟨rfl, rfl⟩ | ⟨rfl, rfl, j, hj, rfl⟩
  · exact rel_lp rfl (rel_rp rfl (rel_some ⟨rfl, fin⟩))
  refine rel_ln (by decide) (rel_rn (by decide) ?_)
  have hj10 : j < 10 := by omega
  have hk := wt_k hs hj10
  obtain ⟨w1, w2, w3, w4, w5, w6, w7, w8⟩ := hR.2.2.2.2.2.1 j hj10
  refine rel_l (xp69 hs) ?_
  refine rel_l (xW hs hj10) ?_
  refine rel_l ((oI_k hk).trans (congrArg some w3)) ?_
  refine rel_r (mP25 hm) ?_
  refine rel_r (mV17 hm hj10) ?_
  refine rel_ii (fun hst => ?_) (fun _ => rel_some ⟨rfl, fin⟩)
  refine rel_ii (fun _ => rel_some ⟨rfl, fin⟩) (fun y0 => ?_)
  refine rel_ii (fun y5 => ?_) (fun _ => rel_some ⟨rfl, fin⟩)
  obtain ⟨k, -, hk5, rfl⟩ := nI_rng (x := y) (lo := 0) (hi := 5) (by rw [nI_0]; exact y0) (by rw [← nI_lit5]; exact y5) (by decide) (by decide)
  have w8 := w8 (by rw [hst]; decide)
  obtain ⟨hrow, ⟨len, hlen, hl⟩, hby⟩ := XI_row h1 (pr_w hj10)
  have h19 : gV τ1 (c + 19) j = nI len := w8.1.symm.trans hl
  have hC : CR σ (b + 87 + 4 * j) (b + 88 + 4 * j) len (fun q => (gV σ (b + 88 + 4 * j) q).toNatClampNeg) := by
    refine ⟨hrow, hl, hlen, fun q hq => ?_⟩
    obtain ⟨v, hv, ev⟩ := hby q (by omega)
    have e : (gV σ (b + 88 + 4 * j) q).toNatClampNeg = v := by rw [ev]; exact nI_clamp (by omega)
    show (gV σ (b + 88 + 4 * j) q).toNatClampNeg < 256 ∧ gV σ (b + 88 + 4 * j) q = nI (gV σ (b + 88 + 4 * j) q).toNatClampNeg
    rw [e]
    exact ⟨hv, ev⟩
  have hM : MR c j τ1 len (fun q => (gV σ (b + 88 + 4 * j) q).toNatClampNeg) := ⟨hm, hj10, hlen, fun q hq => ⟨(hC.2.2.2 q hq).1, (w8.2 len q h19 hlen hq).symm.trans (hC.2.2.2 q hq).2⟩⟩
  generalize (fun q => (gV σ (b + 88 + 4 * j) q).toNatClampNeg) = f at hC hM
  have F1 := fi_eq hC 1000 0 0 (by omega) (by omega) (by omega)
  rw [nI_0] at F1
  have F2 := rd_eq hM h19 hk5 1000 0 (by omega) (by omega)
  have rd : ∀ (τ' : fr_S) (z : Int32), Sm c τ' → gV τ' (c + 19) j = nI len → m_Md_read c (nI j) (nI k) z τ' = m_Md_read_L21 1000 c (nI j) (nI k) z (nI (100 * j)) (nI (100 * j + len)) (nI (100 * j + 0)) τ' := by
    intro τ' z hm' h19'
    unfold m_Md_read
    rw [nI_100w]
    refine obs (mP27 hm') (obs ((mV19 hm' hj10).trans (congrArg some h19')) ?_)
    rw [nI_add, Nat.add_zero]
  refine rel_l (xp69 hs) ?_
  refine rel_l (xW hs hj10) ?_
  refine rel_l (wt_r hs hj10) ?_
  refine rel_l (show m_Archive_findIll (b + 87 + 4 * j) σ = _ from F1) ?_
  refine rel_r (mK hm) ?_
  refine rel_r ((rd τ1 0 hm h19).trans F2) ?_
  refine rel_ii (fun hill => ?_) (fun _ => rel_some ⟨rfl, fin⟩)
  have hT := hs.1.2.2.2.2.2.2.2.2
  refine rel_l (xp75 hs) ?_
  refine rel_l (oK_k hT.2.1) ?_
  refine rel_r (mSI hm) ?_
  have hm2 : Sm c (pI τ1 39 c 0) := hm
  have hs2 : Sx b (pI σ 132 (b + 33) 0) := hs
  have hR2 : RN b c np nw nk nt nl 0 (pI σ 132 (b + 33) 0) (pI τ1 39 c 0) := RN_fi hR (fun g a hg => gI_pIf hg) (fun _ _ => rfl) (fun g hg => gI_pIf hg) (fun _ _ => rfl) ⟨by omega, by rw [gI_pIs, nI_0], by rw [gI_pIs, nI_0]⟩ (fun i hi => absurd hi (by omega))
  have hC2 : CR (pI σ 132 (b + 33) 0) (b + 87 + 4 * j) (b + 88 + 4 * j) len f := CR_mk hC hC.1 (gI_pIf (by decide)) rfl
  have hM2 : MR c j (pI τ1 39 c 0) len f := MR_mk hM hm2 rfl
  have key := r_fill_L hk5 1000 0 0 0 (pI σ 132 (b + 33) 0) (pI τ1 39 c 0) hill hs2 hR2 hC2 hM2 (fun i hi => absurd hi (by omega)) (by omega) (by omega) (by omega) (by omega)
  rw [nI_0] at key
  obtain ⟨σ3, q3, E, E', nf3, hR3, hs3, hm3⟩ := key
  refine rel_l (a := σ3) (show m_Files_fill (b + 33) (b + 87 + 4 * j) (nI k) σ = some σ3 from obs (sI_k hT.2.1) E) ?_
  refine rel_r (mK hm2) ?_
  refine rel_r ((rd (pI τ1 39 c 0) 1 hm2 h19).trans E') ?_
  refine rel_l (xp75 hs3) ?_
  refine rel_l ((oI_k hs3.1.2.2.2.2.2.2.2.2.2.1).trans (congrArg some hR3.1.2.2.2.2.2.2.1)) ?_
  refine rel_r ((mI hm3).trans (congrArg some hR3.1.2.2.2.2.2.2.2)) ?_
  exact rel_some ⟨rfl, np, nw, nk, nt, nl, nf3, hR3⟩
