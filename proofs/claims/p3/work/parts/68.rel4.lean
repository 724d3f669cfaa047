theorem rel_lp {α β : Type} {c : Prop} {hd : Decidable c} {x y : Option α} {o' : Option β} {Q : α → β → Prop} (hc : c) (h : rel x o' Q) : rel (if c then x else y) o' Q := by rw [if_pos hc]; exact h
theorem rel_ln {α β : Type} {c : Prop} {hd : Decidable c} {x y : Option α} {o' : Option β} {Q : α → β → Prop} (hc : ¬ c) (h : rel y o' Q) : rel (if c then x else y) o' Q := by rw [if_neg hc]; exact h
theorem rel_rp {α β : Type} {c : Prop} {hd : Decidable c} {x y : Option α} {o' : Option β} {Q : β → α → Prop} (hc : c) (h : rel o' x Q) : rel o' (if c then x else y) Q := by rw [if_pos hc]; exact h
theorem rel_rn {α β : Type} {c : Prop} {hd : Decidable c} {x y : Option α} {o' : Option β} {Q : β → α → Prop} (hc : ¬ c) (h : rel o' y Q) : rel o' (if c then x else y) Q := by rw [if_neg hc]; exact h
theorem r_offLine {b c : Nat} {σ τ : fr_S} (h : RR b c σ τ) (x : Int32) (hz : x = 0 ∨ x = 1) : rel (m_FR_offLine b x σ) (m_Md_offLine c x τ) (fun q q' => RR b c q q') := by
  obtain ⟨h1, h2, np, nw, nk, nt, nl, nf, hR⟩ := id h
  have hs := h1.1
  have hm : Sm c (pI τ 1 c 0) := h2.1
  have hR : RN b c np nw nk nt nl nf σ (pI τ 1 c 0) := hR
  have key : rel (m_FR_offLine b x σ) (m_Md_offLine c x τ) (fun q q' => RE b c q q') := by
    unfold m_FR_offLine m_Md_offLine
    refine rel_r (mSI h2.1) ?_
    refine rel_l (sZ_k hs.1.1 hz) ?_
    refine rel_l (sI_k (show gK (pI σ 76 b x) b = _ from hs.1.1)) ?_
    refine rel_r (mSZ hm hz) ?_
    refine rel_r (mSI (τ := pI (pI τ 1 c 0) 3 c x) hm) ?_
    exact rel_some ⟨np, nw, nk, nt, 0, nf, RN_off hR⟩
  refine rel_mono (rel_ev key (x_offLine h1 x hz) (md_offLine h2 x hz)) (fun q q' z => ⟨z.2.1, z.2.2, z.1⟩)
theorem r_place {b c : Nat} {σ τ : fr_S} (h : RR b c σ τ) (x y : Int32) : rel (m_FR_place b x y σ) (m_Md_place c x y τ) (fun q q' => q.1 = q'.1 ∧ RR b c q.2 q'.2) := by
  obtain ⟨h1, h2, np, nw, nk, nt, nl, nf, hR⟩ := id h
  refine RS_end ?_ (x_place h1 x y) (md_place h2 x y)
  have hs := h1.1
  have hm : Sm c (pI τ 1 c 0) := h2.1
  have hR : RN b c np nw nk nt nl nf σ (pI τ 1 c 0) := hR
  have hn := hR.1.1
  have fin : RE b c σ (pI τ 1 c 0) := ⟨np, nw, nk, nt, nl, nf, hR⟩
  unfold m_FR_place m_Md_place
  refine rel_r (mSI h2.1) ?_
  generalize pI τ 1 c 0 = τ1 at hm hR hn fin ⊢
  refine rel_l ((xI hs).trans (congrArg some hn.2.1)) ?_
  refine rel_r ((mI hm).trans (congrArg some hn.2.2)) ?_
  refine rel_il (fun h16 => ?_) (fun h16 => ?_)
  · rw [nI_lit16, nI_leI (by omega) (by omega)] at h16
    have e : np = 16 := by omega
    refine rel_ir (fun _ => rel_some ⟨rfl, fin⟩) (fun z => ?_)
    rw [e] at z
    exact absurd nI_lit16.symm z
  rw [nI_lit16, nI_leI (by omega) (by omega)] at h16
  have hnp : np < 16 := by omega
  refine rel_ir (fun z => ?_) (fun _ => ?_)
  · rw [nI_lit16] at z
    have := nI_inj (by omega) (by omega) z
    omega
  refine rel_el (x_isHost x σ) (fun r hr => ?_)
  rcases hr with ⟨rfl, hr⟩ | ⟨rfl, e1, e2, j, hj, rfl⟩
  · rw [if_pos rfl]
    refine rel_ir (fun _ => rel_some ⟨rfl, fin⟩) (fun z => ?_)
    refine rel_ir (fun _ => rel_some ⟨rfl, fin⟩) (fun z2 => ?_)
    exact absurd ⟨z, z2⟩ hr
  rw [if_neg (by decide), if_neg e1, if_neg e2]
  refine rel_ii (fun _ => rel_some ⟨rfl, fin⟩) (fun _ => ?_)
  refine rel_ii (fun _ => ?_) (fun _ => rel_some ⟨rfl, fin⟩)
  refine rel_l (xp67 hs) ?_
  refine rel_l ((xI hs).trans (congrArg some hn.2.1)) ?_
  refine rel_l (xP hs hnp) ?_
  refine rel_l (sI_k (pl_k hs hnp)) ?_
  refine rel_r (mP11 hm) ?_
  refine rel_r ((mI hm).trans (congrArg some hn.2.2)) ?_
  refine rel_r (mS3 hm hnp) ?_
  have hR2 := RN_p193 (j := np) (v := nI j) hR
  have hs2 : Sx b (pI σ 193 (b + 38 + 3 * np) (nI j)) := hs
  have hm2 : Sm c (pA τ1 (c + 3) (upd (gV τ1 (c + 3)) np (nI j))) := hm
  generalize pI σ 193 (b + 38 + 3 * np) (nI j) = σ2 at hR2 hs2 ⊢
  generalize pA τ1 (c + 3) (upd (gV τ1 (c + 3)) np (nI j)) = τ2 at hR2 hm2 ⊢
  refine rel_l (sI_k (pl_k hs2 hnp)) ?_
  refine rel_r (mP12 hm2) ?_
  refine rel_r ((mI hm2).trans (congrArg some hR2.1.1.2.2)) ?_
  refine rel_r (mS4 hm2 hnp) ?_
  have hR3 := RN_p194 (j := np) (v := y) hR2
  have hs3 : Sx b (pI σ2 194 (b + 38 + 3 * np) y) := hs2
  have hm3 : Sm c (pA τ2 (c + 4) (upd (gV τ2 (c + 4)) np y)) := hm2
  have e4 : gI (pI σ2 194 (b + 38 + 3 * np) y) 194 (b + 38 + 3 * np) = gV (pA τ2 (c + 4) (upd (gV τ2 (c + 4)) np y)) (c + 4) np := by rw [gI_pIs, gV_pAs, upd_s]
  generalize pI σ2 194 (b + 38 + 3 * np) y = σ3 at hR3 hs3 e4 ⊢
  generalize pA τ2 (c + 4) (upd (gV τ2 (c + 4)) np y) = τ3 at hR3 hm3 e4 ⊢
  refine rel_r (mP14 hm3) ?_
  refine rel_r ((mI hm3).trans (congrArg some hR3.1.1.2.2)) ?_
  refine rel_r (mS6 hm3 hnp) ?_
  have hR4 := RN_lead (j := np) (v := -1) (Nat.le_refl np) hR3
  have hm4 : Sm c (pA τ3 (c + 6) (upd (gV τ3 (c + 6)) np (-1))) := hm3
  have e4' : gI σ3 194 (b + 38 + 3 * np) = gV (pA τ3 (c + 6) (upd (gV τ3 (c + 6)) np (-1))) (c + 4) np := by rw [gV_pAn (by omega)]; exact e4
  have e6 : gI σ3 195 (b + 38 + 3 * np) = gV (pA τ3 (c + 6) (upd (gV τ3 (c + 6)) np (-1))) (c + 6) np := by
    rw [gV_pAs, upd_s]
    exact (hR3.2.2.2.1 np hnp).2.2.2.2.2.2.2.2.2 (Nat.le_refl np)
  generalize pA τ3 (c + 6) (upd (gV τ3 (c + 6)) np (-1)) = τ4 at hR4 hm4 e4' e6 ⊢
  refine rel_l ((xI hs3).trans (congrArg some hR4.1.1.2.1)) ?_
  refine rel_l (sI_k hs3.1.1) ?_
  refine rel_r ((mI hm4).trans (congrArg some hR4.1.1.2.2)) ?_
  refine rel_r (mSI hm4) ?_
  rw [nI_1]
  have hR5 := RN_cp (by omega) e4' e6 hR4
  have hm5 : Sm c (pI τ4 6 c (nI (np + 1))) := hm4
  refine rel_r ((mI hm5).trans (congrArg some hR5.1.1.2.2)) ?_
  exact rel_some ⟨show nI np = nI (np + 1) - 1 by rw [nI_sm (by omega)]; rfl, np + 1, nw, nk, nt, nl, nf, hR5⟩
theorem r_cut {b c : Nat} {σ τ : fr_S} (h : RR b c σ τ) (x y z : Int32) : rel (m_FR_cut b x y z σ) (m_Md_cut c x y z τ) (fun q q' => q.1 = q'.1 ∧ RR b c q.2 q'.2) := by
  obtain ⟨h1, h2, np, nw, nk, nt, nl, nf, hR⟩ := id h
  refine RS_end ?_ (x_cut h1 x y z) (md_cut h2 x y z)
  have hs := h1.1
  have hm : Sm c (pI τ 1 c 0) := h2.1
  have hR : RN b c np nw nk nt nl nf σ (pI τ 1 c 0) := hR
  have hn := hR.1.1
  have fin : RE b c σ (pI τ 1 c 0) := ⟨np, nw, nk, nt, nl, nf, hR⟩
  unfold m_FR_cut m_Md_cut
  refine rel_r (mSI h2.1) ?_
  generalize pI τ 1 c 0 = τ1 at hm hR hn fin ⊢
  refine rel_l (xK hs) ?_
  refine rel_r (mK hm) ?_
  refine rel_b (r_isPlace hs hm hR x) (fun r r' hr => ?_)
  rcases hr with ⟨rfl, rfl⟩ | ⟨rfl, rfl, j, hj, rfl⟩
  · exact rel_lp rfl (rel_rp rfl (rel_some ⟨rfl, fin⟩))
  refine rel_ln (by decide) (rel_rn (by decide) ?_)
  refine rel_ii (fun _ => rel_some ⟨rfl, fin⟩) (fun _ => ?_)
  refine rel_ii (fun _ => rel_some ⟨rfl, fin⟩) (fun _ => ?_)
  refine rel_ii (fun _ => rel_some ⟨rfl, fin⟩) (fun _ => ?_)
  refine rel_ii (fun _ => ?_) (fun _ => rel_some ⟨rfl, fin⟩)
  have hj16 : j < 16 := by omega
  refine rel_l (xp67 hs) ?_
  refine rel_l (xP hs hj16) ?_
  refine rel_l (sI_k (pl_k hs hj16)) ?_
  refine rel_r (mP15 hm) ?_
  refine rel_r (mS7 hm hj16) ?_
  have hR2 := RN_p196 (j := j) (v := y) hR
  have hs2 : Sx b (pI σ 196 (b + 38 + 3 * j) y) := hs
  have hm2 : Sm c (pA τ1 (c + 7) (upd (gV τ1 (c + 7)) j y)) := hm
  generalize pI σ 196 (b + 38 + 3 * j) y = σ2 at hR2 hs2 ⊢
  generalize pA τ1 (c + 7) (upd (gV τ1 (c + 7)) j y) = τ2 at hR2 hm2 ⊢
  refine rel_l (xp67 hs2) ?_
  refine rel_l (xP hs2 hj16) ?_
  refine rel_l (sI_k (pl_k hs2 hj16)) ?_
  refine rel_r (mP16 hm2) ?_
  refine rel_r (mS8 hm2 hj16) ?_
  exact rel_some ⟨rfl, np, nw, nk, nt, nl, nf, RN_p197 hR2⟩
theorem r_does {b c : Nat} {σ τ : fr_S} (h : RR b c σ τ) (x y z : Int32) : rel (m_FR_does b x y z σ) (m_Md_does c x y z τ) (fun q q' => q.1 = q'.1 ∧ RR b c q.2 q'.2) := by
  obtain ⟨h1, h2, np, nw, nk, nt, nl, nf, hR⟩ := id h
  refine RS_end ?_ (x_does h1 x y z) (md_does h2 x y z)
  have hs := h1.1
  have hm : Sm c (pI τ 1 c 0) := h2.1
  have hR : RN b c np nw nk nt nl nf σ (pI τ 1 c 0) := hR
  have hn := hR.1.1
  have fin : RE b c σ (pI τ 1 c 0) := ⟨np, nw, nk, nt, nl, nf, hR⟩
  unfold m_FR_does m_Md_does
  refine rel_r (mSI h2.1) ?_
  generalize pI τ 1 c 0 = τ1 at hm hR hn fin ⊢
  refine rel_l (xK hs) ?_
  refine rel_r (mK hm) ?_
  refine rel_b (r_isPlace hs hm hR x) (fun r r' hr => ?_)
  rcases hr with ⟨rfl, rfl⟩ | ⟨rfl, rfl, j, hj, rfl⟩
  · exact rel_lp rfl (rel_rp rfl (rel_some ⟨rfl, fin⟩))
  refine rel_ln (by decide) (rel_rn (by decide) ?_)
  have hj16 : j < 16 := by omega
  have hk := pl_k hs hj16
  refine rel_l (xp67 hs) ?_
  refine rel_l (xP hs hj16) ?_
  by_cases y0 : y = 0
  · subst y0
    refine rel_lp rfl (rel_rn (by decide) (rel_rn (by decide) (rel_rn (by decide) ?_)))
    unfold m_Md_does_B42
    refine rel_rp rfl ?_
    refine rel_r (mP18 hm) ?_
    refine rel_ii (fun _ => ?_) (fun _ => ?_)
    · refine rel_l (sZ_k hk (Or.inl rfl)) ?_
      refine rel_r (mS10 hm hj16) ?_
      unfold m_Md_does_B61 m_Md_does_B73 m_Md_does_B93
      refine rel_rn (by decide) (rel_rn (by decide) (rel_rn (by decide) ?_))
      rw [nar0]
      exact rel_some ⟨rfl, np, nw, nk, nt, nl, nf, RN_p198 hR⟩
    · refine rel_l (sZ_k hk (Or.inr rfl)) ?_
      refine rel_r (mS10 hm hj16) ?_
      unfold m_Md_does_B61 m_Md_does_B73 m_Md_does_B93
      refine rel_rn (by decide) (rel_rn (by decide) (rel_rn (by decide) ?_))
      rw [nar1]
      exact rel_some ⟨rfl, np, nw, nk, nt, nl, nf, RN_p198 hR⟩
  refine rel_ln y0 ?_
  by_cases y1 : y = 1
  · subst y1
    refine rel_lp rfl (rel_rn (by decide) (rel_rn (by decide) (rel_rp rfl ?_)))
    have go : rel ((sI σ 3 195 (b + 38 + 3 * j) z).bind fun σ_12 => some ((1 : Int32), σ_12)) (m_Md_does_B42 c (nI j) 1 z τ1) (RS b c) := by
      unfold m_Md_does_B42 m_Md_does_B61
      refine rel_rn (by decide) (rel_rp rfl ?_)
      refine rel_l (sI_k hk) ?_
      refine rel_r (mP14 hm) ?_
      refine rel_r (mS6 hm hj16) ?_
      unfold m_Md_does_B73 m_Md_does_B93
      refine rel_rn (by decide) (rel_rn (by decide) ?_)
      exact rel_some ⟨rfl, np, nw, nk, nt, nl, nf, RN_p195 hj hR⟩
    refine rel_ii (fun _ => go) (fun _ => ?_)
    refine rel_l (xK hs) ?_
    refine rel_r (mK hm) ?_
    refine rel_b (r_isPlace hs hm hR z) (fun r r' hr => ?_)
    rcases hr with ⟨rfl, rfl⟩ | ⟨rfl, rfl, -⟩
    · exact rel_lp rfl (rel_rp rfl (rel_some ⟨rfl, fin⟩))
    exact rel_ln (by decide) (rel_rn (by decide) go)
  refine rel_ln y1 ?_
  by_cases y2 : y = 2
  · subst y2
    refine rel_lp rfl (rel_rn (by decide) (rel_rn (by decide) (rel_rn (by decide) ?_)))
    unfold m_Md_does_B42 m_Md_does_B61 m_Md_does_B73
    refine rel_rn (by decide) (rel_rn (by decide) (rel_rp rfl ?_))
    refine rel_r (mP19 hm) ?_
    refine rel_ii (fun _ => ?_) (fun _ => ?_)
    · refine rel_l (sZ_k hk (Or.inl rfl)) ?_
      refine rel_r (mS11 hm hj16) ?_
      unfold m_Md_does_B93
      refine rel_rn (by decide) ?_
      rw [nar0]
      exact rel_some ⟨rfl, np, nw, nk, nt, nl, nf, RN_p199 hR⟩
    · refine rel_l (sZ_k hk (Or.inr rfl)) ?_
      refine rel_r (mS11 hm hj16) ?_
      unfold m_Md_does_B93
      refine rel_rn (by decide) ?_
      rw [nar1]
      exact rel_some ⟨rfl, np, nw, nk, nt, nl, nf, RN_p199 hR⟩
  refine rel_ln y2 ?_
  by_cases y3 : y = 3
  · subst y3
    refine rel_lp rfl (rel_rn (by decide) (rel_rn (by decide) (rel_rn (by decide) ?_)))
    unfold m_Md_does_B42 m_Md_does_B61 m_Md_does_B73 m_Md_does_B93
    refine rel_rn (by decide) (rel_rn (by decide) (rel_rn (by decide) (rel_rp rfl ?_)))
    refine rel_r (mP20 hm) ?_
    refine rel_ii (fun _ => ?_) (fun _ => ?_)
    · refine rel_l (sZ_k hk (Or.inl rfl)) ?_
      refine rel_r (mS12 hm hj16) ?_
      rw [nar0]
      exact rel_some ⟨rfl, np, nw, nk, nt, nl, nf, RN_p200 hR⟩
    · refine rel_l (sZ_k hk (Or.inr rfl)) ?_
      refine rel_r (mS12 hm hj16) ?_
      rw [nar1]
      exact rel_some ⟨rfl, np, nw, nk, nt, nl, nf, RN_p200 hR⟩
  refine rel_ln y3 ?_
  refine rel_ir (fun _ => rel_some ⟨rfl, fin⟩) (fun z1 => ?_)
  refine rel_ir (fun _ => rel_some ⟨rfl, fin⟩) (fun z2 => ?_)
  exfalso
  obtain ⟨q, -, hq, rfl⟩ := nI_rng (x := y) (lo := 0) (hi := 3) (by rw [nI_0]; exact z1) (by rw [nI_v3]; exact Int32.not_lt.mp z2) (by decide) (by decide)
  have : q = 0 ∨ q = 1 ∨ q = 2 ∨ q = 3 := by omega
  rcases this with rfl | rfl | rfl | rfl
  · exact y0 nI_0
  · exact y1 nI_v1
  · exact y2 nI_v2
  · exact y3 nI_v3
