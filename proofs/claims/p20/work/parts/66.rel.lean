/-- a byte more in a place's row, on both sides -/
theorem RN_app {b c np nw nk nt nl nf j n : Nat} {σ τ : fr_S} {x : Int32} (hj : j < 16) (hn : n < 100) (hl : gV τ (c + 5) j = nI n) (h : RN b c np nw nk nt nl nf σ τ) : RN b c np nw nk nt nl nf (pA (pI σ 257 (b + 39 + 3 * j) (nI (n + 1))) (b + 40 + 3 * j) (upd (gV σ (b + 40 + 3 * j)) n x)) (pA (pA τ (c + 9) (upd (gV τ (c + 9)) (100 * j + n) x)) (c + 5) (upd (gV τ (c + 5)) j (nI (n + 1)))) := by
  obtain ⟨h_c, h_g, h_h, h_p, h_b, h_w, h_k, h_t, h_l, h_f⟩ := h
  have hnk := h_c.2.2.1.1
  refine ⟨?_, ?_, ?_, ?_, ?_, ?_, ?_, ?_, ?_, ?_⟩
  · simpa [R_c, gI_pIx, gV_pI, gI_pA, gV_pAx] using h_c
  · simpa [R_g, gI_pIx, gV_pI, gI_pA, gV_pAx] using h_g
  · refine ⟨fun i hi => ?_, fun i hi => ?_⟩
    · rw [gV_pAn (by omega), gV_pI, gV_pAn (by omega), gV_pAn (by omega)]; exact h_h.1 i hi
    · rw [gV_pAn (by omega), gV_pI, gV_pAn (by omega), gV_pAn (by omega)]; exact h_h.2 i hi
  · simpa [R_p, gI_pIx, gV_pI, gI_pA, gV_pAx] using h_p
  · intro i hi
    obtain ⟨g1, g2⟩ := h_b i hi
    by_cases e : i = j
    · subst e
      refine ⟨?_, fun m k e hm hk => ?_⟩
      · rw [gI_pA, gI_pIs, gV_pAs, upd_s]
      · rw [gV_pAs, upd_s] at e
        have e2 : n + 1 = m := nI_inj (by omega) (by omega) e
        rw [gV_pAs, gV_pAn (by omega), gV_pAs]
        by_cases ek : k = n
        · rw [ek, upd_s, upd_s]
        · rw [upd_n ek, upd_n (by omega)]
          exact g2 n k hl (by omega) (by omega)
    · refine ⟨?_, fun m k em hm hk => ?_⟩
      · rw [gI_pA, gI_pIa (by omega), gV_pAs, upd_n e]; exact g1
      · rw [gV_pAs, upd_n e] at em
        rw [gV_pAn (by omega), gV_pI, gV_pAn (by omega), gV_pAs, upd_n (by omega)]
        exact g2 m k em hm hk
  · intro i hi
    obtain ⟨g1, g2, g3, g4, g5, g6, g7, g8⟩ := h_w i hi
    refine ⟨by simpa [gI_pIx, gV_pI, gI_pA, gV_pAx] using g1, by simpa [gI_pIx, gV_pI, gI_pA, gV_pAx] using g2, by simpa [gI_pIx, gV_pI, gI_pA, gV_pAx] using g3, by simpa [gI_pIx, gV_pI, gI_pA, gV_pAx] using g4, fun m k e hm hk => ?_, by simpa [gI_pIx, gV_pI, gI_pA, gV_pAx] using g6, by simpa [gI_pIx, gV_pI, gI_pA, gV_pAx] using g7, fun z => ?_⟩
    · rw [gV_pAn (by omega), gV_pAn (by omega)] at e
      rw [gV_pAn (by omega), gV_pI, gV_pAn (by omega), gV_pAn (by omega)]
      exact g5 m k e hm hk
    · rw [gV_pAn (by omega), gV_pAn (by omega)] at z
      have g8 := g8 z
      refine ⟨?_, fun m k e hm hk => ?_⟩
      · rw [gI_pA, gI_pIa (by omega), gV_pAn (by omega), gV_pAn (by omega)]; exact g8.1
      · rw [gV_pAn (by omega), gV_pAn (by omega)] at e
        rw [gV_pAn (by omega), gV_pI, gV_pAn (by omega), gV_pAn (by omega)]
        exact g8.2 m k e hm hk
  · intro i hi
    obtain ⟨g1, g2⟩ := h_k i hi
    refine ⟨?_, ?_, fun m k e hm hk => ?_⟩
    · rw [gV_pAn (by omega), gV_pI, gV_pAn (by omega), gV_pAn (by omega)]; exact g1
    · rw [gI_pA, gI_pIa (by omega), gV_pAn (by omega), gV_pAn (by omega)]; exact g2.1
    · rw [gV_pAn (by omega), gV_pAn (by omega)] at e
      rw [gV_pAn (by omega), gV_pI, gV_pAn (by omega), gV_pAn (by omega)]
      exact g2.2 m k e hm hk
  · intro i hi
    obtain ⟨g1, g2, g3⟩ := h_t i hi
    refine ⟨?_, ?_, ?_⟩
    · rw [gV_pAn (by omega), gV_pI, gV_pAn (by omega), gV_pAn (by omega)]; exact g1
    · rw [gV_pAn (by omega), gV_pI, gV_pAn (by omega), gV_pAn (by omega)]; exact g2
    · rw [gV_pAn (by omega), gV_pI, gV_pAn (by omega), gV_pAn (by omega)]; exact g3
  · intro i hi
    rw [gV_pAn (by omega), gV_pI, gV_pAn (by omega), gV_pAn (by omega)]; exact h_l i hi
  · intro i hi
    obtain ⟨g1, g2, g3, g4⟩ := h_f i hi
    refine ⟨?_, ?_, ?_, ?_⟩
    · rw [gV_pAn (by omega), gV_pI, gV_pAn (by omega), gV_pAn (by omega)]; exact g1
    · rw [gV_pAn (by omega), gV_pI, gV_pAn (by omega), gV_pAn (by omega)]; exact g2
    · rw [gV_pAn (by omega), gV_pI, gV_pAn (by omega), gV_pAn (by omega)]; exact g3
    · rw [gV_pAn (by omega), gV_pI, gV_pAn (by omega), gV_pAn (by omega)]; exact g4
theorem r_content_L {b c np nw nk nt nl nf j : Nat} (hj : j < 16) (w : Int64) : ∀ (n q m : Nat) (σ τ : fr_S), Sx b σ → Sm c τ → RN b c np nw nk nt nl nf σ τ → gV τ (c + 5) j = nI m → m + q ≤ 100 → q ≤ 8 → q < n → rel (m_FR_content_L55 n w (b + 39 + 3 * j) (nI q + (-1)) σ) (m_Md_content_L48 n c (nI j) w (nI q + (-1)) τ) (RS b c) := by
  intro n
  induction n with
  | zero => intro q m σ τ _ _ _ _ _ _ h; omega
  | succ n ih =>
    intro q m σ τ hs hm hR hl hmq hq8 hn
    unfold m_FR_content_L55 m_Md_content_L48
    cases q with
    | zero =>
      rw [nI_0]
      exact rel_lp (by decide) (rel_rp (by decide) (rel_some ⟨rfl, np, nw, nk, nt, nl, nf, hR⟩))
    | succ q =>
      rw [pk_m1 q]
      refine rel_ln (nI_pos (by omega)) (rel_rn (nI_pos (by omega)) ?_)
      obtain ⟨k1, k2, k3⟩ := (hs.2.1 j hj).2.2.2
      have hl1 : gI σ 257 (b + 39 + 3 * j) = nI m := (hR.2.2.2.2.1 j hj).1.trans hl
      refine rel_l (oK_k k1) ?_
      have app : m_Row_append (b + 39 + 3 * j) ((fr_lushr w (8 * nI q)).toInt32 &&& 255) σ = some (pA (pI σ 257 (b + 39 + 3 * j) (nI (m + 1))) (b + 40 + 3 * j) (upd (gV σ (b + 40 + 3 * j)) m ((fr_lushr w (8 * nI q)).toInt32 &&& 255))) := by
        unfold m_Row_append
        rw [(oI_k k1).trans (congrArg some hl1)]
        show (if 100 ≤ nI m then some σ else _) = _
        rw [if_neg (by rw [nI_lit100, nI_leI (by omega) (by omega)]; omega), oP_g k1 k2]
        show ((sI σ 4 257 (b + 39 + 3 * j) (nI m + 1)).bind _) = _
        rw [sI_k k1, nI_1]
        show ((sV (pI σ 257 (b + 39 + 3 * j) (nI (m + 1))) 0 (b + 40 + 3 * j) (nI m) _).bind _) = _
        rw [sV_nI (n := 100) (show gK (pI σ 257 (b + 39 + 3 * j) (nI (m + 1))) (b + 40 + 3 * j) = some (.inr (0, 100)) from k3) (by omega) (by decide)]
        rfl
      refine rel_l app ?_
      refine rel_r (mP17 hm) ?_
      refine rel_r (mP13 hm) ?_
      refine rel_r ((mV5 hm hj).trans (congrArg some hl)) ?_
      rw [nI_100, ← byte_eq w (by omega)]
      generalize ((fr_lushr w (8 * nI q)).toInt32 &&& 255) = x
      refine rel_r (mS9 hm (by omega)) ?_
      have hm2 : Sm c (pA τ (c + 9) (upd (gV τ (c + 9)) (100 * j + m) x)) := hm
      refine rel_r (mP13 hm2) ?_
      refine rel_r (Eq.trans (mV5 hm2 hj) (congrArg some (show _ = nI m by rw [gV_pAn (by omega)]; exact hl))) ?_
      refine rel_r (mS5 hm2 hj) ?_
      rw [nI_1, gV_pAn (show c + 5 ≠ c + 9 by omega)]
      have hR2 := RN_app (x := x) hj (by omega) hl hR
      refine ih q (m + 1) _ _ hs hm2 hR2 ?_ (by omega) (by omega) (by omega)
      rw [gV_pAs, upd_s]
theorem r_content {b c : Nat} {σ τ : fr_S} (h : RR b c σ τ) (x : Int32) (w : Int64) (y : Int32) : rel (m_FR_content b x w y σ) (m_Md_content c x w y τ) (fun q q' => q.1 = q'.1 ∧ RR b c q.2 q'.2) := by
  obtain ⟨h1, h2, np, nw, nk, nt, nl, nf, hR⟩ := id h
  refine RS_end ?_ (x_content h1 x w y) (md_content h2 x w y)
  have hs := h1.1
  have hm : Sm c (pI τ 1 c 0) := h2.1
  have hR : RN b c np nw nk nt nl nf σ (pI τ 1 c 0) := hR
  have hn := hR.1.1
  have fin : RE b c σ (pI τ 1 c 0) := ⟨np, nw, nk, nt, nl, nf, hR⟩
  unfold m_FR_content m_Md_content
  refine rel_r (mSI h2.1) ?_
  generalize pI τ 1 c 0 = τ1 at hm hR hn fin ⊢
  refine rel_l (xK hs) ?_
  refine rel_r (mK hm) ?_
  refine rel_b (r_isPlace hs hm hR x) (fun r r' hr => ?_)
  rcases hr with ⟨rfl, rfl⟩ | ⟨rfl, rfl, j, hj, rfl⟩
  · exact rel_lp rfl (rel_rp rfl (rel_some ⟨rfl, fin⟩))
  refine rel_ln (by decide) (rel_rn (by decide) ?_)
  refine rel_ii (fun _ => rel_some ⟨rfl, fin⟩) (fun z1 => ?_)
  have hj16 : j < 16 := by omega
  by_cases z8 : y ≤ 8
  · refine rel_lp z8 (rel_rn (Int32.not_lt.mpr z8) ?_)
    obtain ⟨q, hq1, hq8, rfl⟩ := nI_rng (x := y) (lo := 1) (hi := 8) (by rw [← nI_lit1]; exact z1) (by rw [← nI_lit8]; exact z8) (by decide) (by decide)
    obtain ⟨m, hm1, hm2⟩ := (XI_row h1 (pr_p hj16)).2.1
    have hl : gV τ1 (c + 5) j = nI m := (hR.2.2.2.2.1 j hj16).1.symm.trans hm2
    refine rel_l (xp67 hs) ?_
    refine rel_l (xP hs hj16) ?_
    refine rel_l (pl_r hs hj16) ?_
    refine rel_l ((oI_k (row_k h1 (pr_p hj16))).trans (congrArg some hm2)) ?_
    refine rel_r (mP13 hm) ?_
    refine rel_r ((mV5 hm hj16).trans (congrArg some hl)) ?_
    refine rel_ii (fun z => ?_) (fun _ => rel_some ⟨rfl, fin⟩)
    have e1 : nI q - 1 = nI q + (-1) := by
      rw [nI_r (by omega), nI_sm (by omega)]
    rw [e1]
    exact r_content_L hj16 w 1000 q m σ τ1 hs hm hR hl (nI_ple hm1 hq8 z) hq8 (by omega)
  · refine rel_ln z8 (rel_rp (Int32.not_le.mp z8) ?_)
    exact rel_some ⟨rfl, fin⟩
theorem r_digest_L {b c np nw nk nt nl nf j m : Nat} {σ τ : fr_S} (hs : Sx b σ) (hm : Sm c τ) (hR : RN b c np nw nk nt nl nf σ τ) (hj : j < np) (hm1 : m ≤ 100) (hl : gV τ (c + 5) j = nI m) : ∀ (n k : Nat) (s : Int32), k ≤ m → m - k < n → rel (m_Row_computeDigest_L4 n (b + 39 + 3 * j) s (nI k) σ) (m_Md_digest_L9 n c (nI j) s (nI k) τ) (RQ b c σ) := by
  have hn := hR.1.1
  have hj16 : j < 16 := by omega
  obtain ⟨k1, k2, k3⟩ := (hs.2.1 j hj16).2.2.2
  have hl1 : gI σ 257 (b + 39 + 3 * j) = nI m := (hR.2.2.2.2.1 j hj16).1.trans hl
  have isP : m_Md_isPlace c (nI j) τ = some 1 := by
    unfold m_Md_isPlace
    rw [if_neg (nI_pos (by omega)), (mI hm).trans (congrArg some hn.2.2)]
    show (if nI np ≤ nI j then some (0 : Int32) else some 1) = some 1
    rw [if_neg (by rw [nI_leI (by omega) (by omega)]; omega)]
  intro n
  induction n with
  | zero => intro k s _ h; omega
  | succ n ih =>
    intro k s hk hq
    unfold m_Row_computeDigest_L4 m_Md_digest_L9
    refine rel_l ((oI_k k1).trans (congrArg some hl1)) ?_
    refine rel_r (mK hm) ?_
    refine rel_r isP ?_
    refine rel_rn (by decide) ?_
    refine rel_r (mP13 hm) ?_
    refine rel_r ((mV5 hm hj16).trans (congrArg some hl)) ?_
    refine rel_ii (fun _ => rel_some ⟨rfl, np, nw, nk, nt, nl, nf, hR⟩) (fun z => ?_)
    rw [nI_leI (by omega) (by omega)] at z
    refine rel_l (oP_g k1 k2) ?_
    refine rel_l (oV_nI k3 (by omega) (by decide)) ?_
    refine rel_r (mP17 hm) ?_
    rw [nI_100]
    refine rel_r (mV9 hm (by omega)) ?_
    unfold m_Md_next
    refine rel_r rfl ?_
    rw [nI_1, (hR.2.2.2.2.1 j hj16).2 m k hl hm1 (by omega)]
    exact ih (k + 1) _ (by omega) (by omega)
theorem r_digest {b c : Nat} {σ τ : fr_S} (h : RR b c σ τ) (x : Int32) : rel (m_FR_digest b x σ) (m_Md_digest c x τ) (fun r q => r = q.1 ∧ RR b c σ q.2) := by
  obtain ⟨h1, h2, np, nw, nk, nt, nl, nf, hR⟩ := id h
  refine RQ_end ?_ h1 (md_digest h2 x)
  have hs := h1.1
  have hm : Sm c (pI τ 1 c 0) := h2.1
  have hR : RN b c np nw nk nt nl nf σ (pI τ 1 c 0) := hR
  have hn := hR.1.1
  have fin : RE b c σ (pI τ 1 c 0) := ⟨np, nw, nk, nt, nl, nf, hR⟩
  unfold m_FR_digest m_Md_digest
  refine rel_r (mSI h2.1) ?_
  generalize pI τ 1 c 0 = τ1 at hm hR hn fin ⊢
  refine rel_l (xK hs) ?_
  obtain ⟨r, r', e, e', hr⟩ := r_isPlace hs hm hR x
  refine rel_l e ?_
  rcases hr with ⟨rfl, rfl⟩ | ⟨rfl, rfl, j, hj, rfl⟩
  · refine rel_lp rfl ?_
    unfold m_Md_digest_L9
    exact rel_r (mK hm) (rel_r e' (rel_rp rfl (rel_some ⟨rfl, fin⟩)))
  refine rel_ln (by decide) ?_
  have hj16 : j < 16 := by omega
  obtain ⟨m, hm1, hm2⟩ := (XI_row h1 (pr_p hj16)).2.1
  have hl : gV τ1 (c + 5) j = nI m := (hR.2.2.2.2.1 j hj16).1.symm.trans hm2
  refine rel_l (xp67 hs) ?_
  refine rel_l (xP hs hj16) ?_
  refine rel_l (pl_r hs hj16) ?_
  refine rel_l (oK_k (row_k h1 (pr_p hj16))) ?_
  have key := r_digest_L hs hm hR hj hm1 hl 1000 0 0 (by omega) (by omega)
  rw [nI_0] at key
  obtain ⟨a, a', e1, e2, hq⟩ := key
  unfold m_Row_computeDigest
  refine rel_l e1 ?_
  rw [e2]
  exact rel_some hq
/-- a place more of a want, on both sides -/
theorem RN_add {b c np nw nk nt nl nf j m : Nat} {σ τ : fr_S} {x : Int32} (hj : j < 10) (hm6 : m < 6) (hl : gV τ (c + 15) j = nI m) (h : RN b c np nw nk nt nl nf σ τ) : RN b c np nw nk nt nl nf (pA (pI σ 450 (b + 86 + 4 * j) (nI (m + 1))) (b + 89 + 4 * j) (upd (gV σ (b + 89 + 4 * j)) m x)) (pA (pA τ (c + 16) (upd (gV τ (c + 16)) (6 * j + m) x)) (c + 15) (upd (gV τ (c + 15)) j (nI (m + 1)))) := by
  obtain ⟨h_c, h_g, h_h, h_p, h_b, h_w, h_k, h_t, h_l, h_f⟩ := h
  have hnk := h_c.2.2.1.1
  refine ⟨?_, ?_, ?_, ?_, ?_, ?_, ?_, ?_, ?_, ?_⟩
  · simpa [R_c, gI_pIx, gV_pI, gI_pA, gV_pAx] using h_c
  · simpa [R_g, gI_pIx, gV_pI, gI_pA, gV_pAx] using h_g
  · refine ⟨fun i hi => ?_, fun i hi => ?_⟩
    · rw [gV_pAn (by omega), gV_pI, gV_pAn (by omega), gV_pAn (by omega)]; exact h_h.1 i hi
    · rw [gV_pAn (by omega), gV_pI, gV_pAn (by omega), gV_pAn (by omega)]; exact h_h.2 i hi
  · simpa [R_p, gI_pIx, gV_pI, gI_pA, gV_pAx] using h_p
  · intro i hi
    obtain ⟨g1, g2⟩ := h_b i hi
    refine ⟨?_, fun m k e hm hk => ?_⟩
    · rw [gI_pA, gI_pIf (by decide), gV_pAn (by omega), gV_pAn (by omega)]; exact g1
    · rw [gV_pAn (by omega), gV_pAn (by omega)] at e
      rw [gV_pAn (by omega), gV_pI, gV_pAn (by omega), gV_pAn (by omega)]
      exact g2 m k e hm hk
  · intro i hi
    obtain ⟨g1, g2, g3, g4, g5, g6, g7, g8⟩ := h_w i hi
    refine ⟨by simpa [gI_pIx, gV_pI, gI_pA, gV_pAx] using g1, ?_, by simpa [gI_pIx, gV_pI, gI_pA, gV_pAx] using g3, by simpa [gI_pIx, gV_pI, gI_pA, gV_pAx] using g4, fun m' k e hm hk => ?_, by simpa [gI_pIx, gV_pI, gI_pA, gV_pAx] using g6, by simpa [gI_pIx, gV_pI, gI_pA, gV_pAx] using g7, fun z => ?_⟩
    · by_cases e : i = j
      · subst e
        rw [gI_pA, gI_pIs, gV_pAs, upd_s]
      · rw [gI_pA, gI_pIa (by omega), gV_pAs, upd_n e]; exact g2
    · by_cases ei : i = j
      · subst ei
        rw [gV_pAs, upd_s] at e
        have e2 : m + 1 = m' := nI_inj (by omega) (by omega) e
        rw [gV_pAs, gV_pAn (by omega), gV_pAs]
        by_cases ek : k = m
        · rw [ek, upd_s, upd_s]
        · rw [upd_n ek, upd_n (by omega)]
          exact g5 m k hl (by omega) (by omega)
      · rw [gV_pAs, upd_n ei] at e
        rw [gV_pAn (by omega), gV_pI, gV_pAn (by omega), gV_pAs, upd_n (by omega)]
        exact g5 m' k e hm hk
    · rw [gV_pAn (by omega), gV_pAn (by omega)] at z
      have g8 := g8 z
      refine ⟨?_, fun m k e hm hk => ?_⟩
      · rw [gI_pA, gI_pIf (by decide), gV_pAn (by omega), gV_pAn (by omega)]; exact g8.1
      · rw [gV_pAn (by omega), gV_pAn (by omega)] at e
        rw [gV_pAn (by omega), gV_pI, gV_pAn (by omega), gV_pAn (by omega)]
        exact g8.2 m k e hm hk
  · intro i hi
    obtain ⟨g1, g2⟩ := h_k i hi
    refine ⟨?_, ?_, fun m k e hm hk => ?_⟩
    · rw [gV_pAn (by omega), gV_pI, gV_pAn (by omega), gV_pAn (by omega)]; exact g1
    · rw [gI_pA, gI_pIf (by decide), gV_pAn (by omega), gV_pAn (by omega)]; exact g2.1
    · rw [gV_pAn (by omega), gV_pAn (by omega)] at e
      rw [gV_pAn (by omega), gV_pI, gV_pAn (by omega), gV_pAn (by omega)]
      exact g2.2 m k e hm hk
  · intro i hi
    obtain ⟨g1, g2, g3⟩ := h_t i hi
    refine ⟨?_, ?_, ?_⟩
    · rw [gV_pAn (by omega), gV_pI, gV_pAn (by omega), gV_pAn (by omega)]; exact g1
    · rw [gV_pAn (by omega), gV_pI, gV_pAn (by omega), gV_pAn (by omega)]; exact g2
    · rw [gV_pAn (by omega), gV_pI, gV_pAn (by omega), gV_pAn (by omega)]; exact g3
  · intro i hi
    rw [gV_pAn (by omega), gV_pI, gV_pAn (by omega), gV_pAn (by omega)]; exact h_l i hi
  · intro i hi
    obtain ⟨g1, g2, g3, g4⟩ := h_f i hi
    refine ⟨?_, ?_, ?_, ?_⟩
    · rw [gV_pAn (by omega), gV_pI, gV_pAn (by omega), gV_pAn (by omega)]; exact g1
    · rw [gV_pAn (by omega), gV_pI, gV_pAn (by omega), gV_pAn (by omega)]; exact g2
    · rw [gV_pAn (by omega), gV_pI, gV_pAn (by omega), gV_pAn (by omega)]; exact g3
    · rw [gV_pAn (by omega), gV_pI, gV_pAn (by omega), gV_pAn (by omega)]; exact g4
theorem r_add_L {b c np nw nk nt nl nf j m p : Nat} {σ τ : fr_S} (hs : Sx b σ) (hm : Sm c τ) (hR : RN b c np nw nk nt nl nf σ τ) (hj : j < 10) (hm6 : m < 6) (hl : gV τ (c + 15) j = nI m) : ∀ (n k : Nat), k ≤ m → m - k < n → rel (m_Want_addPlace_L13 n (b + 86 + 4 * j) (nI p) (nI k) σ) (m_Md_from_L45 n c (nI j) (nI p) (nI k) τ) (fun q q' => (q.1 = 0 ∨ q.1 = 1) ∧ RS b c q q') := by
  have hk := wt_k hs hj
  have hv := (hs.2.2.1 j hj).2.2.2.2.2
  have hw := hR.2.2.2.2.2.1 j hj
  have hl1 : gI σ 450 (b + 86 + 4 * j) = nI m := hw.2.1.trans hl
  intro n
  induction n with
  | zero => intro k _ h; omega
  | succ n ih =>
    intro k hkm hn
    unfold m_Want_addPlace_L13 m_Md_from_L45
    refine rel_l ((oI_k hk).trans (congrArg some hl1)) ?_
    refine rel_r (mP23 hm) ?_
    refine rel_r ((mV15 hm hj).trans (congrArg some hl)) ?_
    refine rel_ii (fun _ => ?_) (fun z => ?_)
    · refine rel_l (wt_p hs hj) ?_
      refine rel_l ((oI_k hk).trans (congrArg some hl1)) ?_
      refine rel_l (sI_k hk) ?_
      rw [nI_1]
      refine rel_l (sV_nI (n := 6) (show gK (pI σ 450 (b + 86 + 4 * j) (nI (m + 1))) (b + 89 + 4 * j) = some (.inr (0, 6)) from hv) hm6 (by decide)) ?_
      refine rel_r (mP24 hm) ?_
      refine rel_r (mP23 hm) ?_
      refine rel_r ((mV15 hm hj).trans (congrArg some hl)) ?_
      rw [nI_6]
      refine rel_r (mS16 hm (by omega)) ?_
      have hm2 : Sm c (pA τ (c + 16) (upd (gV τ (c + 16)) (6 * j + m) (nI p))) := hm
      refine rel_r (mP23 hm2) ?_
      refine rel_r (Eq.trans (mV15 hm2 hj) (congrArg some (show _ = nI m by rw [gV_pAn (by omega)]; exact hl))) ?_
      refine rel_r (mS15 hm2 hj) ?_
      rw [nI_1, gV_pAn (show c + 15 ≠ c + 16 by omega)]
      exact rel_some ⟨Or.inr rfl, rfl, np, nw, nk, nt, nl, nf, RN_add hj hm6 hl hR⟩
    · rw [nI_leI (by omega) (by omega)] at z
      refine rel_l (wt_p hs hj) ?_
      refine rel_l (oV_nI hv (by omega) (by decide)) ?_
      refine rel_r (mP24 hm) ?_
      rw [nI_6]
      refine rel_r (mV16 hm (by omega)) ?_
      rw [hw.2.2.2.2.1 m k hl (by omega) (by omega), nI_1]
      exact rel_ii (fun _ => rel_some ⟨Or.inl rfl, rfl, np, nw, nk, nt, nl, nf, hR⟩) (fun _ => ih (k + 1) (by omega) (by omega))
theorem r_from {b c : Nat} {σ τ : fr_S} (h : RR b c σ τ) (x y : Int32) : rel (m_FR_from b x y σ) (m_Md_from c x y τ) (fun q q' => q.1 = q'.1 ∧ RR b c q.2 q'.2) := by
  obtain ⟨h1, h2, np, nw, nk, nt, nl, nf, hR⟩ := id h
  refine RS_end ?_ (x_from h1 x y) (md_from h2 x y)
  have hs := h1.1
  have hm : Sm c (pI τ 1 c 0) := h2.1
  have hR : RN b c np nw nk nt nl nf σ (pI τ 1 c 0) := hR
  have hn := hR.1.1
  have hnw := hR.1.2.1
  have fin : RE b c σ (pI τ 1 c 0) := ⟨np, nw, nk, nt, nl, nf, hR⟩
  unfold m_FR_from m_Md_from
  refine rel_r (mSI h2.1) ?_
  generalize pI τ 1 c 0 = τ1 at hm hR hn hnw fin ⊢
  refine rel_l (xK hs) ?_
  refine rel_r (mK hm) ?_
  refine rel_b (r_isWant hs hm hR x) (fun r r' hr => ?_)
  rcases hr with ⟨rfl, rfl⟩ | ⟨rfl, rfl, j, hj, rfl⟩
  · exact rel_lp rfl (rel_rp rfl (rel_some ⟨rfl, fin⟩))
  refine rel_ln (by decide) (rel_rn (by decide) ?_)
  refine rel_l (xK hs) ?_
  refine rel_r (mK hm) ?_
  refine rel_b (r_isPlace hs hm hR y) (fun r r' hr => ?_)
  rcases hr with ⟨rfl, rfl⟩ | ⟨rfl, rfl, p, hp, rfl⟩
  · exact rel_lp rfl (rel_rp rfl (rel_some ⟨rfl, fin⟩))
  refine rel_ln (by decide) (rel_rn (by decide) ?_)
  have hj10 : j < 10 := by omega
  have hk := wt_k hs hj10
  have hw := hR.2.2.2.2.2.1 j hj10
  refine rel_l (xp69 hs) ?_
  refine rel_l (xW hs hj10) ?_
  refine rel_l ((oI_k hk).trans (congrArg some hw.2.2.1)) ?_
  refine rel_r (mP25 hm) ?_
  refine rel_r (mV17 hm hj10) ?_
  refine rel_ii (fun _ => ?_) (fun _ => rel_some ⟨rfl, fin⟩)
  refine rel_l (xp69 hs) ?_
  refine rel_l (xW hs hj10) ?_
  refine rel_l (oK_k hk) ?_
  obtain ⟨⟨m, m6, hm0, -⟩, -⟩ := xw8 h1 hj10
  have hl : gV τ1 (c + 15) j = nI m := hw.2.1.symm.trans hm0
  refine rel_r (mP23 hm) ?_
  refine rel_r ((mV15 hm hj10).trans (congrArg some hl)) ?_
  have ap : m_Want_addPlace (b + 86 + 4 * j) (nI p) σ = if nI m < 6 then m_Want_addPlace_L13 1000 (b + 86 + 4 * j) (nI p) 0 σ else some (0, σ) := by
    unfold m_Want_addPlace
    rw [(oI_k hk).trans (congrArg some hm0)]
    rfl
  rw [ap]
  by_cases e6 : m = 6
  · subst e6
    refine rel_rp nI_lit6.symm ?_
    rw [if_neg (show ¬ nI 6 < 6 by decide +kernel)]
    exact rel_l (a := (0, σ)) rfl (rel_l (show oZ 0 = some () from if_pos (Or.inl rfl)) (rel_some ⟨rfl, fin⟩))
  · have hlt : m < 6 := by omega
    refine rel_rn (fun z => ?_) ?_
    · rw [nI_lit6] at z
      exact e6 (nI_inj (by omega) (by omega) z)
    have key := r_add_L (p := p) hs hm hR hj10 hlt hl 1000 0 (by omega) (by omega)
    rw [nI_0] at key
    obtain ⟨a, a', e1, e2, hz, hq⟩ := key
    rw [e2, if_pos (show nI m < 6 by rw [nI_lit6, nI_ltI (by omega) (by omega)]; exact hlt), e1]
    exact rel_l (a := a) rfl (rel_l (show oZ a.1 = some () from if_pos hz) (rel_some hq))
/-- what R_w says of one want -/
def W1 (b c j : Nat) (σ τ : fr_S) : Prop := gI σ 451 (b + 86 + 4 * j) = gV τ (c + 14) j ∧ gI σ 450 (b + 86 + 4 * j) = gV τ (c + 15) j ∧ gI σ 452 (b + 86 + 4 * j) = gV τ (c + 17) j ∧ gI σ 456 (b + 86 + 4 * j) = gV τ (c + 22) j ∧ (∀ m k, gV τ (c + 15) j = nI m → m ≤ 6 → k < m → gV σ (b + 89 + 4 * j) k = gV τ (c + 16) (6 * j + k)) ∧ ((gV τ (c + 17) j = 1 ∨ gV τ (c + 17) j = 2) → gI σ 453 (b + 86 + 4 * j) = gV τ (c + 18) j ∧ gI σ 454 (b + 86 + 4 * j) = gV τ (c + 23) j) ∧ (gV τ (c + 17) j = 2 → gI σ 455 (b + 86 + 4 * j) = gV τ (c + 21) j) ∧ (gV τ (c + 17) j ≠ 4 → R_r σ τ (b + 87 + 4 * j) (b + 88 + 4 * j) (gV τ (c + 19) j) (c + 20) (100 * j))
def wA : List Nat := [17, 18, 19, 21, 22, 23]
/-- the class changed in one want's cells alone -/
def DX (b j : Nat) (σ σ' : fr_S) : Prop := (∀ f a, a ≠ b + 86 + 4 * j → a ≠ b + 87 + 4 * j → gI σ' f a = gI σ f a) ∧ ∀ a, a ≠ b + 88 + 4 * j → gV σ' a = gV σ a
/-- the reference changed in one want's places alone -/
def DM (c j : Nat) (τ τ' : fr_S) : Prop := (∀ f, f ≠ 1 → gI τ' f c = gI τ f c) ∧ (∀ a, a ∉ wA → a ≠ 20 → gV τ' (c + a) = gV τ (c + a)) ∧ (∀ a, a ∈ wA → ∀ i, i ≠ j → gV τ' (c + a) i = gV τ (c + a) i) ∧ ∀ k, (k < 100 * j ∨ 100 * j + 100 ≤ k) → gV τ' (c + 20) k = gV τ (c + 20) k
theorem RN_want {b c np nw nk nt nl nf j : Nat} {σ τ σ' τ' : fr_S} (hj : j < 10) (h : RN b c np nw nk nt nl nf σ τ) (hx : DX b j σ σ') (hm : DM c j τ τ') (hw : W1 b c j σ' τ') : RN b c np nw nk nt nl nf σ' τ' := by
  obtain ⟨h_c, h_g, h_h, h_p, h_b, h_w, h_k, h_t, h_l, h_f⟩ := h
  obtain ⟨x1, x2⟩ := hx
  obtain ⟨m1, m2, m3, m4⟩ := hm
  have hnk := h_c.2.2.1.1
  refine ⟨?_, ?_, ?_, ?_, ?_, ?_, ?_, ?_, ?_, ?_⟩
  · obtain ⟨c1, c2, c3, c4, c5, c6⟩ := h_c
    refine ⟨⟨c1.1, ?_, ?_⟩, ⟨c2.1, ?_, ?_⟩, ⟨c3.1, ?_, ?_⟩, ⟨c4.1, ?_, ?_⟩, ⟨c5.1, ?_, ?_⟩, ⟨c6.1, ?_, ?_⟩⟩
    · rw [x1 _ _ (by omega) (by omega)]; exact c1.2.1
    · rw [m1 _ (by decide)]; exact c1.2.2
    · rw [x1 _ _ (by omega) (by omega)]; exact c2.2.1
    · rw [m1 _ (by decide)]; exact c2.2.2
    · rw [x1 _ _ (by omega) (by omega)]; exact c3.2.1
    · rw [m1 _ (by decide)]; exact c3.2.2
    · rw [x1 _ _ (by omega) (by omega)]; exact c4.2.1
    · rw [m1 _ (by decide)]; exact c4.2.2
    · rw [x1 _ _ (by omega) (by omega)]; exact c5.2.1
    · rw [m1 _ (by decide)]; exact c5.2.2
    · rw [x1 _ _ (by omega) (by omega)]; exact c6.2.1
    · rw [m1 _ (by decide)]; exact c6.2.2
  · refine ⟨?_, ?_, ?_⟩
    · rw [x1 _ _ (by omega) (by omega), m1 _ (by decide)]; exact h_g.1
    · rw [x1 _ _ (by omega) (by omega), m1 _ (by decide)]; exact h_g.2.1
    · rw [x1 _ _ (by omega) (by omega), m1 _ (by decide)]; exact h_g.2.2
  · refine ⟨fun i hi => ?_, fun i hi => ?_⟩
    · rw [x2 _ (by omega), m2 _ (by decide) (by decide)]; exact h_h.1 i hi
    · rw [x2 _ (by omega), m2 _ (by decide) (by decide)]; exact h_h.2 i hi
  · intro i hi
    rw [x1 193 _ (by omega) (by omega), x1 194 _ (by omega) (by omega), x1 195 _ (by omega) (by omega), x1 196 _ (by omega) (by omega), x1 197 _ (by omega) (by omega), x1 198 _ (by omega) (by omega), x1 199 _ (by omega) (by omega), x1 200 _ (by omega) (by omega), x1 201 _ (by omega) (by omega), m2 3 (by decide) (by decide), m2 4 (by decide) (by decide), m2 6 (by decide) (by decide), m2 7 (by decide) (by decide), m2 8 (by decide) (by decide), m2 10 (by decide) (by decide), m2 11 (by decide) (by decide), m2 12 (by decide) (by decide), m2 13 (by decide) (by decide)]
    exact h_p i hi
  · intro i hi
    have g := h_b i hi
    refine ⟨?_, fun m k e hm hk => ?_⟩
    · rw [x1 _ _ (by omega) (by omega), m2 5 (by decide) (by decide)]; exact g.1
    · rw [m2 5 (by decide) (by decide)] at e
      rw [x2 _ (by omega), m2 9 (by decide) (by decide)]
      exact g.2 m k e hm hk
  · intro i hi
    by_cases e : i = j
    · subst e
      exact hw
    obtain ⟨g1, g2, g3, g4, g5, g6, g7, g8⟩ := h_w i hi
    have q17 := m3 17 (by decide) i e
    refine ⟨?_, ?_, ?_, ?_, fun m k em hm hk => ?_, fun z => ?_, fun z => ?_, fun z => ?_⟩
    · rw [x1 _ _ (by omega) (by omega), m2 14 (by decide) (by decide)]; exact g1
    · rw [x1 _ _ (by omega) (by omega), m2 15 (by decide) (by decide)]; exact g2
    · rw [x1 _ _ (by omega) (by omega), q17]; exact g3
    · rw [x1 _ _ (by omega) (by omega), m3 22 (by decide) i e]; exact g4
    · rw [m2 15 (by decide) (by decide)] at em
      rw [x2 _ (by omega), m2 16 (by decide) (by decide)]
      exact g5 m k em hm hk
    · rw [q17] at z
      rw [x1 453 _ (by omega) (by omega), x1 454 _ (by omega) (by omega), m3 18 (by decide) i e, m3 23 (by decide) i e]
      exact g6 z
    · rw [q17] at z
      rw [x1 _ _ (by omega) (by omega), m3 21 (by decide) i e]
      exact g7 z
    · rw [q17] at z
      have g8 := g8 z
      refine ⟨?_, fun m k em hm hk => ?_⟩
      · rw [x1 _ _ (by omega) (by omega), m3 19 (by decide) i e]; exact g8.1
      · rw [m3 19 (by decide) i e] at em
        rw [x2 _ (by omega), m4 _ (by omega)]
        exact g8.2 m k em hm hk
  · intro i hi
    obtain ⟨g1, g2⟩ := h_k i hi
    refine ⟨?_, ?_, fun m k e hm hk => ?_⟩
    · rw [x2 _ (by omega), m2 24 (by decide) (by decide)]; exact g1
    · rw [x1 _ _ (by omega) (by omega), m2 25 (by decide) (by decide)]; exact g2.1
    · rw [m2 25 (by decide) (by decide)] at e
      rw [x2 _ (by omega), m2 26 (by decide) (by decide)]
      exact g2.2 m k e hm hk
  · intro i hi
    rw [x2 _ (by omega), x2 _ (by omega), x2 _ (by omega), m2 27 (by decide) (by decide), m2 28 (by decide) (by decide), m2 29 (by decide) (by decide)]
    exact h_t i hi
  · intro i hi
    rw [x2 _ (by omega), m2 30 (by decide) (by decide)]
    exact h_l i hi
  · intro i hi
    rw [x2 _ (by omega), x2 _ (by omega), x2 _ (by omega), x2 _ (by omega), m2 31 (by decide) (by decide), m2 32 (by decide) (by decide), m2 33 (by decide) (by decide), m2 34 (by decide) (by decide)]
    exact h_f i hi
/-- the kept one: the class finds the first, the reference the last; no two have one digest -/
theorem r_kept0 {b c nk : Nat} {σ τ : fr_S} (hs : Sx b σ) (hm : Sm c τ) (hn : nk ≤ 10 ∧ gI σ 322 (b + 5) = nI nk ∧ gI τ 8 c = nI nk) (hK : ∀ i, i < nk → gV σ (b + 6) i = gV τ (c + 24) i) (hd : ∀ k k', k < k' → k' < nk → gV τ (c + 24) k ≠ gV τ (c + 24) k') (x : Int32) : rel (m_Store_find (b + 5) x σ) (m_Md_keptOf c x τ) (fun r r' => r = r' ∧ ((r = -1 ∧ ∀ i, i < nk → gV τ (c + 24) i ≠ x) ∨ ∃ k, k < nk ∧ r = nI k)) := by
  have hT := hs.1.2.2.2.2.2.1
  have key : ∀ (n k : Nat), k ≤ nk → nk - k < n → (∀ i, i < k → gV τ (c + 24) i ≠ x) → ev (m_Store_find_L2 n (b + 5) x (nI k) σ) (fun r => (r = -1 ∧ ∀ i, i < nk → gV τ (c + 24) i ≠ x) ∨ ∃ i, i < nk ∧ r = nI i ∧ gV τ (c + 24) i = x) := by
    intro n
    induction n with
    | zero => intro k _ h; omega
    | succ n ih =>
      intro k hk hq ho
      unfold m_Store_find_L2
      refine ev_bs ((oI_k hT.2.1).trans (congrArg some hn.2.1)) ?_
      refine ev_if (fun z => ?_) (fun z => ?_)
      · rw [nI_leI (by omega) (by omega)] at z
        exact ev_some (Or.inl ⟨rfl, fun i hi => ho i (by omega)⟩)
      rw [nI_leI (by omega) (by omega)] at z
      refine ev_bs (oP_g hT.2.1 hT.2.2.1) ?_
      refine ev_bs ((oV_nI (n := 10) hT.2.2.2.1 (by omega) (by decide)).trans (congrArg some (hK k (by omega)))) ?_
      refine ev_if (fun e => ev_some (Or.inr ⟨k, by omega, rfl, e⟩)) (fun e => ?_)
      rw [nI_1]
      refine ih (k + 1) (by omega) (by omega) (fun i hi => ?_)
      by_cases ei : i = k
      · rw [ei]; exact e
      · exact ho i (by omega)
  have key2 : ∀ (n k : Nat) (y : Int32), k ≤ nk → nk - k < n → ((y = -1 ∧ ∀ i, i < k → gV τ (c + 24) i ≠ x) ∨ ∃ i, i < k ∧ y = nI i ∧ gV τ (c + 24) i = x) → ev (m_Md_keptOf_L4 n c x y (nI k) τ) (fun r => (r = -1 ∧ ∀ i, i < nk → gV τ (c + 24) i ≠ x) ∨ ∃ i, i < nk ∧ r = nI i ∧ gV τ (c + 24) i = x) := by
    intro n
    induction n with
    | zero => intro k y _ h; omega
    | succ n ih =>
      intro k y hk hq ho
      unfold m_Md_keptOf_L4
      refine ev_bs ((mI hm).trans (congrArg some hn.2.2)) ?_
      refine ev_if (fun z => ?_) (fun z => ?_)
      · rw [nI_leI (by omega) (by omega)] at z
        have e : k = nk := by omega
        subst e
        exact ev_some ho
      rw [nI_leI (by omega) (by omega)] at z
      refine ev_bs (mP32 hm) ?_
      refine ev_bs (mV24 hm (by omega)) ?_
      rw [nI_1]
      refine ev_if (fun e => ?_) (fun e => ?_)
      · exact ih (k + 1) (nI k) (by omega) (by omega) (Or.inr ⟨k, by omega, rfl, e⟩)
      · refine ih (k + 1) y (by omega) (by omega) ?_
        rcases ho with ⟨h1, h2⟩ | ⟨i, hi, h1, h2⟩
        · refine Or.inl ⟨h1, fun i hi => ?_⟩
          by_cases ei : i = k
          · rw [ei]; exact e
          · exact h2 i (by omega)
        · exact Or.inr ⟨i, by omega, h1, h2⟩
  have a1 := key 1000 0 (by omega) (by omega) (fun i hi => by omega)
  have a2 := key2 1000 0 (-1) (by omega) (by omega) (Or.inl ⟨rfl, fun i hi => by omega⟩)
  rw [nI_0] at a1 a2
  obtain ⟨r, e1, p1⟩ := a1
  obtain ⟨r', e2, p2⟩ := a2
  refine ⟨r, r', e1, e2, ?_⟩
  rcases p1 with ⟨q1, q2⟩ | ⟨i, hi, q1, q2⟩
  · rcases p2 with ⟨t1, t2⟩ | ⟨i', hi', t1, t2⟩
    · exact ⟨q1.trans t1.symm, Or.inl ⟨q1, q2⟩⟩
    · exact absurd t2 (q2 i' hi')
  · rcases p2 with ⟨t1, t2⟩ | ⟨i', hi', t1, t2⟩
    · exact absurd q2 (t2 i hi)
    · have : i = i' := by
        rcases Nat.lt_trichotomy i i' with l | l | l
        · exact absurd (q2.trans t2.symm) (hd i i' l hi')
        · exact l
        · exact absurd (t2.trans q2.symm) (hd i' i l hi)
      subst this
      exact ⟨q1.trans t1.symm, Or.inr ⟨i, hi, q1⟩⟩
theorem r_kept {b c np nw nk nt nl nf : Nat} {σ τ : fr_S} (hs : Sx b σ) (hm : Sm c τ) (hR : RN b c np nw nk nt nl nf σ τ) (hd : ∀ k k', k < k' → k' < nk → gV τ (c + 24) k ≠ gV τ (c + 24) k') (x : Int32) : rel (m_Store_find (b + 5) x σ) (m_Md_keptOf c x τ) (fun r r' => r = r' ∧ (r = -1 ∨ ∃ k, k < nk ∧ r = nI k)) :=
  rel_mono (r_kept0 hs hm hR.1.2.2.1 (fun i hi => (hR.2.2.2.2.2.2.1 i hi).1) hd x) (fun r r' h => ⟨h.1, h.2.imp (fun z => z.1) id⟩)
theorem DX_rf {b j : Nat} {σ : fr_S} : DX b j σ σ := ⟨fun _ _ _ _ => rfl, fun _ _ => rfl⟩
theorem DX_w {b j f : Nat} {σ σ' : fr_S} {v : Int32} (h : DX b j σ σ') : DX b j σ (pI σ' f (b + 86 + 4 * j) v) := ⟨fun g a h1 h2 => by rw [gI_pIa h1]; exact h.1 g a h1 h2, h.2⟩
theorem DX_r {b j f : Nat} {σ σ' : fr_S} {v : Int32} (h : DX b j σ σ') : DX b j σ (pI σ' f (b + 87 + 4 * j) v) := ⟨fun g a h1 h2 => by rw [gI_pIa h2]; exact h.1 g a h1 h2, h.2⟩
theorem DX_v {b j : Nat} {σ σ' : fr_S} {u : Nat → Int32} (h : DX b j σ σ') : DX b j σ (pA σ' (b + 88 + 4 * j) u) := ⟨h.1, fun a ha => by rw [gV_pAn ha]; exact h.2 a ha⟩
theorem DM_rf {c j : Nat} {τ : fr_S} : DM c j τ τ := ⟨fun _ _ => rfl, fun _ _ _ => rfl, fun _ _ _ _ => rfl, fun _ _ => rfl⟩
theorem DM_a {c j x : Nat} {τ τ' : fr_S} {v : Int32} (hx : x ∈ wA) (h : DM c j τ τ') : DM c j τ (pA τ' (c + x) (upd (gV τ' (c + x)) j v)) := by
  have hx20 : x ≠ 20 := fun e => by rw [e] at hx; exact absurd hx (by decide)
  refine ⟨h.1, fun a ha h20 => ?_, fun a ha i hi => ?_, fun k hk => ?_⟩
  · have hne : a ≠ x := fun e => ha (e ▸ hx)
    rw [gV_pAn (by omega)]
    exact h.2.1 a ha h20
  · by_cases e : a = x
    · subst e
      rw [gV_pAs, upd_n hi]
      exact h.2.2.1 a ha i hi
    · rw [gV_pAn (by omega)]
      exact h.2.2.1 a ha i hi
  · rw [gV_pAn (by omega)]
    exact h.2.2.2 k hk
theorem DM_b {c j k : Nat} {τ τ' : fr_S} {v : Int32} (hk : 100 * j ≤ k ∧ k < 100 * j + 100) (h : DM c j τ τ') : DM c j τ (pA τ' (c + 20) (upd (gV τ' (c + 20)) k v)) := by
  refine ⟨h.1, fun a ha h20 => ?_, fun a ha i hi => ?_, fun q hq => ?_⟩
  · rw [gV_pAn (by omega)]
    exact h.2.1 a ha h20
  · have : a ≠ 20 := fun e => by rw [e] at ha; exact absurd ha (by decide)
    rw [gV_pAn (by omega)]
    exact h.2.2.1 a ha i hi
  · rw [gV_pAs, upd_n (by omega)]
    exact h.2.2.2 q hq
/-- a want that goes on from a number: what class and reference do -/
theorem r_goOn {b c np nw nk nt nl nf j f : Nat} {σ τ : fr_S} (h1 : XI b σ) (hm : Sm c τ) (hR : RN b c np nw nk nt nl nf σ τ) (hj : j < 10) (hf : f ≤ 6) : rel (m_FR_fetchFrom b (b + 86 + 4 * j) (nI f) σ) (m_Md_goOn c (nI j) (nI f) τ) (fun σ' τ' => RN b c np nw nk nt nl nf σ' τ' ∧ Sx b σ' ∧ Sm c τ') := by
  have hs := h1.1
  have hk := wt_k hs hj
  obtain ⟨⟨m, m6, hm0, hpl⟩, -⟩ := xw8 h1 hj
  obtain ⟨w1, w2, w3, w4, w5, -, -, -⟩ := hR.2.2.2.2.2.1 j hj
  have hl0 : gV τ (c + 15) j = nI m := w2.symm.trans hm0
  have hb : ∀ p, p < 16 → gI σ 201 (b + 38 + 3 * p) = gV τ (c + 13) p := fun p hp => (hR.2.2.2.1 p hp).2.2.2.2.2.2.1
  unfold m_FR_fetchFrom m_Md_goOn
  refine rel_r (mP27 hm) ?_
  refine rel_r (Eq.trans (by rw [← nI_0]; exact mS19 hm hj) rfl) ?_
  rw [nI_0]
  have hm1 : Sm c (pA τ (c + 19) (upd (gV τ (c + 19)) j 0)) := hm
  refine rel_r (mP31 hm1) ?_
  refine rel_r (mS23 hm1 hj) ?_
  have dm : DM c j τ (pA (pA τ (c + 19) (upd (gV τ (c + 19)) j 0)) (c + 23) (upd (gV (pA τ (c + 19) (upd (gV τ (c + 19)) j 0)) (c + 23)) j 0)) := DM_a (by decide) (DM_a (by decide) DM_rf)
  have hm2 : Sm c (pA (pA τ (c + 19) (upd (gV τ (c + 19)) j 0)) (c + 23) (upd (gV (pA τ (c + 19) (upd (gV τ (c + 19)) j 0)) (c + 23)) j 0)) := hm
  have z19 : gV (pA (pA τ (c + 19) (upd (gV τ (c + 19)) j 0)) (c + 23) (upd (gV (pA τ (c + 19) (upd (gV τ (c + 19)) j 0)) (c + 23)) j 0)) (c + 19) j = 0 := by rw [gV_pAn (by omega), gV_pAs, upd_s]
  have z23 : gV (pA (pA τ (c + 19) (upd (gV τ (c + 19)) j 0)) (c + 23) (upd (gV (pA τ (c + 19) (upd (gV τ (c + 19)) j 0)) (c + 23)) j 0)) (c + 23) j = 0 := by rw [gV_pAs, upd_s]
  have z22 : gV (pA (pA τ (c + 19) (upd (gV τ (c + 19)) j 0)) (c + 23) (upd (gV (pA τ (c + 19) (upd (gV τ (c + 19)) j 0)) (c + 23)) j 0)) (c + 22) j = gV τ (c + 22) j := by rw [gV_pAn (by omega), gV_pAn (by omega)]
  generalize pA (pA τ (c + 19) (upd (gV τ (c + 19)) j 0)) (c + 23) (upd (gV (pA τ (c + 19) (upd (gV τ (c + 19)) j 0)) (c + 23)) j 0) = τ1 at dm hm2 z19 z23 z22 ⊢
  have e13 := dm.2.1 13 (by decide) (by decide)
  have e14 := dm.2.1 14 (by decide) (by decide)
  have e15 := dm.2.1 15 (by decide) (by decide)
  have e16 := dm.2.1 16 (by decide) (by decide)
  have hl : gV τ1 (c + 15) j = nI m := by rw [e15]; exact hl0
  have key : ∀ (n f : Nat), f ≤ 6 → 6 - f < n → rel (m_FR_fetchFrom_L2 n b (b + 86 + 4 * j) (nI f) σ) (m_Md_goOn_L16 n c (nI j) (nI f) τ1) (fun σ' τ' => RN b c np nw nk nt nl nf σ' τ' ∧ Sx b σ' ∧ Sm c τ') := by
    intro n
    induction n with
    | zero => intro f _ h; omega
    | succ n ih =>
      intro f hf hn
      unfold m_FR_fetchFrom_L2 m_Md_goOn_L16
      refine rel_l ((oI_k hk).trans (congrArg some hm0)) ?_
      refine rel_r (mP23 hm2) ?_
      refine rel_r ((mV15 hm2 hj).trans (congrArg some hl)) ?_
      have hm3 : Sm c (pA τ1 (c + 18) (upd (gV τ1 (c + 18)) j (nI f))) := hm2
      have hl3 : gV (pA τ1 (c + 18) (upd (gV τ1 (c + 18)) j (nI f))) (c + 15) j = nI m := by rw [gV_pAn (by omega)]; exact hl
      have hm3' : DM c j τ (pA τ1 (c + 18) (upd (gV τ1 (c + 18)) j (nI f))) := DM_a (by decide) dm
      refine rel_ii (fun z => ?_) (fun z => ?_)
      · refine rel_l (sI_k hk) ?_
        refine rel_r (mP26 hm2) ?_
        refine rel_r (mS18 hm2 hj) ?_
        refine rel_r (mP25 hm3) ?_
        refine rel_r (mP23 hm3) ?_
        refine rel_r (Eq.trans (mV15 hm3 hj) (congrArg some hl3)) ?_
        refine rel_rp z ?_
        refine rel_r (mS17 hm3 hj) ?_
        refine rel_some ⟨RN_want hj hR (DX_w DX_rf) (DM_a (by decide) hm3') ?_, hs, hm2⟩
        have st : gV (pA (pA τ1 (c + 18) (upd (gV τ1 (c + 18)) j (nI f))) (c + 17) (upd (gV (pA τ1 (c + 18) (upd (gV τ1 (c + 18)) j (nI f))) (c + 17)) j 4)) (c + 17) j = 4 := by rw [gV_pAs, upd_s]
        refine ⟨?_, ?_, ?_, ?_, fun m' k em h6 hk' => ?_, fun y => ?_, fun y => ?_, fun y => absurd st y⟩
        · rw [gI_pIf (by decide), gV_pAn (by omega), gV_pAn (by omega), e14]; exact w1
        · rw [gI_pIf (by decide), gV_pAn (by omega), gV_pAn (by omega), e15]; exact w2
        · rw [gI_pIs, st]
        · rw [gI_pIf (by decide), gV_pAn (by omega), gV_pAn (by omega), z22]; exact w4
        · rw [gV_pAn (by omega), gV_pAn (by omega), e15] at em
          rw [gV_pI, gV_pAn (by omega), gV_pAn (by omega), e16]
          exact w5 m' k em h6 hk'
        · rw [st] at y
          exact absurd y (by decide)
        · rw [st] at y
          exact absurd y (by decide)
      · have z' := z
        rw [nI_leI (by omega) (by omega)] at z
        obtain ⟨p, hp, hpe⟩ := hpl f (by omega)
        have hpe2 : gV τ1 (c + 16) (6 * j + f) = nI p := by rw [e16, ← w5 m f hl0 m6 (by omega)]; exact hpe
        refine rel_l (xp67 hs) ?_
        refine rel_l (wt_p hs hj) ?_
        refine rel_l ((oV_nI (hs.2.2.1 j hj).2.2.2.2.2 (by omega) (by decide)).trans (congrArg some hpe)) ?_
        refine rel_l (xP hs hp) ?_
        refine rel_l ((oI_k (pl_k hs hp)).trans (congrArg some (hb p hp))) ?_
        refine rel_r (mP21 hm2) ?_
        refine rel_r (mP24 hm2) ?_
        rw [nI_6]
        refine rel_r ((mV16 hm2 (by omega)).trans (congrArg some hpe2)) ?_
        refine rel_r ((mV13 hm2 hp).trans (congrArg some (congrFun e13 p))) ?_
        refine rel_ii (fun _ => ?_) (fun _ => ?_)
        · refine rel_l (oK_k hk) ?_
          refine rel_r (mP26 hm2) ?_
          refine rel_r (mS18 hm2 hj) ?_
          refine rel_r (mP25 hm3) ?_
          refine rel_r (mP23 hm3) ?_
          refine rel_r (Eq.trans (mV15 hm3 hj) (congrArg some hl3)) ?_
          refine rel_rn z' ?_
          refine rel_r (mS17 hm3 hj) ?_
          have st0 : m_Want_startAt (b + 86 + 4 * j) (nI f) σ = some (pI (pI (pI (pI σ 453 (b + 86 + 4 * j) (nI f)) 454 (b + 86 + 4 * j) 0) 257 (b + 87 + 4 * j) 0) 452 (b + 86 + 4 * j) 1) := by
            have r4 := row_k h1 (pr_w hj)
            unfold m_Want_startAt
            rw [sI_k hk]
            show ((sI (pI σ 453 (b + 86 + 4 * j) (nI f)) 7 454 (b + 86 + 4 * j) 0).bind _) = _
            rw [sI_k (show gK (pI σ 453 (b + 86 + 4 * j) (nI f)) (b + 86 + 4 * j) = _ from hk)]
            show ((oP (pI (pI σ 453 (b + 86 + 4 * j) (nI f)) 454 (b + 86 + 4 * j) 0) 7 448 (b + 86 + 4 * j)).bind _) = _
            rw [show oP (pI (pI σ 453 (b + 86 + 4 * j) (nI f)) 454 (b + 86 + 4 * j) 0) 7 448 (b + 86 + 4 * j) = some (b + 87 + 4 * j) from wt_r hs hj]
            show ((sI (pI (pI σ 453 (b + 86 + 4 * j) (nI f)) 454 (b + 86 + 4 * j) 0) 4 257 (b + 87 + 4 * j) 0).bind _) = _
            rw [sI_k (show gK (pI (pI σ 453 (b + 86 + 4 * j) (nI f)) 454 (b + 86 + 4 * j) 0) (b + 87 + 4 * j) = _ from r4)]
            show ((sI (pI (pI (pI σ 453 (b + 86 + 4 * j) (nI f)) 454 (b + 86 + 4 * j) 0) 257 (b + 87 + 4 * j) 0) 7 452 (b + 86 + 4 * j) 1).bind _) = _
            rw [sI_k (show gK (pI (pI (pI σ 453 (b + 86 + 4 * j) (nI f)) 454 (b + 86 + 4 * j) 0) 257 (b + 87 + 4 * j) 0) (b + 86 + 4 * j) = _ from hk)]
            rfl
          refine rel_l st0 ?_
          refine rel_some ⟨RN_want hj hR (DX_w (DX_r (DX_w (DX_w DX_rf)))) (DM_a (by decide) hm3') ?_, hs, hm2⟩
          have st : gV (pA (pA τ1 (c + 18) (upd (gV τ1 (c + 18)) j (nI f))) (c + 17) (upd (gV (pA τ1 (c + 18) (upd (gV τ1 (c + 18)) j (nI f))) (c + 17)) j 1)) (c + 17) j = 1 := by rw [gV_pAs, upd_s]
          refine ⟨?_, ?_, ?_, ?_, fun m' k em h6 hk' => ?_, fun y => ⟨?_, ?_⟩, fun y => ?_, fun y => ⟨?_, fun m' k em h6 hk' => ?_⟩⟩
          · rw [gI_pIf (by decide), gI_pIf (by decide), gI_pIf (by decide), gI_pIf (by decide), gV_pAn (by omega), gV_pAn (by omega), e14]; exact w1
          · rw [gI_pIf (by decide), gI_pIf (by decide), gI_pIf (by decide), gI_pIf (by decide), gV_pAn (by omega), gV_pAn (by omega), e15]; exact w2
          · rw [gI_pIs, st]
          · rw [gI_pIf (by decide), gI_pIf (by decide), gI_pIf (by decide), gI_pIf (by decide), gV_pAn (by omega), gV_pAn (by omega), z22]; exact w4
          · rw [gV_pAn (by omega), gV_pAn (by omega), e15] at em
            rw [gV_pI, gV_pI, gV_pI, gV_pI, gV_pAn (by omega), gV_pAn (by omega), e16]
            exact w5 m' k em h6 hk'
          · rw [gI_pIf (by decide), gI_pIf (by decide), gI_pIf (by decide), gI_pIs, gV_pAn (by omega), gV_pAs, upd_s]
          · rw [gI_pIf (by decide), gI_pIf (by decide), gI_pIs, gV_pAn (by omega), gV_pAn (by omega), z23]
          · rw [st] at y
            exact absurd y (by decide)
          · rw [gI_pIf (by decide), gI_pIs, gV_pAn (by omega), gV_pAn (by omega), z19]
          · rw [gV_pAn (by omega), gV_pAn (by omega), z19, ← nI_0] at em
            have := nI_inj (by omega) (by omega) em
            omega
        · rw [nI_1]
          exact ih (f + 1) (by omega) (by omega)
  exact key 1000 f hf (by omega)
/-- a lack more, on both sides -/
theorem RN_lack {b c np nw nk nt nl nf : Nat} {σ τ : fr_S} {x : Int32} (hn : nl < 10) (h : RN b c np nw nk nt nl nf σ τ) : RN b c np nw nk nt (nl + 1) nf (pA (pI σ 74 b (nI (nl + 1))) (b + 32) (upd (gV σ (b + 32)) nl x)) (pI (pA τ (c + 30) (upd (gV τ (c + 30)) nl x)) 10 c (nI (nl + 1))) := by
  obtain ⟨h_c, h_g, h_h, h_p, h_b, h_w, h_k, h_t, h_l, h_f⟩ := h
  have hnk := h_c.2.2.1.1
  refine ⟨?_, ?_, ?_, ?_, ?_, ?_, ?_, ?_, ?_, ?_⟩
  · refine ⟨?_, ?_, ?_, ?_, ⟨by omega, ?_, ?_⟩, ?_⟩
    · simpa [gI_pIx, gI_pA] using h_c.1
    · simpa [gI_pIx, gI_pA] using h_c.2.1
    · simpa [gI_pIx, gI_pA] using h_c.2.2.1
    · simpa [gI_pIx, gI_pA] using h_c.2.2.2.1
    · simp [gI_pIx, gI_pA]
    · simp [gI_pIx]
    · simpa [gI_pIx, gI_pA] using h_c.2.2.2.2.2
  · simpa [R_g, gI_pIx, gI_pA] using h_g
  · simpa [R_h, gV_pI, gV_pAx] using h_h
  · simpa [R_p, gI_pIx, gV_pI, gI_pA, gV_pAx] using h_p
  · intro i hi
    obtain ⟨g1, g2⟩ := h_b i hi
    refine ⟨?_, fun m k e hm hk => ?_⟩
    · rw [gI_pA, gI_pIf (by decide), gV_pI, gV_pAn (by omega)]; exact g1
    · rw [gV_pI, gV_pAn (by omega)] at e
      rw [gV_pAn (by omega), gV_pI, gV_pI, gV_pAn (by omega)]
      exact g2 m k e hm hk
  · intro i hi
    obtain ⟨g1, g2, g3, g4, g5, g6, g7, g8⟩ := h_w i hi
    refine ⟨by simpa [gI_pIx, gV_pI, gI_pA, gV_pAx] using g1, by simpa [gI_pIx, gV_pI, gI_pA, gV_pAx] using g2, by simpa [gI_pIx, gV_pI, gI_pA, gV_pAx] using g3, by simpa [gI_pIx, gV_pI, gI_pA, gV_pAx] using g4, fun m k e hm hk => ?_, by simpa [gI_pIx, gV_pI, gI_pA, gV_pAx] using g6, by simpa [gI_pIx, gV_pI, gI_pA, gV_pAx] using g7, fun z => ?_⟩
    · rw [gV_pI, gV_pAn (by omega)] at e
      rw [gV_pAn (by omega), gV_pI, gV_pI, gV_pAn (by omega)]
      exact g5 m k e hm hk
    · rw [gV_pI, gV_pAn (by omega)] at z
      have g8 := g8 z
      refine ⟨?_, fun m k e hm hk => ?_⟩
      · rw [gI_pA, gI_pIf (by decide), gV_pI, gV_pAn (by omega)]; exact g8.1
      · rw [gV_pI, gV_pAn (by omega)] at e
        rw [gV_pAn (by omega), gV_pI, gV_pI, gV_pAn (by omega)]
        exact g8.2 m k e hm hk
  · intro i hi
    obtain ⟨g1, g2⟩ := h_k i hi
    refine ⟨?_, ?_, fun m k e hm hk => ?_⟩
    · rw [gV_pAn (by omega), gV_pI, gV_pI, gV_pAn (by omega)]; exact g1
    · rw [gI_pA, gI_pIf (by decide), gV_pI, gV_pAn (by omega)]; exact g2.1
    · rw [gV_pI, gV_pAn (by omega)] at e
      rw [gV_pAn (by omega), gV_pI, gV_pI, gV_pAn (by omega)]
      exact g2.2 m k e hm hk
  · simpa [R_t, gV_pI, gV_pAx] using h_t
  · intro i hi
    rw [gV_pAs, gV_pI, gV_pAs]
    by_cases e : i = nl
    · rw [e, upd_s, upd_s]
    · rw [upd_n e, upd_n e]
      exact h_l i (by omega)
  · simpa [R_f, gV_pI, gV_pAx] using h_f
theorem r_note {b c np nw nk nt nl nf : Nat} {σ τ : fr_S} (hs : Sx b σ) (hm : Sm c τ) (hR : RN b c np nw nk nt nl nf σ τ) (x : Int32) (hd : (∀ k, k < nl → gV τ (c + 30) k ≠ x) → nl < 10) : rel (m_FR_noteLacking b x σ) (m_Md_tellLack c x τ) (fun σ' τ' => (∃ nl', RN b c np nw nk nt nl' nf σ' τ') ∧ (∀ a, a ≠ b + 32 → gV σ' a = gV σ a) ∧ (∀ f, f ≠ 74 → ∀ a, gI σ' f a = gI σ f a) ∧ (∀ a, a ≠ c + 30 → gV τ' a = gV τ a) ∧ Sx b σ' ∧ Sm c τ') := by
  have hl := hR.1.2.2.2.2.1
  have hL := hR.2.2.2.2.2.2.2.2.1
  have hT := hs.1.2.2.2.2.2.2.2.1
  have k1 : ∀ (n k : Nat), k ≤ nl → nl - k < n → (∀ i, i < k → gV τ (c + 30) i ≠ x) → ev (m_FR_noteLacking_L2 n b x (nI k) σ) (fun σ' => (σ' = σ ∧ ∃ i, i < nl ∧ gV τ (c + 30) i = x) ∨ ((∀ i, i < nl → gV τ (c + 30) i ≠ x) ∧ σ' = pA (pI σ 74 b (nI (nl + 1))) (b + 32) (upd (gV σ (b + 32)) nl x))) := by
    intro n
    induction n with
    | zero => intro k _ h; omega
    | succ n ih =>
      intro k hk hn ho
      unfold m_FR_noteLacking_L2
      refine ev_bs ((xI hs).trans (congrArg some hl.2.1)) ?_
      refine ev_if (fun z => ?_) (fun z => ?_)
      · rw [nI_leI (by omega) (by omega)] at z
        have all : ∀ i, i < nl → gV τ (c + 30) i ≠ x := fun i hi => ho i (by omega)
        have h10 := hd all
        refine ev_bs ((xI hs).trans (congrArg some hl.2.1)) ?_
        refine ev_if (fun y => ?_) (fun _ => ?_)
        · rw [nI_lit10, nI_leI (by omega) (by omega)] at y
          omega
        refine ev_bs (xp73 hs) ?_
        refine ev_bs ((xI hs).trans (congrArg some hl.2.1)) ?_
        refine ev_bs (sI_k hs.1.1) ?_
        rw [nI_1]
        refine ev_bs (sV_nI (n := 10) (show gK (pI σ 74 b (nI (nl + 1))) (b + 32) = some (.inr (0, 10)) from hT.2) h10 (by decide)) ?_
        exact ev_some (Or.inr ⟨all, rfl⟩)
      · rw [nI_leI (by omega) (by omega)] at z
        refine ev_bs (xp73 hs) ?_
        refine ev_bs ((oV_nI (n := 10) hT.2 (by omega) (by decide)).trans (congrArg some (hL k (by omega)))) ?_
        refine ev_if (fun e => ev_some (Or.inl ⟨rfl, k, by omega, e⟩)) (fun e => ?_)
        rw [nI_1]
        refine ih (k + 1) (by omega) (by omega) (fun i hi => ?_)
        by_cases ei : i = k
        · rw [ei]; exact e
        · exact ho i (by omega)
  have k2 : ∀ (n k : Nat) (y : Int32), k ≤ nl → nl - k < n → ((y = 0 ∧ ∀ i, i < k → gV τ (c + 30) i ≠ x) ∨ (y = 1 ∧ ∃ i, i < nl ∧ gV τ (c + 30) i = x)) → ev (m_Md_tellLack_L4 n c x y (nI k) τ) (fun τ' => (τ' = τ ∧ ∃ i, i < nl ∧ gV τ (c + 30) i = x) ∨ ((∀ i, i < nl → gV τ (c + 30) i ≠ x) ∧ τ' = pI (pA τ (c + 30) (upd (gV τ (c + 30)) nl x)) 10 c (nI (nl + 1)))) := by
    intro n
    induction n with
    | zero => intro k y _ h; omega
    | succ n ih =>
      intro k y hk hn ho
      unfold m_Md_tellLack_L4
      refine ev_bs ((mI hm).trans (congrArg some hl.2.2)) ?_
      refine ev_if (fun z => ?_) (fun z => ?_)
      · rw [nI_leI (by omega) (by omega)] at z
        rcases ho with ⟨rfl, ho⟩ | ⟨rfl, ho⟩
        · have all : ∀ i, i < nl → gV τ (c + 30) i ≠ x := fun i hi => ho i (by omega)
          have h10 := hd all
          rw [if_pos rfl]
          refine ev_bs (mP38 hm) ?_
          refine ev_bs ((mI hm).trans (congrArg some hl.2.2)) ?_
          refine ev_bs (mS30 hm h10) ?_
          have hm2 : Sm c (pA τ (c + 30) (upd (gV τ (c + 30)) nl x)) := hm
          refine ev_bs (Eq.trans (mI hm2) (congrArg some (show _ = nI nl from hl.2.2))) ?_
          refine ev_bs (mSI hm2) ?_
          rw [nI_1]
          exact ev_some (Or.inr ⟨all, rfl⟩)
        · rw [if_neg (by decide)]
          exact ev_some (Or.inl ⟨rfl, ho⟩)
      · rw [nI_leI (by omega) (by omega)] at z
        rcases ho with ⟨rfl, ho⟩ | ⟨rfl, ho⟩
        · rw [if_pos rfl]
          refine ev_bs (mP38 hm) ?_
          refine ev_bs (mV30 hm (by omega)) ?_
          rw [nI_1]
          refine ev_if (fun e => ih (k + 1) 1 (by omega) (by omega) (Or.inr ⟨rfl, k, by omega, e⟩)) (fun e => ih (k + 1) 0 (by omega) (by omega) (Or.inl ⟨rfl, fun i hi => ?_⟩))
          by_cases ei : i = k
          · rw [ei]; exact e
          · exact ho i (by omega)
        · rw [if_neg (by decide), nI_1]
          exact ih (k + 1) 1 (by omega) (by omega) (Or.inr ⟨rfl, ho⟩)
  have a1 := k1 1000 0 (by omega) (by omega) (fun i hi => by omega)
  have a2 := k2 1000 0 0 (by omega) (by omega) (Or.inl ⟨rfl, fun i hi => by omega⟩)
  rw [nI_0] at a1 a2
  obtain ⟨σ', e1, p1⟩ := a1
  obtain ⟨τ', e2, p2⟩ := a2
  refine ⟨σ', τ', e1, e2, ?_⟩
  rcases p1 with ⟨rfl, i, hi, q⟩ | ⟨q, rfl⟩
  · rcases p2 with ⟨rfl, -⟩ | ⟨t, -⟩
    · exact ⟨⟨nl, hR⟩, fun _ _ => rfl, fun _ _ _ => rfl, fun _ _ => rfl, hs, hm⟩
    · exact absurd q (t i hi)
  · rcases p2 with ⟨-, i, hi, t⟩ | ⟨-, rfl⟩
    · exact absurd t (q i hi)
    · exact ⟨⟨nl + 1, RN_lack (hd q) hR⟩, fun a ha => by rw [gV_pAn ha, gV_pI], fun f hf a => by rw [gI_pA, gI_pIf hf], fun a ha => by rw [gV_pI, gV_pAn ha], hs, hm⟩
theorem r_isBusy {b j : Nat} {σ : fr_S} (hs : Sx b σ) (hj : j < 10) : ev (m_Want_isBusy (b + 86 + 4 * j) σ) (fun r => (r = 1 ∧ (gI σ 452 (b + 86 + 4 * j) = 1 ∨ gI σ 452 (b + 86 + 4 * j) = 2)) ∨ (r = 0 ∧ gI σ 452 (b + 86 + 4 * j) ≠ 1 ∧ gI σ 452 (b + 86 + 4 * j) ≠ 2)) := by
  unfold m_Want_isBusy
  refine ev_bs (oI_k (wt_k hs hj)) ?_
  refine ev_if (fun e => ev_some (Or.inl ⟨rfl, Or.inl e⟩)) (fun e => ?_)
  refine ev_bs (oI_k (wt_k hs hj)) ?_
  exact ev_if (fun e2 => ev_some (Or.inl ⟨rfl, Or.inr e2⟩)) (fun e2 => ev_some (Or.inr ⟨rfl, e, e2⟩))
theorem r_copy {b r v r0 v0 n : Nat} {σ : fr_S} (h : XI b σ) (hp : pr b r v) (hp0 : pr b r0 v0) (hl : gI σ 257 r0 = nI n) (hn : n ≤ 100) : m_Row_copyFrom r r0 σ = some (pI (pA σ v (va_cpy (gV σ v0) (gV σ v) 0 0 n)) 257 r (nI n)) := by
  obtain ⟨⟨k1, k2, k3⟩, -, hv⟩ := XI_row h hp
  obtain ⟨⟨q1, q2, q3⟩, -, hv0⟩ := XI_row h hp0
  unfold m_Row_copyFrom
  have hc : sC σ v0 0 v 0 (nI n) = some (pA σ v (va_cpy (gV σ v0) (gV σ v) 0 0 n)) := by
    unfold sC
    rw [q3, k3]
    have e0 : (0 : Int32).toNatClampNeg = 0 := by decide +kernel
    have e1 : (nI n).toNatClampNeg = n := nI_clamp (by omega)
    simp only [e0, e1]
    rw [if_pos ⟨⟨trivial, trivial⟩, ⟨by decide, by decide, nI_pos (by omega)⟩, by omega, by omega⟩]
  have key : ev (((oP σ 4 256 r0).bind fun q1 => (oP σ 4 256 r).bind fun q2 => (oI σ 4 257 r0).bind fun v3 => (sC σ q1 0 q2 0 v3).bind fun σ_4 => (oI σ_4 4 257 r0).bind fun v5 => (sI σ_4 4 257 r v5).bind fun σ_6 => some σ_6)) (fun σ' => σ' = pI (pA σ v (va_cpy (gV σ v0) (gV σ v) 0 0 n)) 257 r (nI n)) := by
    refine ev_bs (oP_g q1 q2) ?_
    refine ev_bs (oP_g k1 k2) ?_
    refine ev_bs ((oI_k q1).trans (congrArg some hl)) ?_
    refine ev_bs hc ?_
    refine ev_bs (Eq.trans (oI_k (show gK (pA σ v (va_cpy (gV σ v0) (gV σ v) 0 0 n)) r0 = some (.inl 4) from q1)) (congrArg some (show gI (pA σ v (va_cpy (gV σ v0) (gV σ v) 0 0 n)) 257 r0 = nI n from hl))) ?_
    refine ev_bs (sI_k (show gK (pA σ v (va_cpy (gV σ v0) (gV σ v) 0 0 n)) r = some (.inl 4) from k1)) ?_
    exact ev_some rfl
  obtain ⟨a, e, rfl⟩ := key
  exact e
/-- the reference's copy of a kept row -/
theorem r_copyM {c j k m : Nat} {τ : fr_S} (hj : j < 10) (hk : k < 10) (hm1 : m ≤ 100) : ∀ (n y : Nat) (τ' : fr_S), Sm c τ' → DM c j τ τ' → gV τ' (c + 19) j = nI m → gV τ' (c + 22) j = gV τ (c + 22) j → (∀ i, i < y → gV τ' (c + 20) (100 * j + i) = gV τ (c + 26) (100 * k + i)) → y ≤ m → m - y < n → ev (m_Md_begin_L65 n c (nI j) (nI k) (nI y) τ') (fun q => q.1 = 3 ∧ DM c j τ q.2 ∧ gV q.2 (c + 17) j = 3 ∧ gV q.2 (c + 19) j = nI m ∧ gV q.2 (c + 22) j = gV τ (c + 22) j ∧ ∀ i, i < m → gV q.2 (c + 20) (100 * j + i) = gV τ (c + 26) (100 * k + i)) := by
  intro n
  induction n with
  | zero => intro y τ' _ _ _ _ _ _ h; omega
  | succ n ih =>
    intro y τ' hm hD h19 h22 hc hy hn
    unfold m_Md_begin_L65
    refine ev_bs (mP27 hm) ?_
    refine ev_bs ((mV19 hm hj).trans (congrArg some h19)) ?_
    refine ev_if (fun z => ?_) (fun z => ?_)
    · rw [nI_leI (by omega) (by omega)] at z
      refine ev_bs (mP25 hm) ?_
      refine ev_bs (mS17 hm hj) ?_
      have hm2 : Sm c (pA τ' (c + 17) (upd (gV τ' (c + 17)) j 3)) := hm
      refine ev_bs (mP25 hm2) ?_
      have st : gV (pA τ' (c + 17) (upd (gV τ' (c + 17)) j 3)) (c + 17) j = 3 := by rw [gV_pAs, upd_s]
      refine ev_bs (Eq.trans (mV17 hm2 hj) (congrArg some st)) ?_
      refine ev_some ⟨rfl, DM_a (by decide) hD, st, ?_, ?_, fun i hi => ?_⟩
      · show gV (pA τ' (c + 17) (upd (gV τ' (c + 17)) j 3)) (c + 19) j = nI m
        rw [gV_pAn (by omega)]; exact h19
      · show gV (pA τ' (c + 17) (upd (gV τ' (c + 17)) j 3)) (c + 22) j = _
        rw [gV_pAn (by omega)]; exact h22
      · show gV (pA τ' (c + 17) (upd (gV τ' (c + 17)) j 3)) (c + 20) (100 * j + i) = _
        rw [gV_pAn (by omega)]; exact hc i (by omega)
    · rw [nI_leI (by omega) (by omega)] at z
      refine ev_bs (mP28 hm) ?_
      refine ev_bs (mP34 hm) ?_
      rw [nI_100, nI_100]
      refine ev_bs (mV26 hm (by omega)) ?_
      refine ev_bs (mS20 hm (by omega)) ?_
      rw [nI_1]
      refine ih (y + 1) _ hm (DM_b (by omega) hD) ?_ ?_ (fun i hi => ?_) (by omega) (by omega)
      · rw [gV_pAn (by omega)]; exact h19
      · rw [gV_pAn (by omega)]; exact h22
      · rw [gV_pAs]
        by_cases e : i = y
        · rw [e, upd_s, hD.2.1 26 (by decide) (by decide)]
        · rw [upd_n (by omega)]; exact hc i (by omega)
