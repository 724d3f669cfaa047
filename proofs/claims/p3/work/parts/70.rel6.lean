/-- a byte more in a place's row, on both sides -/
theorem RN_app {b c np nw nk nt nl nf j n : Nat} {σ τ : fr_S} {x : Int32} (hj : j < 16) (hn : n < 100) (hl : gV τ (c + 5) j = nI n) (h : RN b c np nw nk nt nl nf σ τ) : RN b c np nw nk nt nl nf (pA (pI σ 257 (b + 39 + 3 * j) (nI (n + 1))) (b + 40 + 3 * j) (upd (gV σ (b + 40 + 3 * j)) n x)) (pA (pA τ (c + 9) (upd (gV τ (c + 9)) (100 * j + n) x)) (c + 5) (upd (gV τ (c + 5)) j (nI (n + 1)))) := by
  obtain ⟨h_c, h_g, h_h, h_p, h_b, h_w, h_k, h_t, h_l, h_f⟩ := h
  have hnk := h_c.2.2.1.1
  refine ⟨?_, ?_, ?_, ?_, ?_, ?_, ?_, ?_, ?_, ?_⟩
  · simpa [R_c, gI_pIx, gV_pI, gI_pA, gV_pAx] using h_c
  · simpa [R_g, gI_pIx, gV_pI, gI_pA, gV_pAx] using h_g
  · refine ⟨fun i hi => ?_, fun i hi => ?_⟩
    · rw [gV_pAn (by omega), gV_pI, gV_pAn (by omega), gV_pAn (by omega)]; exact h_h.1 i hi
    · rw [gV_pAn (by omega), gV_pI, gV_pAn (by omega), gV_pAn (by omega)]; exact h_h.2 i hi
  · simpa [R_p, gI_pIx, gV_pI, gI_pA, gV_pAx] using h_p
  · intro i hi
    obtain ⟨g1, g2⟩ := h_b i hi
    by_cases e : i = j
    · subst e
      refine ⟨?_, fun m k e hm hk => ?_⟩
      · rw [gI_pA, gI_pIs, gV_pAs, upd_s]
      · rw [gV_pAs, upd_s] at e
        have e2 : n + 1 = m := nI_inj (by omega) (by omega) e
        rw [gV_pAs, gV_pAn (by omega), gV_pAs]
        by_cases ek : k = n
        · rw [ek, upd_s, upd_s]
        · rw [upd_n ek, upd_n (by omega)]
          exact g2 n k hl (by omega) (by omega)
    · refine ⟨?_, fun m k em hm hk => ?_⟩
      · rw [gI_pA, gI_pIa (by omega), gV_pAs, upd_n e]; exact g1
      · rw [gV_pAs, upd_n e] at em
        rw [gV_pAn (by omega), gV_pI, gV_pAn (by omega), gV_pAs, upd_n (by omega)]
        exact g2 m k em hm hk
  · intro i hi
    obtain ⟨g1, g2, g3, g4, g5, g6, g7, g8⟩ := h_w i hi
    refine ⟨by simpa [gI_pIx, gV_pI, gI_pA, gV_pAx] using g1, by simpa [gI_pIx, gV_pI, gI_pA, gV_pAx] using g2, by simpa [gI_pIx, gV_pI, gI_pA, gV_pAx] using g3, by simpa [gI_pIx, gV_pI, gI_pA, gV_pAx] using g4, fun m k e hm hk => ?_, by simpa [gI_pIx, gV_pI, gI_pA, gV_pAx] using g6, by simpa [gI_pIx, gV_pI, gI_pA, gV_pAx] using g7, fun z => ?_⟩
    · rw [gV_pAn (by omega), gV_pAn (by omega)] at e
      rw [gV_pAn (by omega), gV_pI, gV_pAn (by omega), gV_pAn (by omega)]
      exact g5 m k e hm hk
    · rw [gV_pAn (by omega), gV_pAn (by omega)] at z
      have g8 := g8 z
      refine ⟨?_, fun m k e hm hk => ?_⟩
      · rw [gI_pA, gI_pIa (by omega), gV_pAn (by omega), gV_pAn (by omega)]; exact g8.1
      · rw [gV_pAn (by omega), gV_pAn (by omega)] at e
        rw [gV_pAn (by omega), gV_pI, gV_pAn (by omega), gV_pAn (by omega)]
        exact g8.2 m k e hm hk
  · intro i hi
    obtain ⟨g1, g2⟩ := h_k i hi
    refine ⟨?_, ?_, fun m k e hm hk => ?_⟩
    · rw [gV_pAn (by omega), gV_pI, gV_pAn (by omega), gV_pAn (by omega)]; exact g1
    · rw [gI_pA, gI_pIa (by omega), gV_pAn (by omega), gV_pAn (by omega)]; exact g2.1
    · rw [gV_pAn (by omega), gV_pAn (by omega)] at e
      rw [gV_pAn (by omega), gV_pI, gV_pAn (by omega), gV_pAn (by omega)]
      exact g2.2 m k e hm hk
  · intro i hi
    obtain ⟨g1, g2, g3⟩ := h_t i hi
    refine ⟨?_, ?_, ?_⟩
    · rw [gV_pAn (by omega), gV_pI, gV_pAn (by omega), gV_pAn (by omega)]; exact g1
    · rw [gV_pAn (by omega), gV_pI, gV_pAn (by omega), gV_pAn (by omega)]; exact g2
    · rw [gV_pAn (by omega), gV_pI, gV_pAn (by omega), gV_pAn (by omega)]; exact g3
  · intro i hi
    rw [gV_pAn (by omega), gV_pI, gV_pAn (by omega), gV_pAn (by omega)]; exact h_l i hi
  · intro i hi
    obtain ⟨g1, g2, g3, g4⟩ := h_f i hi
    refine ⟨?_, ?_, ?_, ?_⟩
    · rw [gV_pAn (by omega), gV_pI, gV_pAn (by omega), gV_pAn (by omega)]; exact g1
    · rw [gV_pAn (by omega), gV_pI, gV_pAn (by omega), gV_pAn (by omega)]; exact g2
    · rw [gV_pAn (by omega), gV_pI, gV_pAn (by omega), gV_pAn (by omega)]; exact g3
    · rw [gV_pAn (by omega), gV_pI, gV_pAn (by omega), gV_pAn (by omega)]; exact g4
theorem r_content_L {b c np nw nk nt nl nf j : Nat} (hj : j < 16) (w : Int64) : ∀ (n q m : Nat) (σ τ : fr_S), Sx b σ → Sm c τ → RN b c np nw nk nt nl nf σ τ → gV τ (c + 5) j = nI m → m + q ≤ 100 → q ≤ 8 → q < n → rel (m_FR_content_L55 n w (b + 39 + 3 * j) (nI q + (-1)) σ) (m_Md_content_L48 n c (nI j) w (nI q + (-1)) τ) (RS b c) := by
  intro n
  induction n with
  | zero => intro q m σ τ _ _ _ _ _ _ h; omega
  | succ n ih =>
    intro q m σ τ hs hm hR hl hmq hq8 hn
    unfold m_FR_content_L55 m_Md_content_L48
    cases q with
    | zero =>
      rw [nI_0]
      exact rel_lp (by decide) (rel_rp (by decide) (rel_some ⟨rfl, np, nw, nk, nt, nl, nf, hR⟩))
    | succ q =>
      rw [pk_m1 q]
      refine rel_ln (nI_pos (by omega)) (rel_rn (nI_pos (by omega)) ?_)
      obtain ⟨k1, k2, k3⟩ := (hs.2.1 j hj).2.2.2
      have hl1 : gI σ 257 (b + 39 + 3 * j) = nI m := (hR.2.2.2.2.1 j hj).1.trans hl
      refine rel_l (oK_k k1) ?_
      have app : m_Row_append (b + 39 + 3 * j) ((fr_lushr w (8 * nI q)).toInt32 &&& 255) σ = some (pA (pI σ 257 (b + 39 + 3 * j) (nI (m + 1))) (b + 40 + 3 * j) (upd (gV σ (b + 40 + 3 * j)) m ((fr_lushr w (8 * nI q)).toInt32 &&& 255))) := by
        unfold m_Row_append
        rw [(oI_k k1).trans (congrArg some hl1)]
        show (if 100 ≤ nI m then some σ else _) = _
        rw [if_neg (by rw [nI_lit100, nI_leI (by omega) (by omega)]; omega), oP_g k1 k2]
        show ((sI σ 4 257 (b + 39 + 3 * j) (nI m + 1)).bind _) = _
        rw [sI_k k1, nI_1]
        show ((sV (pI σ 257 (b + 39 + 3 * j) (nI (m + 1))) 0 (b + 40 + 3 * j) (nI m) _).bind _) = _
        rw [sV_nI (n := 100) (show gK (pI σ 257 (b + 39 + 3 * j) (nI (m + 1))) (b + 40 + 3 * j) = some (.inr (0, 100)) from k3) (by omega) (by decide)]
        rfl
      refine rel_l app ?_
      refine rel_r (mP17 hm) ?_
      refine rel_r (mP13 hm) ?_
      refine rel_r ((mV5 hm hj).trans (congrArg some hl)) ?_
      rw [nI_100, ← byte_eq w (by omega)]
      generalize ((fr_lushr w (8 * nI q)).toInt32 &&& 255) = x
      refine rel_r (mS9 hm (by omega)) ?_
      have hm2 : Sm c (pA τ (c + 9) (upd (gV τ (c + 9)) (100 * j + m) x)) := hm
      refine rel_r (mP13 hm2) ?_
      refine rel_r (Eq.trans (mV5 hm2 hj) (congrArg some (show _ = nI m by rw [gV_pAn (by omega)]; exact hl))) ?_
      refine rel_r (mS5 hm2 hj) ?_
      rw [nI_1, gV_pAn (show c + 5 ≠ c + 9 by omega)]
      have hR2 := RN_app (x := x) hj (by omega) hl hR
      refine ih q (m + 1) _ _ hs hm2 hR2 ?_ (by omega) (by omega) (by omega)
      rw [gV_pAs, upd_s]
theorem r_content {b c : Nat} {σ τ : fr_S} (h : RR b c σ τ) (x : Int32) (w : Int64) (y : Int32) : rel (m_FR_content b x w y σ) (m_Md_content c x w y τ) (fun q q' => q.1 = q'.1 ∧ RR b c q.2 q'.2) := by
  obtain ⟨h1, h2, np, nw, nk, nt, nl, nf, hR⟩ := id h
  refine RS_end ?_ (x_content h1 x w y) (md_content h2 x w y)
  have hs := h1.1
  have hm : Sm c (pI τ 1 c 0) := h2.1
  have hR : RN b c np nw nk nt nl nf σ (pI τ 1 c 0) := hR
  have hn := hR.1.1
  have fin : RE b c σ (pI τ 1 c 0) := ⟨np, nw, nk, nt, nl, nf, hR⟩
  unfold m_FR_content m_Md_content
  refine rel_r (mSI h2.1) ?_
  generalize pI τ 1 c 0 = τ1 at hm hR hn fin ⊢
  refine rel_l (xK hs) ?_
  refine rel_r (mK hm) ?_
  refine rel_b (r_isPlace hs hm hR x) (fun r r' hr => ?_)
  rcases hr with ⟨rfl, rfl⟩ | ⟨rfl, rfl, j, hj, rfl⟩
  · exact rel_lp rfl (rel_rp rfl (rel_some ⟨rfl, fin⟩))
  refine rel_ln (by decide) (rel_rn (by decide) ?_)
  refine rel_ii (fun _ => rel_some ⟨rfl, fin⟩) (fun z1 => ?_)
  have hj16 : j < 16 := by omega
  by_cases z8 : y ≤ 8
  · refine rel_lp z8 (rel_rn (Int32.not_lt.mpr z8) ?_)
    obtain ⟨q, hq1, hq8, rfl⟩ := nI_rng (x := y) (lo := 1) (hi := 8) (by rw [← nI_lit1]; exact z1) (by rw [← nI_lit8]; exact z8) (by decide) (by decide)
    obtain ⟨m, hm1, hm2⟩ := (XI_row h1 (pr_p hj16)).2.1
    have hl : gV τ1 (c + 5) j = nI m := (hR.2.2.2.2.1 j hj16).1.symm.trans hm2
    refine rel_l (xp67 hs) ?_
    refine rel_l (xP hs hj16) ?_
    refine rel_l (pl_r hs hj16) ?_
    refine rel_l ((oI_k (row_k h1 (pr_p hj16))).trans (congrArg some hm2)) ?_
    refine rel_r (mP13 hm) ?_
    refine rel_r ((mV5 hm hj16).trans (congrArg some hl)) ?_
    refine rel_ii (fun z => ?_) (fun _ => rel_some ⟨rfl, fin⟩)
    have e1 : nI q - 1 = nI q + (-1) := by
      rw [nI_r (by omega), nI_sm (by omega)]
    rw [e1]
    exact r_content_L hj16 w 1000 q m σ τ1 hs hm hR hl (nI_ple hm1 hq8 z) hq8 (by omega)
  · refine rel_ln z8 (rel_rp (Int32.not_le.mp z8) ?_)
    exact rel_some ⟨rfl, fin⟩
theorem r_digest_L {b c np nw nk nt nl nf j m : Nat} {σ τ : fr_S} (hs : Sx b σ) (hm : Sm c τ) (hR : RN b c np nw nk nt nl nf σ τ) (hj : j < np) (hm1 : m ≤ 100) (hl : gV τ (c + 5) j = nI m) : ∀ (n k : Nat) (s : Int32), k ≤ m → m - k < n → rel (m_Row_computeDigest_L4 n (b + 39 + 3 * j) s (nI k) σ) (m_Md_digest_L9 n c (nI j) s (nI k) τ) (RQ b c σ) := by
  have hn := hR.1.1
  have hj16 : j < 16 := by omega
  obtain ⟨k1, k2, k3⟩ := (hs.2.1 j hj16).2.2.2
  have hl1 : gI σ 257 (b + 39 + 3 * j) = nI m := (hR.2.2.2.2.1 j hj16).1.trans hl
  have isP : m_Md_isPlace c (nI j) τ = some 1 := by
    unfold m_Md_isPlace
    rw [if_neg (nI_pos (by omega)), (mI hm).trans (congrArg some hn.2.2)]
    show (if nI np ≤ nI j then some (0 : Int32) else some 1) = some 1
    rw [if_neg (by rw [nI_leI (by omega) (by omega)]; omega)]
  intro n
  induction n with
  | zero => intro k s _ h; omega
  | succ n ih =>
    intro k s hk hq
    unfold m_Row_computeDigest_L4 m_Md_digest_L9
    refine rel_l ((oI_k k1).trans (congrArg some hl1)) ?_
    refine rel_r (mK hm) ?_
    refine rel_r isP ?_
    refine rel_rn (by decide) ?_
    refine rel_r (mP13 hm) ?_
    refine rel_r ((mV5 hm hj16).trans (congrArg some hl)) ?_
    refine rel_ii (fun _ => rel_some ⟨rfl, np, nw, nk, nt, nl, nf, hR⟩) (fun z => ?_)
    rw [nI_leI (by omega) (by omega)] at z
    refine rel_l (oP_g k1 k2) ?_
    refine rel_l (oV_nI k3 (by omega) (by decide)) ?_
    refine rel_r (mP17 hm) ?_
    rw [nI_100]
    refine rel_r (mV9 hm (by omega)) ?_
    unfold m_Md_next
    refine rel_r rfl ?_
    rw [nI_1, (hR.2.2.2.2.1 j hj16).2 m k hl hm1 (by omega)]
    exact ih (k + 1) _ (by omega) (by omega)
theorem r_digest {b c : Nat} {σ τ : fr_S} (h : RR b c σ τ) (x : Int32) : rel (m_FR_digest b x σ) (m_Md_digest c x τ) (fun r q => r = q.1 ∧ RR b c σ q.2) := by
  obtain ⟨h1, h2, np, nw, nk, nt, nl, nf, hR⟩ := id h
  refine RQ_end ?_ h1 (md_digest h2 x)
  have hs := h1.1
  have hm : Sm c (pI τ 1 c 0) := h2.1
  have hR : RN b c np nw nk nt nl nf σ (pI τ 1 c 0) := hR
  have hn := hR.1.1
  have fin : RE b c σ (pI τ 1 c 0) := ⟨np, nw, nk, nt, nl, nf, hR⟩
  unfold m_FR_digest m_Md_digest
  refine rel_r (mSI h2.1) ?_
  generalize pI τ 1 c 0 = τ1 at hm hR hn fin ⊢
  refine rel_l (xK hs) ?_
  obtain ⟨r, r', e, e', hr⟩ := r_isPlace hs hm hR x
  refine rel_l e ?_
  rcases hr with ⟨rfl, rfl⟩ | ⟨rfl, rfl, j, hj, rfl⟩
  · refine rel_lp rfl ?_
    unfold m_Md_digest_L9
    exact rel_r (mK hm) (rel_r e' (rel_rp rfl (rel_some ⟨rfl, fin⟩)))
  refine rel_ln (by decide) ?_
  have hj16 : j < 16 := by omega
  obtain ⟨m, hm1, hm2⟩ := (XI_row h1 (pr_p hj16)).2.1
  have hl : gV τ1 (c + 5) j = nI m := (hR.2.2.2.2.1 j hj16).1.symm.trans hm2
  refine rel_l (xp67 hs) ?_
  refine rel_l (xP hs hj16) ?_
  refine rel_l (pl_r hs hj16) ?_
  refine rel_l (oK_k (row_k h1 (pr_p hj16))) ?_
  have key := r_digest_L hs hm hR hj hm1 hl 1000 0 0 (by omega) (by omega)
  rw [nI_0] at key
  obtain ⟨a, a', e1, e2, hq⟩ := key
  unfold m_Row_computeDigest
  refine rel_l e1 ?_
  rw [e2]
  exact rel_some hq
