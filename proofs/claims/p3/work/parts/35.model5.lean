theorem byte_of (z : Int64) : ∃ x, x < 256 ∧ (z &&& 255).toInt32 = nI x := by
  refine ⟨(z &&& 255).toBitVec.toNat, ?_, ?_⟩
  · have h : (z &&& 255).toBitVec = z.toBitVec &&& 255#64 := rfl
    rw [h, BitVec.toNat_and]
    exact Nat.lt_of_le_of_lt Nat.and_le_right (by decide)
  · apply Int32.toBitVec_inj.mp
    rw [Int64.toBitVec_toInt32]
    apply BitVec.eq_of_toNat_eq
    rw [BitVec.signExtend_eq_setWidth_of_le _ (by decide), BitVec.toNat_setWidth]
    have h2 : (nI (z &&& 255).toBitVec.toNat).toBitVec = BitVec.ofNat 32 (z &&& 255).toBitVec.toNat := rfl
    rw [h2, BitVec.toNat_ofNat]
theorem I_by_upd {n k x : Nat} {f : Nat → Int32} (h : I_by n f) (hx : x < 256) : I_by n (upd f k (nI x)) := by
  intro j hj
  by_cases hjk : j = k
  · subst hjk
    exact ⟨x, hx, upd_s⟩
  · rw [upd_n hjk]
    exact h j hj
theorem I_sz_size {i s : Nat} {si cu cb : Nat → Int32} (hI : I_sz si cu cb) (hn : s ≤ 100) : I_sz (upd si i (nI s)) cu cb := by
  intro k hk
  obtain ⟨g1, g2, g3⟩ := hI k hk
  by_cases hki : k = i
  · subst hki
    exact ⟨⟨s, hn, upd_s⟩, g2, g3⟩
  · rw [upd_n hki]
    exact ⟨g1, g2, g3⟩
theorem nI_r {r : Nat} (h : 0 < r) : nI r + (-1) = nI (r - 1) := by
  obtain ⟨q, rfl⟩ : ∃ q, r = q + 1 := ⟨r - 1, by omega⟩
  exact pk_m1 q
theorem md_content_L {c i : Nat} (w : Int64) (hi : i < 16) : ∀ (n r : Nat) (s : Nat) (τ : fr_S), MI c τ → gV τ (c + 5) i = nI s → s + r ≤ 100 → r < n → ev (m_Md_content_L48 n c (nI i) w (nI r + (-1)) τ) (fun q => MI c q.2) := by
  intro n
  induction n with
  | zero => intro r s τ _ _ _ h; omega
  | succ n ih =>
    intro r s τ h hz hsr hn
    unfold m_Md_content_L48
    cases r with
    | zero =>
      refine ev_if (fun _ => ev_some h) (fun z => absurd (by rw [nI_0]; decide) z)
    | succ r =>
      rw [pk_m1 r]
      refine ev_if (fun z => absurd z (nI_pos (by omega))) (fun _ => ?_)
      obtain ⟨hs, np, nw, nk, nt, nl, nf, re, a1, a2, a3, a4, a5, a6, a7, a8, a9, a10, a11, a12, a13, a14, a15, a16, a17, a18⟩ := id h
      refine ev_bs (mP17 hs) ?_
      refine ev_bs (mP13 hs) ?_
      refine ev_bs ((mV5 hs hi).trans (congrArg some hz)) ?_
      rw [nI_100]
      obtain ⟨x, hx, hxe⟩ := byte_of (w >>> ((8 * nI r).toInt64 &&& 63))
      rw [hxe]
      refine ev_bs (mS9 hs (by omega)) ?_
      refine ev_bs (mP13 hs) ?_
      have hz2 : gV (pA τ (c + 9) (upd (gV τ (c + 9)) (100 * i + s) (nI x))) (c + 5) i = nI s := by simpa [gV_pAx] using hz
      refine ev_bs (Eq.trans (mV5 hs hi) (congrArg some hz2)) ?_
      refine ev_bs (mS5 hs hi) ?_
      rw [nI_1]
      refine ih r (s + 1) _ ⟨hs, np, nw, nk, nt, nl, nf, re, (by simpa [gV_pI, gV_pAx, gI_pA, gI_pIx] using a1), (by simpa [gV_pI, gV_pAx, gI_pA, gI_pIx] using a2), (by simpa [gV_pI, gV_pAx, gI_pA, gI_pIx] using a3), (by simpa [gV_pI, gV_pAx, gI_pA, gI_pIx] using a4), (by simpa [gV_pI, gV_pAx, gI_pA, gI_pIx] using a5), (by simpa [gV_pI, gV_pAx, gI_pA, gI_pIx] using a6), (by simpa [gV_pI, gV_pAx, gI_pA, gI_pIx] using a7), (by simpa [gV_pI, gV_pAx, gI_pA, gI_pIx] using a8), (by simpa [gV_pAx] using I_sz_size (i := i) (s := s + 1) a9 (by omega)), (by simpa [gV_pAx] using I_by_upd (k := 100 * i + s) a10 hx), (by simpa [gV_pI, gV_pAx, gI_pA, gI_pIx] using a11), (by simpa [gV_pI, gV_pAx, gI_pA, gI_pIx] using a12), (by simpa [gV_pI, gV_pAx, gI_pA, gI_pIx] using a13), (by simpa [gV_pI, gV_pAx, gI_pA, gI_pIx] using a14), (by simpa [gV_pI, gV_pAx, gI_pA, gI_pIx] using a15), (by simpa [gV_pI, gV_pAx, gI_pA, gI_pIx] using a16), (by simpa [gV_pI, gV_pAx, gI_pA, gI_pIx] using a17), (by simpa [gV_pI, gV_pAx, gI_pA, gI_pIx] using a18)⟩ ?_ (by omega) (by omega)
      simp [gV_pAx, upd_s]
theorem nI_ple {s x : Nat} (hs : s ≤ 100) (hx : x ≤ 8) (h : nI s + nI x ≤ 100) : s + x ≤ 100 := by
  rw [nI_add, nI_lit100, nI_leI (by omega) (by omega)] at h
  exact h
theorem md_content {c : Nat} {τ : fr_S} (h : MI c τ) (x1 : Int32) (x2 : Int64) (x4 : Int32) : ev (m_Md_content c x1 x2 x4 τ) (fun q => MI c q.2) := by
  unfold m_Md_content
  refine ev_bs (mSI h.1) ?_
  have h := M_code (v := 0) h
  generalize pI τ 1 c 0 = τ at h ⊢
  obtain ⟨hs, np, nw, nk, nt, nl, nf, re, a1, a2, a3, a4, a5, a6, a7, a8, a9, a10, a11, a12, a13, a14, a15, a16, a17, a18⟩ := id h
  refine ev_bs (mK hs) ?_
  refine ev_b (md_isPlace hs a1 x1) (fun r hr => ?_)
  refine ev_if (fun _ => ev_some h) (fun hr0 => ?_)
  rcases hr with hr | ⟨-, i, hi, rfl⟩
  · exact absurd hr.1 hr0
  have hnp := a1.1
  refine ev_if (fun _ => ev_some h) (fun h1 => ?_)
  refine ev_if (fun _ => ev_some h) (fun h8 => ?_)
  obtain ⟨q, hq1, hq8, rfl⟩ := nI_rng (x := x4) (lo := 1) (hi := 8) (by rw [← nI_lit1]; exact h1) (by rw [← nI_lit8]; exact Int32.not_lt.mp h8) (by decide) (by decide)
  obtain ⟨⟨sz, g1, g2⟩, -⟩ := a9 i (by omega)
  refine ev_bs (mP13 hs) ?_
  refine ev_bs ((mV5 hs (by omega)).trans (congrArg some g2)) ?_
  refine ev_if (fun hle => ?_) (fun _ => ev_some h)
  have hle := nI_ple g1 hq8 hle
  have e1 : nI q - 1 = nI q + (-1) := by
    rw [nI_r (by omega)]
    obtain ⟨q', rfl⟩ : ∃ q', q = q' + 1 := ⟨q - 1, by omega⟩
    exact nI_pred q'
  rw [e1]
  exact md_content_L x2 (by omega) 1000 q sz τ h g2 (by omega) (by omega)
