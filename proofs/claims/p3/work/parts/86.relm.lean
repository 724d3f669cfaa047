/-! looks at a want: the reference changes nothing but its code -/
theorem mc_about {c : Nat} {τ : fr_S} (h : MI c τ) (x1 x2 : Int32) : ev (m_Md_about c x1 x2 τ) (fun q => q.2 = pI τ 1 c 0) := by
  unfold m_Md_about
  refine ev_bs (mSI h.1) ?_
  have h := M_code (v := 0) h
  generalize pI τ 1 c 0 = τ at h ⊢
  obtain ⟨hs, np, nw, nk, nt, nl, nf, re, a1, a2, a3, a4, a5, a6, a7, a8, a9, a10, a11, a12, a13, a14, a15, a16, a17, a18⟩ := id h
  refine ev_bs (mK hs) ?_
  refine ev_b (md_isWant hs a2 x1) (fun r hr => ?_)
  refine ev_if (fun _ => ev_some rfl) (fun hr0 => ?_)
  rcases hr with hr | ⟨-, w, hw, rfl⟩
  · exact absurd hr.1 hr0
  have hnw := a2.1
  have s0 : ∀ R : Option (Int32 × fr_S), ev R (fun q => q.2 = τ) → ev R (fun q => q.2 = τ) := fun _ h => h
  have f25 : ev ((oP τ 0 25 c).bind fun q9 => (oV τ 0 q9 (nI w)).bind fun v10 => some (v10, τ)) (fun q => q.2 = τ) := ev_bs (mP25 hs) (ev_bs (mV17 hs (by omega)) (ev_some rfl))
  have f27 : ev ((oP τ 0 27 c).bind fun q9 => (oV τ 0 q9 (nI w)).bind fun v10 => some (v10, τ)) (fun q => q.2 = τ) := ev_bs (mP27 hs) (ev_bs (mV19 hs (by omega)) (ev_some rfl))
  have f29 : ev ((oP τ 0 25 c).bind fun q21 => (oV τ 0 q21 (nI w)).bind fun v22 => if v22 = 2 then (oP τ 0 29 c).bind fun q24 => (oV τ 0 q24 (nI w)).bind fun v25 => some (v25, τ) else some (-1, τ)) (fun q => q.2 = τ) := ev_bs (mP25 hs) (ev_bs (mV17 hs (by omega)) (ev_if (fun _ => ev_bs (mP29 hs) (ev_bs (mV21 hs (by omega)) (ev_some rfl))) (fun _ => ev_some rfl)))
  have f30 : ev ((oP τ 0 30 c).bind fun q9 => (oV τ 0 q9 (nI w)).bind fun v10 => some (v10, τ)) (fun q => q.2 = τ) := ev_bs (mP30 hs) (ev_bs (mV22 hs (by omega)) (ev_some rfl))
  have f24 : (gV τ (c + 17) w = 1 ∨ gV τ (c + 17) w = 2) → ev ((oP τ 0 24 c).bind fun q13 => (oP τ 0 26 c).bind fun q14 => (oV τ 0 q14 (nI w)).bind fun v15 => (oV τ 0 q13 ((6 * nI w) + v15)).bind fun v16 => some (v16, τ)) (fun q => q.2 = τ) := by
    intro hb
    obtain ⟨⟨s, s1, s2, s3⟩, -⟩ := a12 w (by omega)
    have hs12 : s = 1 ∨ s = 2 := by
      rcases hb with hb | hb
      · exact Or.inl (nI_inj (by omega) (by omega) (s2.symm.trans (hb.trans nI_v1.symm)))
      · exact Or.inr (nI_inj (by omega) (by omega) (s2.symm.trans (hb.trans nI_v2.symm)))
    obtain ⟨-, m, a, m6, m1, m2, m3⟩ := s3 hs12
    refine ev_bs (mP24 hs) ?_
    refine ev_bs (mP26 hs) ?_
    refine ev_bs ((mV18 hs (by omega)).trans (congrArg some m2)) ?_
    rw [nI_6]
    refine ev_bs (mV16 hs (by omega)) ?_
    exact ev_some rfl
  refine ev_bs (mP25 hs) ?_
  refine ev_bs (mV17 hs (by omega)) ?_
  refine ev_if (fun hb => ?_) (fun _ => ?_)
  · exact ev_if (fun _ => f25) (fun _ => ev_if (fun _ => f24 (Or.inl hb)) (fun _ => ev_if (fun _ => f27) (fun _ => ev_if (fun _ => f29) (fun _ => ev_if (fun _ => f30) (fun _ => ev_some rfl)))))
  · refine ev_bs (mP25 hs) ?_
    refine ev_bs (mV17 hs (by omega)) ?_
    refine ev_if (fun hb => ?_) (fun _ => ?_)
    · exact ev_if (fun _ => f25) (fun _ => ev_if (fun _ => f24 (Or.inr hb)) (fun _ => ev_if (fun _ => f27) (fun _ => ev_if (fun _ => f29) (fun _ => ev_if (fun _ => f30) (fun _ => ev_some rfl)))))
    · exact ev_if (fun _ => f25) (fun _ => ev_if (fun _ => ev_some rfl) (fun _ => ev_if (fun _ => f27) (fun _ => ev_if (fun _ => f29) (fun _ => ev_if (fun _ => f30) (fun _ => ev_some rfl)))))
theorem r_about {b c : Nat} {σ τ : fr_S} (h : RR b c σ τ) (x y : Int32) : rel (m_FR_about b x y σ) (m_Md_about c x y τ) (fun _ q => RR b c σ q.2) := by
  obtain ⟨h1, h2, np, nw, nk, nt, nl, nf, hR⟩ := id h
  obtain ⟨r, e, -⟩ := x_about h1 x y
  obtain ⟨q, e', eq⟩ := mc_about h2 x y
  exact ⟨r, q, e, e', h1, by rw [eq]; exact M_code h2, np, nw, nk, nt, nl, nf, by rw [eq]; exact hR⟩
theorem mc_byteOf {c : Nat} {τ : fr_S} (h : MI c τ) (x1 x2 : Int32) : ev (m_Md_byteOf c x1 x2 τ) (fun q => q.2 = pI τ 1 c 0) := by
  unfold m_Md_byteOf
  refine ev_bs (mSI h.1) ?_
  have h := M_code (v := 0) h
  generalize pI τ 1 c 0 = τ at h ⊢
  obtain ⟨hs, np, nw, nk, nt, nl, nf, re, a1, a2, a3, a4, a5, a6, a7, a8, a9, a10, a11, a12, a13, a14, a15, a16, a17, a18⟩ := id h
  refine ev_bs (mK hs) ?_
  refine ev_b (md_isWant hs a2 x1) (fun r hr => ?_)
  refine ev_if (fun _ => ev_some rfl) (fun hr0 => ?_)
  rcases hr with hr | ⟨-, j, hj, rfl⟩
  · exact absurd hr.1 hr0
  have hnw := a2.1
  refine ev_if (fun _ => ev_some rfl) (fun h2 => ?_)
  obtain ⟨-, ⟨n, g1, g2⟩, -⟩ := a12 j (by omega)
  refine ev_bs (mP27 hs) ?_
  refine ev_bs ((mV19 hs (by omega)).trans (congrArg some g2)) ?_
  refine ev_if (fun h3 => ?_) (fun _ => ev_some rfl)
  obtain ⟨i, hi, rfl⟩ := nI_get (x := x2) (n := n) (by omega) h2 (Int32.not_le.mpr h3)
  refine ev_bs (mP28 hs) ?_
  rw [nI_100]
  refine ev_bs (mV20 hs (by omega)) ?_
  exact ev_some rfl
theorem r_byteOf {b c : Nat} {σ τ : fr_S} (h : RR b c σ τ) (x y : Int32) : rel (m_FR_byteOf b x y σ) (m_Md_byteOf c x y τ) (fun _ q => RR b c σ q.2) := by
  obtain ⟨h1, h2, np, nw, nk, nt, nl, nf, hR⟩ := id h
  obtain ⟨r, e, -⟩ := x_byteOf h1 x y
  obtain ⟨q, e', eq⟩ := mc_byteOf h2 x y
  exact ⟨r, q, e, e', h1, by rw [eq]; exact M_code h2, np, nw, nk, nt, nl, nf, by rw [eq]; exact hR⟩
