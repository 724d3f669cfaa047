theorem I_fi_add {nf a n : Nat} {pa pn : Nat → Int32} (h : I_fi nf pa pn) (han : a + n ≤ 100) : I_fi (nf + 1) (upd pa nf (nI a)) (upd pn nf (nI n)) := by
  intro f hf
  by_cases hfn : f = nf
  · subst hfn
    exact ⟨a, n, han, upd_s, upd_s⟩
  · rw [upd_n hfn, upd_n hfn]
    exact h f (by omega)
theorem md_put_L {c B pa pe fr m : Nat} {τ : fr_S} (h : MI c τ) (hB : B + 100 ≤ 1000) (h1 : B ≤ pa) (h2 : pa ≤ pe) (h3 : pe ≤ B + 100) : ∀ (nf : Nat), gI τ 39 c = nI nf → nf ≤ 32 → ∀ (n f : Nat), f ≤ nf → nf - f < n → ev (m_Md_putFile_L3 n c (nI B) (nI pa) (nI pe) (nI fr) (nI m) (nI f) τ) (fun τ' => MI c τ' ∧ ∃ g, g ≤ nf + 1 ∧ gI τ' 39 c = nI g) := by
  obtain ⟨hs, np, nw, nk, nt, nl, nf, re, a1, a2, a3, a4, a5, a6, a7, a8, a9, a10, a11, a12, a13, a14, a15, a16, a17, a18⟩ := id h
  intro nf' hnf' hnf32
  have hnf : nf' = nf := nI_inj (by omega) (by have := a6.1; omega) (hnf'.symm.trans a6.2)
  subst hnf
  intro n
  induction n with
  | zero => intro f _ hn; omega
  | succ n ih =>
    intro f hf hn
    unfold m_Md_putFile_L3
    have old : ∀ (f : Nat) (v v2 : Int32), MI c (pA (pA τ (c + 31) (upd (gV τ (c + 31)) f v)) (c + 32) (upd (gV (pA τ (c + 31) (upd (gV τ (c + 31)) f v)) (c + 32)) f v2)) := fun f v v2 => MI_pA (a := 32) (MI_pA (a := 31) h (by decide)) (by decide)
    refine ev_bs ((mI hs).trans (congrArg some a6.2)) ?_
    refine ev_if (fun z => ?_) (fun z => ?_)
    · rw [nI_leI (by omega) (by omega)] at z
      have hfe : f = nf' := by omega
      subst hfe
      refine ev_bs ((mI hs).trans (congrArg some a6.2)) ?_
      refine ev_if (fun _ => ?_) (fun z => absurd rfl z)
      rw [pk_sub h1, pk_sub h2]
      refine ev_bs (mP42 hs) ?_
      refine ev_bs (mS33 hs (by omega)) ?_
      refine ev_bs (mP43 hs) ?_
      refine ev_bs (mS34 hs (by omega)) ?_
      refine ev_bs (Eq.trans (mI hs) (congrArg some (show _ = nI f from a6.2))) ?_
      refine ev_bs (mSI hs) ?_
      refine ev_bs (mP40 hs) ?_
      refine ev_bs (mS31 hs (by omega)) ?_
      refine ev_bs (mP41 hs) ?_
      refine ev_bs (mS32 hs (by omega)) ?_
      rw [nI_1]
      refine ev_some ⟨?_, f + 1, Nat.le_refl _, by simp [gI_pIx, gI_pA]⟩
      exact ⟨hs, np, nw, nk, nt, nl, f + 1, re, (by simpa [gV_pI, gV_pAx, gI_pA, gI_pIx] using a1), (by simpa [gV_pI, gV_pAx, gI_pA, gI_pIx] using a2), (by simpa [gV_pI, gV_pAx, gI_pA, gI_pIx] using a3), (by simpa [gV_pI, gV_pAx, gI_pA, gI_pIx] using a4), (by simpa [gV_pI, gV_pAx, gI_pA, gI_pIx] using a5), ⟨by omega, by simp [gI_pIx, gI_pA]⟩, (by simpa [gV_pI, gV_pAx, gI_pA, gI_pIx] using a7), (by simpa [gV_pI, gV_pAx, gI_pA, gI_pIx] using a8), (by simpa [gV_pI, gV_pAx, gI_pA, gI_pIx] using a9), (by simpa [gV_pI, gV_pAx, gI_pA, gI_pIx] using a10), (by simpa [gV_pI, gV_pAx, gI_pA, gI_pIx] using a11), (by simpa [gV_pI, gV_pAx, gI_pA, gI_pIx] using a12), (by simpa [gV_pI, gV_pAx, gI_pA, gI_pIx] using a13), (by simpa [gV_pI, gV_pAx, gI_pA, gI_pIx] using a14), (by simpa [gV_pI, gV_pAx, gI_pA, gI_pIx] using a15), (by simpa [gV_pI, gV_pAx, gI_pA, gI_pIx] using a16), (by simpa [gV_pI, gV_pAx, gI_pA, gI_pIx] using a17), (by simpa [gV_pI, gV_pAx] using I_fi_add (a := pa - B) (n := pe - pa) a18 (by omega))⟩
    · rw [nI_leI (by omega) (by omega)] at z
      obtain ⟨a, q, aq, e1, e2⟩ := a18 f (by omega)
      refine ev_bs (mP42 hs) ?_
      refine ev_bs ((mV33 hs (by omega)).trans (congrArg some e1)) ?_
      refine ev_bs (mP43 hs) ?_
      refine ev_bs ((mV34 hs (by omega)).trans (congrArg some e2)) ?_
      refine ev_bs (mK hs) ?_
      rw [nI_add, pk_sub h2]
      refine ev_b (md_same (a := B + a) (n := q) (b := pa) (m := pe - pa) hs (by omega) (by omega) (by omega) (by omega)) (fun r _ => ?_)
      refine ev_if (fun _ => ?_) (fun _ => ?_)
      · rw [nI_1]
        exact ih (f + 1) (by omega) (by omega)
      · refine ev_bs ((mI hs).trans (congrArg some a6.2)) ?_
        refine ev_if (fun z2 => ?_) (fun _ => ?_)
        · have : f = nf' := nI_inj (by omega) (by omega) z2
          omega
        · refine ev_bs (mP40 hs) ?_
          refine ev_bs (mS31 hs (by omega)) ?_
          refine ev_bs (mP41 hs) ?_
          refine ev_bs (mS32 hs (by omega)) ?_
          exact ev_some ⟨old f _ _, nf', Nat.le_succ _, a6.2⟩
theorem md_read_L {c w k B E : Nat} (hw : w < 10) (hk : k ≤ 5) (hB : B = 100 * w) (hE : E ≤ B + 100) : ∀ (n q : Nat) (y3 : Int32) (τ : fr_S) (g : Nat), MI c τ → B ≤ q → q ≤ E → (y3 = 0 ∨ (gI τ 39 c = nI g ∧ 3 * g ≤ q - B)) → E - q < n → ev (m_Md_read_L21 n c (nI w) (nI k) y3 (nI B) (nI E) (nI q) τ) (fun r => MI c r.2) := by
  intro n
  induction n with
  | zero => intro q y3 τ g _ _ _ _ h; omega
  | succ n ih =>
    intro q y3 τ g h hq hqE hg hn
    unfold m_Md_read_L21
    have hs := h.1
    refine ev_if (fun _ => ev_some h) (fun z => ?_)
    rw [nI_leI (by omega) (by omega)] at z
    obtain ⟨-, np, nw, nk, nt, nl, nf, re, -, -, -, -, -, -, -, -, -, -, -, -, a13, -⟩ := id h
    obtain ⟨x, hx, hxe⟩ := a13 q (by omega)
    refine ev_bs (mP28 hs) ?_
    refine ev_bs ((mV20 hs (by omega)).trans (congrArg some hxe)) ?_
    refine ev_if (fun _ => ev_some h) (fun hx1 => ?_)
    refine ev_if (fun hx20 => ?_) (fun _ => ev_some h)
    have hx1 : 1 ≤ x := by
      rcases Nat.eq_zero_or_pos x with e | e
      · exact absurd (by rw [e, nI_0]; decide) hx1
      · exact e
    rw [nI_1, nI_add]
    have rh : ev ((oP τ 0 27 c).bind fun q21 => (oV τ 0 q21 (nI w)).bind fun v22 => some (v22, τ)) (fun r => MI c r.2) := ev_bs (mP27 hs) (ev_bs (mV19 hs hw) (ev_some h))
    refine ev_if (fun hlt => ?_) (fun _ => rh)
    rw [nI_ltI (by omega) (by omega)] at hlt
    refine ev_bs (mK hs) ?_
    refine ev_b (md_isRight_L (c := c) (to_ := q + 1 + x) hs (by omega) 1000 (q + 1) 0 0 (by omega) (by omega)) (fun r _ => ?_)
    refine ev_if (fun _ => ev_some h) (fun _ => ?_)
    obtain ⟨m, hm, hme⟩ := a13 (q + 1 + x) (by omega)
    refine ev_bs (mP28 hs) ?_
    refine ev_bs ((mV20 hs (by omega)).trans (congrArg some hme)) ?_
    rw [nI_1, nI_add]
    refine ev_if (fun hle => ?_) (fun _ => rh)
    rw [nI_leI (by omega) (by omega)] at hle
    refine ev_bs (mK hs) ?_
    refine ev_b (md_strip_L (c := c) (to_ := q + 1 + x) hs (by omega) 1000 (q + 1) k (by omega) hk (by omega)) (fun r hr => ?_)
    obtain ⟨j, j1, j2, rfl⟩ := hr
    refine ev_if (fun h0 => ?_) (fun h0 => ?_)
    · exact ih _ y3 τ g h (by omega) (by omega) (Or.inl h0) (by omega)
    · rcases hg with hg | ⟨hg1, hg2⟩
      · exact absurd hg h0
      refine ev_if (fun _ => ?_) (fun hj => ?_)
      · exact ih _ y3 τ g h (by omega) (by omega) (Or.inr ⟨hg1, by omega⟩) (by omega)
      · refine ev_bs (mK hs) ?_
        have key := md_put_L (c := c) (B := B) (pa := j) (pe := q + 1 + x) (fr := q + 1 + x + 1) (m := m) h (by omega) (by omega) (by omega) (by omega) g hg1 (by omega) 1000 0 (by omega) (by omega)
        rw [nI_0] at key
        refine ev_b key (fun τ' h' => ?_)
        obtain ⟨hm', g', g1, g2⟩ := h'
        exact ih _ y3 τ' g' hm' (by omega) (by omega) (Or.inr ⟨g2, by omega⟩) (by omega)
theorem nI_100w (w : Nat) : (100 * nI w : Int32) = nI (100 * w) := by rw [nI_lit100, pk_mul]
theorem md_read {c w k g : Nat} {τ : fr_S} (h : MI c τ) (hw : w < 10) (hk : k ≤ 5) (y3 : Int32) (hg : y3 = 0 ∨ (gI τ 39 c = nI g ∧ g = 0)) : ev (m_Md_read c (nI w) (nI k) y3 τ) (fun r => MI c r.2) := by
  unfold m_Md_read
  obtain ⟨hs, np, nw, nk, nt, nl, nf, re, a1, a2, a3, a4, a5, a6, a7, a8, a9, a10, a11, a12, a13, a14, a15, a16, a17, a18⟩ := id h
  obtain ⟨-, ⟨z, z1, z2⟩, -⟩ := a12 w hw
  refine ev_bs (mP27 hs) ?_
  refine ev_bs ((mV19 hs hw).trans (congrArg some z2)) ?_
  rw [nI_100w, nI_add]
  refine md_read_L (c := c) (w := w) (k := k) (B := 100 * w) (E := 100 * w + z) hw hk rfl (by omega) 1000 (100 * w) y3 τ 0 h (Nat.le_refl _) (by omega) ?_ (by omega)
  rcases hg with hg | ⟨hg1, rfl⟩
  · exact Or.inl hg
  · exact Or.inr ⟨hg1, by omega⟩
theorem nI_lit5 : (5 : Int32) = nI 5 := by decide +kernel
theorem md_unpack {c : Nat} {τ : fr_S} (h : MI c τ) (x1 x2 : Int32) : ev (m_Md_unpack c x1 x2 τ) (fun q => MI c q.2) := by
  unfold m_Md_unpack
  refine ev_bs (mSI h.1) ?_
  have h := M_code (v := 0) h
  generalize pI τ 1 c 0 = τ at h ⊢
  obtain ⟨hs, np, nw, nk, nt, nl, nf, re, a1, a2, a3, a4, a5, a6, a7, a8, a9, a10, a11, a12, a13, a14, a15, a16, a17, a18⟩ := id h
  refine ev_bs (mK hs) ?_
  refine ev_b (md_isWant hs a2 x1) (fun r hr => ?_)
  refine ev_if (fun _ => ev_some h) (fun hr0 => ?_)
  rcases hr with hr | ⟨-, w, hw, rfl⟩
  · exact absurd hr.1 hr0
  have hnw := a2.1
  refine ev_bs (mP25 hs) ?_
  refine ev_bs (mV17 hs (by omega)) ?_
  refine ev_if (fun _ => ?_) (fun _ => ev_some h)
  refine ev_if (fun _ => ev_some h) (fun h0 => ?_)
  refine ev_if (fun h5 => ?_) (fun _ => ev_some h)
  obtain ⟨k, -, hk, rfl⟩ := nI_rng (x := x2) (lo := 0) (hi := 5) (by rw [nI_0]; exact h0) (by rw [← nI_lit5]; exact h5) (by decide) (by decide)
  refine ev_bs (mK hs) ?_
  refine ev_b (md_read (g := 0) h (w := w) (by omega) hk 0 (Or.inl rfl)) (fun r hr => ?_)
  obtain ⟨r1, τ2⟩ := r
  have h2 : MI c τ2 := hr
  refine ev_if (fun _ => ?_) (fun _ => ev_some h2)
  refine ev_bs (mSI h2.1) ?_
  refine ev_bs (mK h2.1) ?_
  have h3 : MI c (pI τ2 39 c 0) := by
    have h := h2
    obtain ⟨hs, np, nw, nk, nt, nl, nf, re, a1, a2, a3, a4, a5, a6, a7, a8, a9, a10, a11, a12, a13, a14, a15, a16, a17, a18⟩ := id h
    exact ⟨hs, np, nw, nk, nt, nl, 0, re, (by simpa [gV_pI, gV_pAx, gI_pA, gI_pIx] using a1), (by simpa [gV_pI, gV_pAx, gI_pA, gI_pIx] using a2), (by simpa [gV_pI, gV_pAx, gI_pA, gI_pIx] using a3), (by simpa [gV_pI, gV_pAx, gI_pA, gI_pIx] using a4), (by simpa [gV_pI, gV_pAx, gI_pA, gI_pIx] using a5), ⟨by omega, by simpa [gI_pIx] using nI_0.symm⟩, (by simpa [gV_pI, gV_pAx, gI_pA, gI_pIx] using a7), (by simpa [gV_pI, gV_pAx, gI_pA, gI_pIx] using a8), (by simpa [gV_pI, gV_pAx, gI_pA, gI_pIx] using a9), (by simpa [gV_pI, gV_pAx, gI_pA, gI_pIx] using a10), (by simpa [gV_pI, gV_pAx, gI_pA, gI_pIx] using a11), (by simpa [gV_pI, gV_pAx, gI_pA, gI_pIx] using a12), (by simpa [gV_pI, gV_pAx, gI_pA, gI_pIx] using a13), (by simpa [gV_pI, gV_pAx, gI_pA, gI_pIx] using a14), (by simpa [gV_pI, gV_pAx, gI_pA, gI_pIx] using a15), (by simpa [gV_pI, gV_pAx, gI_pA, gI_pIx] using a16), (by simpa [gV_pI, gV_pAx, gI_pA, gI_pIx] using a17), (fun f hf => absurd hf (Nat.not_lt_zero f))⟩
  refine ev_b (md_read (g := 0) h3 (w := w) (by omega) hk 1 (Or.inr ⟨by simpa [gI_pIx] using nI_0.symm, rfl⟩)) (fun r hr => ?_)
  obtain ⟨r3, τ4⟩ := r
  have h4 : MI c τ4 := hr
  refine ev_bs (mI h4.1) ?_
  exact ev_some h4
