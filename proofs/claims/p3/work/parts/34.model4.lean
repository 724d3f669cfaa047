theorem nI_m1 : (-1 : Int32) < 0 := by decide +kernel
theorem nI_100 (i k : Nat) : (100 * nI i) + nI k = nI (100 * i + k) := by rw [nI_lit100, pk_mul, nI_add]
theorem nI_6 (i k : Nat) : (6 * nI i) + nI k = nI (6 * i + k) := by rw [nI_lit6, pk_mul, nI_add]
/-- arrays that the invariant doesn't speak of -/
theorem MI_pA {c a : Nat} {τ : fr_S} {u : Nat → Int32} (h : MI c τ) (ha : a = 1 ∨ a = 2 ∨ a = 10 ∨ a = 11 ∨ a = 12 ∨ a = 21 ∨ a = 22 ∨ a = 29 ∨ a = 31 ∨ a = 32) : MI c (pA τ (c + a) u) := by
  obtain ⟨hs, np, nw, nk, nt, nl, nf, re, hI⟩ := h
  refine ⟨hs, np, nw, nk, nt, nl, nf, re, ?_⟩
  rcases ha with rfl | rfl | rfl | rfl | rfl | rfl | rfl | rfl | rfl | rfl <;> simpa [M_I, gV_pAx, gI_pA] using hI
theorem I_pl_lead {np i : Nat} {ho ra le : Nat → Int32} {v : Int32} (h : I_pl np ho ra le) (hv : v = -1 ∨ ∃ j, j < np ∧ v = nI j) : I_pl np ho ra (upd le i v) := by
  intro k hk
  obtain ⟨g1, g2, g3⟩ := h k hk
  refine ⟨g1, g2, ?_⟩
  by_cases hki : k = i
  · subst hki
    rw [upd_s]
    exact hv
  · rw [upd_n hki]
    exact g3
theorem md_B93 {c i : Nat} {τ : fr_S} (h : MI c τ) (hi : i < 16) (y2 y3 : Int32) : ev (m_Md_does_B93 c (nI i) y2 y3 τ) (fun q => MI c q.2) := by
  unfold m_Md_does_B93
  refine ev_if (fun _ => ?_) (fun _ => ev_some h)
  refine ev_bs (mP20 h.1) ?_
  refine ev_if (fun _ => ?_) (fun _ => ?_)
  · refine ev_bs (mS12 h.1 hi) ?_
    exact ev_some (MI_pA h (by decide))
  · refine ev_bs (mS12 h.1 hi) ?_
    exact ev_some (MI_pA h (by decide))
theorem md_B73 {c i : Nat} {τ : fr_S} (h : MI c τ) (hi : i < 16) (y2 y3 : Int32) : ev (m_Md_does_B73 c (nI i) y2 y3 τ) (fun q => MI c q.2) := by
  unfold m_Md_does_B73
  refine ev_if (fun _ => ?_) (fun _ => md_B93 h hi y2 y3)
  refine ev_bs (mP19 h.1) ?_
  refine ev_if (fun _ => ?_) (fun _ => ?_)
  · refine ev_bs (mS11 h.1 hi) ?_
    exact md_B93 (MI_pA h (by decide)) hi y2 y3
  · refine ev_bs (mS11 h.1 hi) ?_
    exact md_B93 (MI_pA h (by decide)) hi y2 y3
theorem md_B61 {c i : Nat} {τ : fr_S} (h : MI c τ) (hi : i < 16) (y2 y3 : Int32) (hy : y2 = 1 → y3 = -1 ∨ ∃ n j, gI τ 6 c = nI n ∧ n ≤ 16 ∧ j < n ∧ y3 = nI j) : ev (m_Md_does_B61 c (nI i) y2 y3 τ) (fun q => MI c q.2) := by
  unfold m_Md_does_B61
  refine ev_if (fun h1 => ?_) (fun _ => md_B73 h hi y2 y3)
  obtain ⟨hs, np, nw, nk, nt, nl, nf, re, a1, a2, a3, a4, a5, a6, a7, a8, a9, a10, a11, a12, a13, a14, a15, a16, a17, a18⟩ := id h
  refine ev_bs (mP14 hs) ?_
  refine ev_bs (mS6 hs hi) ?_
  have hv : y3 = -1 ∨ ∃ j, j < np ∧ y3 = nI j := by
    rcases hy h1 with g | ⟨n, j, g1, g2, g3, g4⟩
    · exact Or.inl g
    · have hn : n = np := nI_inj (by omega) (by have := a1.1; omega) (g1.symm.trans a1.2)
      exact Or.inr ⟨j, by omega, g4⟩
  have h2 : MI c (pA τ (c + 6) (upd (gV τ (c + 6)) i y3)) := ⟨hs, np, nw, nk, nt, nl, nf, re, (by simpa [gV_pI, gV_pAx, gI_pA, gI_pIx] using a1), (by simpa [gV_pI, gV_pAx, gI_pA, gI_pIx] using a2), (by simpa [gV_pI, gV_pAx, gI_pA, gI_pIx] using a3), (by simpa [gV_pI, gV_pAx, gI_pA, gI_pIx] using a4), (by simpa [gV_pI, gV_pAx, gI_pA, gI_pIx] using a5), (by simpa [gV_pI, gV_pAx, gI_pA, gI_pIx] using a6), (by simpa [gV_pI, gV_pAx, gI_pA, gI_pIx] using a7), (by simpa [gV_pAx] using I_pl_lead (i := i) a8 hv), (by simpa [gV_pI, gV_pAx, gI_pA, gI_pIx] using a9), (by simpa [gV_pI, gV_pAx, gI_pA, gI_pIx] using a10), (by simpa [gV_pI, gV_pAx, gI_pA, gI_pIx] using a11), (by simpa [gV_pI, gV_pAx, gI_pA, gI_pIx] using a12), (by simpa [gV_pI, gV_pAx, gI_pA, gI_pIx] using a13), (by simpa [gV_pI, gV_pAx, gI_pA, gI_pIx] using a14), (by simpa [gV_pI, gV_pAx, gI_pA, gI_pIx] using a15), (by simpa [gV_pI, gV_pAx, gI_pA, gI_pIx] using a16), (by simpa [gV_pI, gV_pAx, gI_pA, gI_pIx] using a17), (by simpa [gV_pI, gV_pAx, gI_pA, gI_pIx] using a18)⟩
  exact md_B73 h2 hi y2 y3
theorem md_B42 {c i : Nat} {τ : fr_S} (h : MI c τ) (hi : i < 16) (y2 y3 : Int32) (hy : y2 = 1 → y3 = -1 ∨ ∃ n j, gI τ 6 c = nI n ∧ n ≤ 16 ∧ j < n ∧ y3 = nI j) : ev (m_Md_does_B42 c (nI i) y2 y3 τ) (fun q => MI c q.2) := by
  unfold m_Md_does_B42
  refine ev_if (fun _ => ?_) (fun _ => md_B61 h hi y2 y3 hy)
  refine ev_bs (mP18 h.1) ?_
  refine ev_if (fun _ => ?_) (fun _ => ?_)
  · refine ev_bs (mS10 h.1 hi) ?_
    exact md_B61 (MI_pA h (by decide)) hi y2 y3 hy
  · refine ev_bs (mS10 h.1 hi) ?_
    exact md_B61 (MI_pA h (by decide)) hi y2 y3 hy
theorem md_does {c : Nat} {τ : fr_S} (h : MI c τ) (x1 x2 x3 : Int32) : ev (m_Md_does c x1 x2 x3 τ) (fun q => MI c q.2) := by
  unfold m_Md_does
  refine ev_bs (mSI h.1) ?_
  have h := M_code (v := 0) h
  generalize pI τ 1 c 0 = τ at h ⊢
  obtain ⟨hs, np, nw, nk, nt, nl, nf, re, a1, a2, a3, a4, a5, a6, a7, a8, a9, a10, a11, a12, a13, a14, a15, a16, a17, a18⟩ := id h
  refine ev_bs (mK hs) ?_
  refine ev_b (md_isPlace hs a1 x1) (fun r hr => ?_)
  refine ev_if (fun _ => ev_some h) (fun hr0 => ?_)
  rcases hr with hr | ⟨-, i, hi, rfl⟩
  · exact absurd hr.1 hr0
  have hnp := a1.1
  refine ev_if (fun _ => ev_some h) (fun _ => ?_)
  refine ev_if (fun _ => ev_some h) (fun _ => ?_)
  refine ev_if (fun h1 => ?_) (fun h1 => md_B42 h (by omega) x2 x3 (fun z => absurd z h1))
  refine ev_if (fun h2 => md_B42 h (by omega) x2 x3 (fun _ => Or.inl h2)) (fun _ => ?_)
  refine ev_bs (mK hs) ?_
  refine ev_b (md_isPlace hs a1 x3) (fun r2 hr2 => ?_)
  refine ev_if (fun _ => ev_some h) (fun hr20 => ?_)
  rcases hr2 with hr2 | ⟨-, j, hj, rfl⟩
  · exact absurd hr2.1 hr20
  exact md_B42 h (by omega) x2 _ (fun _ => Or.inr ⟨np, j, a1.2, a1.1, hj, rfl⟩)
/-- the digest of a row -/
def dg_n (s b : Int32) : Int32 := ((((s ^^^ b) <<< (5 &&& 31)) ||| (fr_ushr (s ^^^ b) 27)) * (-2048144777))
def dg (f : Nat → Int32) : Nat → Int32
  | 0 => 0
  | n + 1 => dg_n (dg f n) (f n)
theorem md_digest_L {c i np sz : Nat} {τ : fr_S} (hs : Sm c τ) (h1 : np ≤ 16 ∧ gI τ 6 c = nI np) (hi : i < np) (hz : sz ≤ 100 ∧ gV τ (c + 5) i = nI sz) : ∀ (n k : Nat), k ≤ sz → sz - k < n → ev (m_Md_digest_L9 n c (nI i) (dg (fun k => gV τ (c + 9) (100 * i + k)) k) (nI k) τ) (fun q => q = (dg (fun k => gV τ (c + 9) (100 * i + k)) sz, τ)) := by
  intro n
  induction n with
  | zero => intro k _ h; omega
  | succ n ih =>
    intro k hk hn
    unfold m_Md_digest_L9
    refine ev_bs (mK hs) ?_
    refine ev_b (md_isPlace hs h1 (nI i)) (fun r hr => ?_)
    have hnp := h1.1
    rcases hr with ⟨-, hr⟩ | ⟨rfl, -⟩
    · exact absurd ⟨nI_pos (by omega), nI_ge hi (by omega)⟩ hr
    refine ev_if (fun z => absurd z (by decide)) (fun _ => ?_)
    refine ev_bs (mP13 hs) ?_
    refine ev_bs ((mV5 hs (by omega)).trans (congrArg some hz.2)) ?_
    refine ev_if (fun z => ?_) (fun z => ?_)
    · rw [nI_leI (by omega) (by omega)] at z
      have hks : k = sz := by omega
      subst hks
      exact ev_some rfl
    · rw [nI_leI (by omega) (by omega)] at z
      refine ev_bs (mP17 hs) ?_
      rw [nI_100]
      refine ev_bs (mV9 hs (by omega)) ?_
      refine ev_bs (a := dg (fun k => gV τ (c + 9) (100 * i + k)) (k + 1)) rfl ?_
      rw [nI_1]
      exact ih (k + 1) (by omega) (by omega)
theorem md_digest {c : Nat} {τ : fr_S} (h : MI c τ) (x1 : Int32) : ev (m_Md_digest c x1 τ) (fun q => MI c q.2) := by
  unfold m_Md_digest
  refine ev_bs (mSI h.1) ?_
  have h := M_code (v := 0) h
  generalize pI τ 1 c 0 = τ at h ⊢
  obtain ⟨hs, np, nw, nk, nt, nl, nf, re, a1, a2, a3, a4, a5, a6, a7, a8, a9, a10, a11, a12, a13, a14, a15, a16, a17, a18⟩ := id h
  have hnp := a1.1
  by_cases hx : ¬ x1 < 0 ∧ ¬ nI np ≤ x1
  · obtain ⟨i, hi, rfl⟩ := nI_get (x := x1) (n := np) (by omega) hx.1 hx.2
    obtain ⟨⟨sz, g1, g2⟩, -⟩ := a9 i (by omega)
    have key := md_digest_L hs a1 hi ⟨g1, g2⟩ 1000 0 (by omega) (by omega)
    rw [nI_0] at key
    exact ev_mono key (fun q hq => by rw [hq]; exact h)
  · unfold m_Md_digest_L9
    refine ev_bs (mK hs) ?_
    refine ev_b (md_isPlace hs a1 x1) (fun r hr => ?_)
    rcases hr with ⟨rfl, -⟩ | ⟨-, j, hj, rfl⟩
    · refine ev_if (fun _ => ev_some h) (fun z => absurd rfl z)
    · exact absurd ⟨nI_pos (by omega), nI_ge hj (by omega)⟩ hx
