theorem xor1 {x : Nat} (hx : x < 256) : ∃ y, y < 256 ∧ (nI x ^^^ 1) = nI y := by
  have key : ∀ x : Nat, x < 256 → ∃ y, y < 256 ∧ (nI x ^^^ 1) = nI y := by
    intro x hx
    refine ⟨x ^^^ 1, ?_, ?_⟩
    · have h1 : x ^^^ 1 < 2 ^ 8 := Nat.xor_lt_two_pow (by omega) (by decide)
      exact h1
    · apply Int32.toBitVec_inj.mp
      rw [Int32.toBitVec_xor]
      have e1 : (nI x).toBitVec = BitVec.ofNat 32 x := rfl
      have e2 : (nI (x ^^^ 1)).toBitVec = BitVec.ofNat 32 (x ^^^ 1) := rfl
      have e3 : (1 : Int32).toBitVec = BitVec.ofNat 32 1 := rfl
      rw [e1, e2, e3]
      apply BitVec.eq_of_toNat_eq
      have h1 : x ^^^ 1 < 2 ^ 8 := Nat.xor_lt_two_pow (by omega) (by decide)
      rw [BitVec.toNat_xor, BitVec.toNat_ofNat, BitVec.toNat_ofNat, BitVec.toNat_ofNat, Nat.mod_eq_of_lt (by omega), Nat.mod_eq_of_lt (by decide), Nat.mod_eq_of_lt (by omega)]
  exact key x hx
theorem MI_np {c : Nat} {τ : fr_S} (h : MI c τ) : ∃ n, gI τ 6 c = nI n ∧ n ≤ 16 := by
  obtain ⟨-, np, nw, nk, nt, nl, nf, re, a1, -⟩ := h
  exact ⟨np, a1.2, a1.1⟩
theorem md_turn_L {c w p : Nat} (hp : p < 16) : ∀ (n k q : Nat) (y3 : Int32) (τ : fr_S) (z sz : Nat), MI c τ → (∃ n, gI τ 7 c = nI n ∧ n ≤ 10 ∧ w < n) → gV τ (c + 17) w = 1 → gV τ (c + 19) w = nI z → z ≤ 100 → gV τ (c + 5) p = nI sz → sz ≤ 100 → q ≤ 100 → k ≤ q → q - k < n → ev (m_Md_turn_L122 n c (nI w) (nI p) y3 (nI q) (nI k) τ) (MI c) := by
  intro n
  induction n with
  | zero => intro k q y3 τ z sz _ _ _ _ _ _ _ _ _ h; omega
  | succ n ih =>
    intro k q y3 τ z sz h hw hb hz hz1 hsz hsz1 hq hk hn
    have hs := h.1
    obtain ⟨n0, w1, w2, w3⟩ := id hw
    have fin : ev (if nI z < nI sz then if y3 = 0 then some τ else (oK τ 0 c).bind fun _ => (m_Md_falter c (nI w) τ).bind fun σ_51 => some σ_51 else (oK τ 0 c).bind fun _ => (m_Md_judge c (nI w) τ).bind fun σ_53 => some σ_53) (MI c) := by
      refine ev_if (fun _ => ?_) (fun _ => ?_)
      · refine ev_if (fun _ => ev_some h) (fun _ => ?_)
        refine ev_bs (mK hs) ?_
        exact ev_b (md_falter h hw hb) (fun τ' h' => ev_some h')
      · refine ev_bs (mK hs) ?_
        exact ev_b (md_judge h hw hb) (fun τ' h' => ev_some h')
    unfold m_Md_turn_L122
    refine ev_if (fun zz => ?_) (fun zz => ?_)
    · refine ev_bs (mP27 hs) ?_
      refine ev_bs ((mV19 hs (by omega)).trans (congrArg some hz)) ?_
      refine ev_bs (mP13 hs) ?_
      refine ev_bs ((mV5 hs hp).trans (congrArg some hsz)) ?_
      exact fin
    · rw [nI_leI (by omega) (by omega)] at zz
      refine ev_bs (mP27 hs) ?_
      refine ev_bs ((mV19 hs (by omega)).trans (congrArg some hz)) ?_
      refine ev_bs (mP13 hs) ?_
      refine ev_bs ((mV5 hs hp).trans (congrArg some hsz)) ?_
      refine ev_if (fun _ => ?_) (fun zs => ?_)
      · refine ev_bs (mP27 hs) ?_
        refine ev_bs ((mV19 hs (by omega)).trans (congrArg some hz)) ?_
        refine ev_bs (mP13 hs) ?_
        refine ev_bs ((mV5 hs hp).trans (congrArg some hsz)) ?_
        exact fin
      · rw [nI_leI (by omega) (by omega)] at zs
        have go : ∀ x, x < 256 → ev ((sV τ 0 (c + 20) (nI (100 * w + z)) (nI x)).bind fun σ_86 => (oP σ_86 0 27 c).bind fun q87 => (oV σ_86 0 q87 (nI w)).bind fun v88 => (sV σ_86 0 q87 (nI w) (v88 + 1)).bind fun σ_89 => m_Md_turn_L122 n c (nI w) (nI p) y3 (nI q) (nI k + 1) σ_89) (MI c) := by
          intro x hx
          refine ev_bs (mS20 hs (by omega)) ?_
          refine ev_bs (mP27 hs) ?_
          refine ev_bs (Eq.trans (mV19 hs (by omega)) (congrArg some (show _ = nI z by simpa [gV_pAx] using hz))) ?_
          refine ev_bs (mS19 hs (by omega)) ?_
          rw [nI_1, nI_1]
          refine ih (k + 1) q y3 _ (z + 1) sz (MI_ha (w := w) (n := z + 1) (MI_row (k := 100 * w + z) h hx) (by omega)) hw (by simpa [gV_pAx] using hb) (by simp [gV_pAx, upd_s]) (by omega) (by simpa [gV_pAx] using hsz) hsz1 hq (by omega) (by omega)
        obtain ⟨-, np, nw, nk, nt, nl, nf, re, -, -, -, -, -, -, -, -, -, a10, -⟩ := id h
        obtain ⟨x, hx, hxe⟩ := a10 (100 * p + z) (by omega)
        refine ev_bs (mP17 hs) ?_
        refine ev_bs (mP27 hs) ?_
        refine ev_bs ((mV19 hs (by omega)).trans (congrArg some hz)) ?_
        rw [nI_100]
        refine ev_bs ((mV9 hs (by omega)).trans (congrArg some hxe)) ?_
        refine ev_bs (mP28 hs) ?_
        refine ev_bs (mP27 hs) ?_
        refine ev_bs ((mV19 hs (by omega)).trans (congrArg some hz)) ?_
        refine ev_bs (mP27 hs) ?_
        refine ev_bs ((mV19 hs (by omega)).trans (congrArg some hz)) ?_
        rw [nI_100]
        refine ev_if (fun _ => ?_) (fun _ => go x hx)
        refine ev_bs (mP20 hs) ?_
        refine ev_bs (mV12 hs hp) ?_
        refine ev_if (fun _ => go x hx) (fun _ => ?_)
        obtain ⟨y, hy, hye⟩ := xor1 hx
        rw [hye]
        exact go y hy
theorem I_sz_cu {i t : Nat} {si cu cb : Nat → Int32} (hI : I_sz si cu cb) (ht : t ≤ 9) : I_sz si (upd cu i (nI t)) cb := by
  intro k hk
  obtain ⟨g1, g2, g3⟩ := hI k hk
  by_cases hki : k = i
  · subst hki
    exact ⟨g1, ⟨t, ht, upd_s⟩, g3⟩
  · rw [upd_n hki]
    exact ⟨g1, g2, g3⟩
theorem MI_cu {c p t : Nat} {τ : fr_S} (h : MI c τ) (ht : t ≤ 9) : MI c (pA τ (c + 7) (upd (gV τ (c + 7)) p (nI t))) := by
  obtain ⟨hs, np, nw, nk, nt, nl, nf, re, a1, a2, a3, a4, a5, a6, a7, a8, a9, a10, a11, a12, a13, a14, a15, a16, a17, a18⟩ := id h
  exact ⟨hs, np, nw, nk, nt, nl, nf, re, (by simpa [gV_pI, gV_pAx, gI_pA, gI_pIx] using a1), (by simpa [gV_pI, gV_pAx, gI_pA, gI_pIx] using a2), (by simpa [gV_pI, gV_pAx, gI_pA, gI_pIx] using a3), (by simpa [gV_pI, gV_pAx, gI_pA, gI_pIx] using a4), (by simpa [gV_pI, gV_pAx, gI_pA, gI_pIx] using a5), (by simpa [gV_pI, gV_pAx, gI_pA, gI_pIx] using a6), (by simpa [gV_pI, gV_pAx, gI_pA, gI_pIx] using a7), (by simpa [gV_pI, gV_pAx, gI_pA, gI_pIx] using a8), (by simpa [gV_pAx] using I_sz_cu (i := p) a9 ht), (by simpa [gV_pI, gV_pAx, gI_pA, gI_pIx] using a10), (by simpa [gV_pI, gV_pAx, gI_pA, gI_pIx] using a11), (by simpa [gV_pI, gV_pAx, gI_pA, gI_pIx] using a12), (by simpa [gV_pI, gV_pAx, gI_pA, gI_pIx] using a13), (by simpa [gV_pI, gV_pAx, gI_pA, gI_pIx] using a14), (by simpa [gV_pI, gV_pAx, gI_pA, gI_pIx] using a15), (by simpa [gV_pI, gV_pAx, gI_pA, gI_pIx] using a16), (by simpa [gV_pI, gV_pAx, gI_pA, gI_pIx] using a17), (by simpa [gV_pI, gV_pAx, gI_pA, gI_pIx] using a18)⟩
theorem nI_s0 (n : Nat) : nI n - 0 = nI n := by
  have h := pk_sub (a := n) (b := 0) (Nat.zero_le _)
  rw [nI_0] at h
  exact h
theorem nI_sm {n : Nat} (h : 0 < n) : nI n - 1 = nI (n - 1) := by
  obtain ⟨q, rfl⟩ : ∃ q, n = q + 1 := ⟨n - 1, by omega⟩
  exact nI_pred q
theorem md_turn {c w : Nat} {τ : fr_S} (h : MI c τ) (hw : ∃ n, gI τ 7 c = nI n ∧ n ≤ 10 ∧ w < n) (hb : gV τ (c + 17) w = 1) : ev (m_Md_turn c (nI w) τ) (MI c) := by
  unfold m_Md_turn
  obtain ⟨n0, w1, w2, w3⟩ := id hw
  refine ev_bs (mP30 h.1) ?_
  refine ev_bs (mV22 h.1 (by omega)) ?_
  refine ev_bs (mS22 h.1 (by omega)) ?_
  have h := MI_pA (a := 22) (u := upd (gV τ (c + 22)) w (gV τ (c + 22) w + 1)) h (by decide)
  have hw : ∃ n, gI (pA τ (c + 22) (upd (gV τ (c + 22)) w (gV τ (c + 22) w + 1))) 7 c = nI n ∧ n ≤ 10 ∧ w < n := hw
  have hb : gV (pA τ (c + 22) (upd (gV τ (c + 22)) w (gV τ (c + 22) w + 1))) (c + 17) w = 1 := by simpa [gV_pAx] using hb
  generalize pA τ (c + 22) (upd (gV τ (c + 22)) w (gV τ (c + 22) w + 1)) = τ at h hw hb ⊢
  obtain ⟨hs, np, nw, nk, nt, nl, nf, re, a1, a2, a3, a4, a5, a6, a7, a8, a9, a10, a11, a12, a13, a14, a15, a16, a17, a18⟩ := id h
  obtain ⟨m, a, p, m6, m1, m2, m3, p1, p2⟩ := busy_get a12 a11 (w := w) (by omega) hb
  have hnp := a1.1
  refine ev_bs (mP24 hs) ?_
  refine ev_bs (mP26 hs) ?_
  refine ev_bs ((mV18 hs (by omega)).trans (congrArg some m2)) ?_
  rw [nI_6]
  refine ev_bs ((mV16 hs (by omega)).trans (congrArg some p2)) ?_
  refine ev_bs (mK hs) ?_
  refine ev_b (md_ask hs a8 a1.1 p1) (fun r hr => ?_)
  obtain ⟨r1, τ2⟩ := r
  obtain ⟨hsb, hrr⟩ := hr
  have hsb : SB c τ τ2 := hsb
  have hrr : r1 = -1 ∨ ∃ j, j < np ∧ r1 = nI j := hrr
  have h2 := SB_MI h hsb
  have hw2 : ∃ n, gI τ2 7 c = nI n ∧ n ≤ 10 ∧ w < n := by
    obtain ⟨n1, v1, v2, v3⟩ := hw
    exact ⟨n1, by rw [hsb.2.1]; exact v1, v2, v3⟩
  have hs2 := h2.1
  have e18 : gV τ2 (c + 18) w = nI a := by rw [hsb.2.2 18 (by decide)]; exact m2
  refine ev_if (fun _ => ?_) (fun hne => ?_)
  · refine ev_bs (mP26 hs2) ?_
    refine ev_bs ((mV18 hs2 (by omega)).trans (congrArg some e18)) ?_
    refine ev_bs (mK hs2) ?_
    rw [nI_1]
    exact ev_b (md_goOn (f := a + 1) (MI_4 (w := w) h2) hw2 (by omega)) (fun τ' h' => ev_some h')
  · rcases hrr with hrr | ⟨j, hj, rfl⟩
    · exact absurd hrr hne
    have hb2 : gV τ2 (c + 17) w = 1 := by rw [hsb.2.2 17 (by decide)]; exact hb
    obtain ⟨⟨sz, sz1, sz2⟩, ⟨cu, cu1, cu2⟩, ⟨cb, cb1, cb2⟩⟩ := a9 j (by omega)
    have sz2' : gV τ2 (c + 5) j = nI sz := by rw [hsb.2.2 5 (by decide)]; exact sz2
    have cu2' : gV τ2 (c + 7) j = nI cu := by rw [hsb.2.2 7 (by decide)]; exact cu2
    have cb2' : gV τ2 (c + 8) j = nI cb := by rw [hsb.2.2 8 (by decide)]; exact cb2
    obtain ⟨-, ⟨ra, ra1, ra2, ra3⟩, -⟩ := a8 j hj
    have ra3' : gV τ2 (c + 4) j = nI ra := by rw [hsb.2.2 4 (by decide)]; exact ra3
    obtain ⟨-, ⟨z, z1, z2⟩, -⟩ := a12 w (by omega)
    have z2' : gV τ2 (c + 19) w = nI z := by rw [hsb.2.2 19 (by decide)]; exact z2
    have go : ∀ (y3 : Int32) (q t : Nat), q ≤ 100 → t ≤ 9 → ev (m_Md_turn_L122 1000 c (nI w) (nI j) y3 (nI q) 0 (pA τ2 (c + 7) (upd (gV τ2 (c + 7)) j (nI t)))) (MI c) := by
      intro y3 q t hq ht
      have key := md_turn_L (c := c) (w := w) (p := j) (by omega) 1000 0 q y3 _ z sz (MI_cu (p := j) h2 ht) hw2 (by simpa [gV_pAx] using hb2) (by simpa [gV_pAx] using z2') z1 (by simpa [gV_pAx] using sz2') sz1 hq (by omega) (by omega)
      rw [nI_0] at key
      exact key
    refine ev_bs (mP15 hs2) ?_
    refine ev_bs ((mV7 hs2 (by omega)).trans (congrArg some cu2')) ?_
    refine ev_if (fun _ => ?_) (fun hpos => ?_)
    · refine ev_bs (mP12 hs2) ?_
      refine ev_bs ((mV4 hs2 (by omega)).trans (congrArg some ra3')) ?_
      refine ev_bs (mP15 hs2) ?_
      refine ev_bs ((mV7 hs2 (by omega)).trans (congrArg some cu2')) ?_
      rw [nI_s0]
      refine ev_bs (mS7 hs2 (by omega)) ?_
      exact go 0 ra cu (by omega) cu1
    · have hcu : 0 < cu := by
        rcases Nat.eq_zero_or_pos cu with e | e
        · exact absurd (by rw [e, nI_0]; exact Int32.le_refl 0) hpos
        · exact e
      refine ev_bs (mP16 hs2) ?_
      refine ev_bs ((mV8 hs2 (by omega)).trans (congrArg some cb2')) ?_
      refine ev_bs (mP12 hs2) ?_
      refine ev_bs ((mV4 hs2 (by omega)).trans (congrArg some ra3')) ?_
      refine ev_if (fun _ => ?_) (fun _ => ?_)
      · refine ev_bs (mP12 hs2) ?_
        refine ev_bs ((mV4 hs2 (by omega)).trans (congrArg some ra3')) ?_
        refine ev_bs (mP15 hs2) ?_
        refine ev_bs ((mV7 hs2 (by omega)).trans (congrArg some cu2')) ?_
        rw [nI_sm hcu]
        refine ev_bs (mS7 hs2 (by omega)) ?_
        exact go 1 ra (cu - 1) (by omega) (by omega)
      · refine ev_bs (mP16 hs2) ?_
        refine ev_bs ((mV8 hs2 (by omega)).trans (congrArg some cb2')) ?_
        refine ev_bs (mP15 hs2) ?_
        refine ev_bs ((mV7 hs2 (by omega)).trans (congrArg some cu2')) ?_
        rw [nI_sm hcu]
        refine ev_bs (mS7 hs2 (by omega)) ?_
        exact go 1 cb (cu - 1) cb1 (by omega)
