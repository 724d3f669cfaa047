/-! keep: what a done want leaves -/
theorem md_keep_L {c w : Nat} (hw : w < 10) : ∀ (n k : Nat) (τ : fr_S) (z nk : Nat), MI c τ → gI τ 8 c = nI nk → nk < 10 → (∀ τ' : fr_S, MI c τ' → gI τ' 8 c = nI nk → gV τ' (c + 14) = gV τ (c + 14) → gV τ' (c + 24) = gV τ (c + 24) → gV τ' (c + 25) = gV τ (c + 25) → gI τ' 7 c = gI τ 7 c → MI c (pI τ' 8 c (nI (nk + 1)))) → gV τ (c + 19) w = nI z → z ≤ 100 → k ≤ z → z - k < n → ev (m_Md_keep_L46 n c (nI w) (nI k) τ) (fun r => MI c r) := by
  intro n
  induction n with
  | zero => intro k τ z nk _ _ _ _ _ _ _ h; omega
  | succ n ih =>
    intro k τ z nk h hnk hnk10 hfin hz hz1 hk hn
    unfold m_Md_keep_L46
    have hs := h.1
    refine ev_bs (mP27 hs) ?_
    refine ev_bs ((mV19 hs hw).trans (congrArg some hz)) ?_
    refine ev_if (fun zz => ?_) (fun zz => ?_)
    · refine ev_bs ((mI hs).trans (congrArg some hnk)) ?_
      refine ev_bs (mSI hs) ?_
      refine ev_bs (mP25 hs) ?_
      refine ev_bs (mS17 hs hw) ?_
      rw [nI_1]
      have key := MI_st (w := w) (s' := 3) (hfin τ h hnk rfl rfl rfl rfl) (by decide)
      rw [nI_v3] at key
      exact ev_some key
    · rw [nI_leI (by omega) (by omega)] at zz
      refine ev_bs (mP34 hs) ?_
      refine ev_bs ((mI hs).trans (congrArg some hnk)) ?_
      refine ev_bs (mP28 hs) ?_
      rw [nI_100]
      obtain ⟨-, np, nw, nk', nt, nl, nf, re, -, -, -, -, -, -, -, -, -, -, -, -, a13, -⟩ := id h
      obtain ⟨x, hx, hxe⟩ := a13 (100 * w + k) (by omega)
      refine ev_bs ((mV20 hs (by omega)).trans (congrArg some hxe)) ?_
      rw [nI_100]
      refine ev_bs (mS26 hs (by omega)) ?_
      rw [nI_1]
      refine ih (k + 1) _ z nk (MI_krow h hx) hnk hnk10 (fun τ' g1 g2 g3 g4 g5 g6 => hfin τ' g1 g2 ?_ ?_ ?_ g6) (by simpa [gV_pAx] using hz) hz1 (by omega) (by omega)
      · rw [g3]; simp [gV_pAx]
      · rw [g4]; simp [gV_pAx]
      · rw [g5]; simp [gV_pAx]
theorem I_ke_out {nw nk n' : Nat} {go ke ks : Nat → Int32} {x : Int32} (h : I_ke nw nk go ke ks) : I_ke nw nk go (upd ke nk x) (upd ks nk (nI n')) := by
  refine ⟨fun k hk => ?_, fun k k' hkk hk' => ?_⟩
  · rw [upd_n (show k ≠ nk by omega), upd_n (show k ≠ nk by omega)]
    exact h.1 k hk
  · rw [upd_n (show k ≠ nk by omega), upd_n (show k' ≠ nk by omega)]
    exact h.2 k k' hkk hk'
theorem md_keep {c w : Nat} {τ : fr_S} (h : MI c τ) (hw : ∃ n, gI τ 7 c = nI n ∧ n ≤ 10 ∧ w < n) : ev (m_Md_keep c (nI w) τ) (fun q => MI c q) := by
  unfold m_Md_keep
  obtain ⟨hs, np, nw, nk, nt, nl, nf, re, a1, a2, a3, a4, a5, a6, a7, a8, a9, a10, a11, a12, a13, a14, a15, a16, a17, a18⟩ := id h
  obtain ⟨n0, w1, w2, w3⟩ := hw
  have hn0 : n0 = nw := nI_inj (by omega) (by have := a2.1; omega) (w1.symm.trans a2.2)
  subst hn0
  have hkl := I_ke_le a14
  refine ev_bs (mP22 hs) ?_
  refine ev_bs (mV14 hs (by omega)) ?_
  refine ev_bs (mK hs) ?_
  refine ev_b (md_keptOf hs a3 (by omega) _) (fun r hr => ?_)
  refine ev_if (fun hr1 => ?_) (fun hr1 => ?_)
  · rcases hr with ⟨-, hne⟩ | ⟨q, hq, hqr, -⟩
    · obtain ⟨-, ⟨z, hz1, hz2⟩, -⟩ := a12 w (by omega)
      have b14 := I_ke_add (n := z) a14 w3 hz1 hne
      have hkl2 := I_ke_le b14
      refine ev_bs (mP32 hs) ?_
      refine ev_bs ((mI hs).trans (congrArg some a3)) ?_
      refine ev_bs (mP22 hs) ?_
      refine ev_bs (mV14 hs (by omega)) ?_
      refine ev_bs (mS24 hs (by omega)) ?_
      refine ev_bs (mP33 hs) ?_
      refine ev_bs (Eq.trans (mI hs) (congrArg some (show gI (pA τ (c + 24) (upd (gV τ (c + 24)) nk (gV τ (c + 14) w))) 8 c = nI nk from a3))) ?_
      refine ev_bs (mP27 hs) ?_
      have hz2' : gV (pA τ (c + 24) (upd (gV τ (c + 24)) nk (gV τ (c + 14) w))) (c + 19) w = nI z := by simpa [gV_pAx] using hz2
      refine ev_bs (Eq.trans (mV19 hs (by omega)) (congrArg some hz2')) ?_
      refine ev_bs (mS25 hs (by omega)) ?_
      have key := md_keep_L (c := c) (w := w) (by omega) 1000 0 (pA (pA τ (c + 24) (upd (gV τ (c + 24)) nk (gV τ (c + 14) w))) (c + 25) (upd (gV (pA τ (c + 24) (upd (gV τ (c + 24)) nk (gV τ (c + 14) w))) (c + 25)) nk (nI z))) z nk ⟨hs, np, n0, nk, nt, nl, nf, re, (by simpa [gV_pI, gV_pAx, gI_pA, gI_pIx] using a1), (by simpa [gV_pI, gV_pAx, gI_pA, gI_pIx] using a2), (by simpa [gV_pI, gV_pAx, gI_pA, gI_pIx] using a3), (by simpa [gV_pI, gV_pAx, gI_pA, gI_pIx] using a4), (by simpa [gV_pI, gV_pAx, gI_pA, gI_pIx] using a5), (by simpa [gV_pI, gV_pAx, gI_pA, gI_pIx] using a6), (by simpa [gV_pI, gV_pAx, gI_pA, gI_pIx] using a7), (by simpa [gV_pI, gV_pAx, gI_pA, gI_pIx] using a8), (by simpa [gV_pI, gV_pAx, gI_pA, gI_pIx] using a9), (by simpa [gV_pI, gV_pAx, gI_pA, gI_pIx] using a10), (by simpa [gV_pI, gV_pAx, gI_pA, gI_pIx] using a11), (by simpa [gV_pI, gV_pAx, gI_pA, gI_pIx] using a12), (by simpa [gV_pI, gV_pAx, gI_pA, gI_pIx] using a13), (by simpa [gV_pAx] using I_ke_out (n' := z) (x := gV τ (c + 14) w) a14), (by simpa [gV_pI, gV_pAx, gI_pA, gI_pIx] using a15), (by simpa [gV_pI, gV_pAx, gI_pA, gI_pIx] using a16), (by simpa [gV_pI, gV_pAx, gI_pA, gI_pIx] using a17), (by simpa [gV_pI, gV_pAx, gI_pA, gI_pIx] using a18)⟩ a3 (by omega) ?_ (by simpa [gV_pAx] using hz2) hz1 (by omega) (by omega)
      · rw [nI_0] at key
        exact key
      · intro τ' h' g2 g3 g4 g5 g6
        obtain ⟨hs', np', nw', nk', nt', nl', nf', re', b1, b2, b3, b4, b5, b6, b7, b8, b9, b10, b11, b12, b13, b14', b15, b16, b17, b18⟩ := id h'
        have en : nw' = n0 := nI_inj (by have := b2.1; omega) (by omega) (b2.2.symm.trans (g6.trans a2.2))
        subst en
        refine ⟨hs', np', nw', nk + 1, nt', nl', nf', re', by simpa [gI_pIx] using b1, by simpa [gI_pIx] using b2, by simp [gI_pIx], by simpa [gI_pIx] using b4, by simpa [gI_pIx] using b5, by simpa [gI_pIx] using b6, by simpa [gI_pIx] using b7, b8, b9, b10, b11, b12, b13, ?_, b15, b16, b17, b18⟩
        show I_ke nw' (nk + 1) (gV τ' (c + 14)) (gV τ' (c + 24)) (gV τ' (c + 25))
        rw [g3, g4, g5]
        simpa [gV_pAx] using b14
    · rw [hqr] at hr1
      exact absurd hr1 (fun e => absurd (show nI q < 0 by rw [e]; exact nI_m1) (nI_pos (by omega)))
  · refine ev_bs (mP25 hs) ?_
    refine ev_bs (mS17 hs (by omega)) ?_
    have key := MI_st (w := w) (s' := 3) h (by decide)
    rw [nI_v3] at key
    exact ev_some key
/-- nothing but the credentials sent has changed -/
def SB (c : Nat) (τ τ' : fr_S) : Prop := Sm c τ' ∧ (∀ f, gI τ' f c = gI τ f c) ∧ ∀ a, a ≠ 2 → gV τ' (c + a) = gV τ (c + a)
theorem SB_MI {c : Nat} {τ τ' : fr_S} (h : MI c τ) (hb : SB c τ τ') : MI c τ' := by
  obtain ⟨hs, np, nw, nk, nt, nl, nf, re, hI⟩ := h
  obtain ⟨b1, b2, b3⟩ := hb
  refine ⟨b1, np, nw, nk, nt, nl, nf, re, ?_⟩
  unfold M_I
  rw [b2, b2, b2, b2, b2, b2, b2, b3 3 (by decide), b3 4 (by decide), b3 6 (by decide), b3 5 (by decide), b3 7 (by decide), b3 8 (by decide), b3 9 (by decide), b3 15 (by decide), b3 16 (by decide), b3 17 (by decide), b3 18 (by decide), b3 19 (by decide), b3 23 (by decide), b3 20 (by decide), b3 14 (by decide), b3 24 (by decide), b3 25 (by decide), b3 26 (by decide), b3 13 (by decide), b3 27 (by decide), b3 28 (by decide), b3 30 (by decide), b3 33 (by decide), b3 34 (by decide)]
  exact hI
theorem SB_rf {c : Nat} {τ : fr_S} (hs : Sm c τ) : SB c τ τ := ⟨hs, fun _ => rfl, fun _ _ => rfl⟩
theorem SB_up {c : Nat} {τ τ' : fr_S} {u : Nat → Int32} (h : SB c τ τ') : SB c τ (pA τ' (c + 2) u) := ⟨h.1, h.2.1, fun a ha => by rw [gV_pAn (show c + a ≠ c + 2 by omega)]; exact h.2.2 a ha⟩
theorem md_ask_L {c np : Nat} {τ : fr_S} (h8 : I_pl np (gV τ (c + 3)) (gV τ (c + 4)) (gV τ (c + 6))) (hnp : np ≤ 16) : ∀ (n p t : Nat) (y3 : Int32) (τ' : fr_S), SB c τ τ' → p < np → t ≤ 3 → 3 - t < n → ev (m_Md_ask_L40 n c (nI p) y3 (nI t) τ') (fun q => SB c τ q.2 ∧ (q.1 = -1 ∨ ∃ j, j < np ∧ q.1 = nI j)) := by
  intro n
  induction n with
  | zero => intro p t y3 τ' _ _ _ h; omega
  | succ n ih =>
    intro p t y3 τ' hb hp ht hn
    unfold m_Md_ask_L40
    have hs := hb.1
    have e3 := hb.2.2 3 (by decide)
    have e6 := hb.2.2 6 (by decide)
    have fin : ∀ y : Int32, ev (if y3 = 0 then some ((-1 : Int32), τ') else some (nI p, τ')) (fun q => SB c τ q.2 ∧ (q.1 = -1 ∨ ∃ j, j < np ∧ q.1 = nI j)) := fun y => ev_if (fun _ => ev_some ⟨hb, Or.inl rfl⟩) (fun _ => ev_some ⟨hb, Or.inr ⟨p, hp, rfl⟩⟩)
    refine ev_bs (mP18 hs) ?_
    refine ev_bs (mV10 hs (by omega)) ?_
    refine ev_if (fun _ => ?_) (fun _ => ?_)
    · refine ev_bs (mP14 hs) ?_
      refine ev_bs (mV6 hs (by omega)) ?_
      refine ev_if (fun _ => ?_) (fun hne => ?_)
      · refine ev_bs (mP18 hs) ?_
        refine ev_bs (mV10 hs (by omega)) ?_
        refine ev_if (fun _ => ?_) (fun _ => ev_some ⟨hb, Or.inl rfl⟩)
        refine ev_bs (mP19 hs) ?_
        refine ev_bs (mV11 hs (by omega)) ?_
        exact ev_if (fun _ => ev_some ⟨hb, Or.inr ⟨p, hp, rfl⟩⟩) (fun _ => fin 0)
      · refine ev_if (fun _ => ev_some ⟨hb, Or.inl rfl⟩) (fun h3 => ?_)
        have ht3 : t < 3 := by
          have h9 : ¬ t = 3 := fun z => h3 (by rw [z]; exact nI_v3)
          omega
        obtain ⟨-, -, hl⟩ := h8 p hp
        obtain ⟨q, hq, hqe⟩ : ∃ q, q < np ∧ gV τ' (c + 6) p = nI q := by
          rw [e6]
          rcases hl with hl | hl
          · rw [e6] at hne; exact absurd hl hne
          · exact hl
        obtain ⟨⟨hh, hh8, hhe⟩, -⟩ := h8 q hq
        have hhe' : gV τ' (c + 3) q = nI hh := by rw [e3]; exact hhe
        refine ev_bs (mP14 hs) ?_
        refine ev_bs ((mV6 hs (by omega)).trans (congrArg some hqe)) ?_
        refine ev_if (fun _ => ?_) (fun _ => ?_)
        · refine ev_bs (mP5 hs) ?_
          refine ev_bs (mP11 hs) ?_
          refine ev_bs ((mV3 hs (by omega)).trans (congrArg some hhe')) ?_
          refine ev_bs (mV2 hs hh8) ?_
          refine ev_bs (mS2 hs hh8) ?_
          rw [nI_1]
          exact ih q (t + 1) 0 _ (SB_up hb) hq (by omega) (by omega)
        · refine ev_bs (mP11 hs) ?_
          refine ev_bs ((mV3 hs (by omega)).trans (congrArg some hhe')) ?_
          refine ev_bs (mP11 hs) ?_
          refine ev_bs (mV3 hs (by omega)) ?_
          refine ev_if (fun _ => ?_) (fun _ => ?_)
          · refine ev_bs (mP5 hs) ?_
            refine ev_bs (mP11 hs) ?_
            refine ev_bs ((mV3 hs (by omega)).trans (congrArg some hhe')) ?_
            refine ev_bs (mV2 hs hh8) ?_
            refine ev_bs (mS2 hs hh8) ?_
            rw [nI_1]
            exact ih q (t + 1) 1 _ (SB_up hb) hq (by omega) (by omega)
          · refine ev_bs (mP5 hs) ?_
            refine ev_bs (mP11 hs) ?_
            refine ev_bs ((mV3 hs (by omega)).trans (congrArg some hhe')) ?_
            refine ev_bs (mV2 hs hh8) ?_
            refine ev_bs (mS2 hs hh8) ?_
            rw [nI_1]
            exact ih q (t + 1) 0 _ (SB_up hb) hq (by omega) (by omega)
    · refine ev_bs (mP18 hs) ?_
      refine ev_bs (mV10 hs (by omega)) ?_
      refine ev_if (fun _ => ?_) (fun _ => ev_some ⟨hb, Or.inl rfl⟩)
      refine ev_bs (mP19 hs) ?_
      refine ev_bs (mV11 hs (by omega)) ?_
      exact ev_if (fun _ => ev_some ⟨hb, Or.inr ⟨p, hp, rfl⟩⟩) (fun _ => fin 0)
theorem md_ask {c np p : Nat} {τ : fr_S} (hs : Sm c τ) (h8 : I_pl np (gV τ (c + 3)) (gV τ (c + 4)) (gV τ (c + 6))) (hnp : np ≤ 16) (hp : p < np) : ev (m_Md_ask c (nI p) τ) (fun q => SB c τ q.2 ∧ (q.1 = -1 ∨ ∃ j, j < np ∧ q.1 = nI j)) := by
  unfold m_Md_ask
  obtain ⟨⟨hh, hh8, hhe⟩, -⟩ := h8 p hp
  refine ev_bs (mP4 hs) ?_
  refine ev_bs (mP11 hs) ?_
  refine ev_bs ((mV3 hs (by omega)).trans (congrArg some hhe)) ?_
  refine ev_bs (mV1 hs hh8) ?_
  refine ev_bs (mP5 hs) ?_
  refine ev_bs (mP11 hs) ?_
  refine ev_bs ((mV3 hs (by omega)).trans (congrArg some hhe)) ?_
  refine ev_bs (mV2 hs hh8) ?_
  refine ev_if (fun _ => ?_) (fun _ => ?_)
  · refine ev_bs (mS2 hs hh8) ?_
    have key := md_ask_L h8 hnp 1000 p 0 (gV τ (c + 1) hh) _ (SB_up (u := upd (gV τ (c + 2)) hh (gV τ (c + 2) hh + 0)) (SB_rf hs)) hp (by omega) (by omega)
    rw [nI_0] at key
    exact key
  · refine ev_bs (mS2 hs hh8) ?_
    have key := md_ask_L h8 hnp 1000 p 0 (gV τ (c + 1) hh) _ (SB_up (u := upd (gV τ (c + 2)) hh (gV τ (c + 2) hh + 1)) (SB_rf hs)) hp (by omega) (by omega)
    rw [nI_0] at key
    exact key
