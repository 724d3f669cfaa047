/-- a kept row more, or a telling more: all else is as it was -/
theorem RN_kt {b c np nw nk nt nl nf nk' nt' : Nat} {σ τ σ' τ' : fr_S} (h : RN b c np nw nk nt nl nf σ τ) (x1 : ∀ f a, f ≠ 387 → f ≠ 322 → (f = 257 → ∀ i, i < 10 → a ≠ b + 8 + 2 * i) → gI σ' f a = gI σ f a) (x2 : ∀ a, a ≠ b + 29 → a ≠ b + 30 → a ≠ b + 31 → a ≠ b + 6 → (∀ i, i < 10 → a ≠ b + 9 + 2 * i) → gV σ' a = gV σ a) (m1 : ∀ f, f ≠ 8 → f ≠ 9 → gI τ' f c = gI τ f c) (m2 : ∀ a, (a < 24 ∨ 29 < a) → gV τ' (c + a) = gV τ (c + a)) (ck : nk' ≤ 10 ∧ gI σ' 322 (b + 5) = nI nk' ∧ gI τ' 8 c = nI nk') (ct : nt' ≤ 60 ∧ gI σ' 387 (b + 28) = nI nt' ∧ gI τ' 9 c = nI nt') (hk : R_k b c nk' σ' τ') (ht : R_t b c nt' σ' τ') : RN b c np nw nk' nt' nl nf σ' τ' := by
  obtain ⟨h_c, h_g, h_h, h_p, h_b, h_w, h_k, h_t, h_l, h_f⟩ := h
  have y1 : ∀ f a, f ≠ 387 → f ≠ 322 → f ≠ 257 → gI σ' f a = gI σ f a := fun f a e1 e2 e3 => x1 f a e1 e2 (fun z => absurd z e3)
  refine ⟨?_, ?_, ?_, ?_, ?_, ?_, hk, ht, ?_, ?_⟩
  · obtain ⟨c1, c2, c3, c4, c5, c6⟩ := h_c
    refine ⟨⟨c1.1, ?_, ?_⟩, ⟨c2.1, ?_, ?_⟩, ck, ct, ⟨c5.1, ?_, ?_⟩, ⟨c6.1, ?_, ?_⟩⟩
    · rw [y1 _ _ (by decide) (by decide) (by decide)]; exact c1.2.1
    · rw [m1 _ (by decide) (by decide)]; exact c1.2.2
    · rw [y1 _ _ (by decide) (by decide) (by decide)]; exact c2.2.1
    · rw [m1 _ (by decide) (by decide)]; exact c2.2.2
    · rw [y1 _ _ (by decide) (by decide) (by decide)]; exact c5.2.1
    · rw [m1 _ (by decide) (by decide)]; exact c5.2.2
    · rw [y1 _ _ (by decide) (by decide) (by decide)]; exact c6.2.1
    · rw [m1 _ (by decide) (by decide)]; exact c6.2.2
  · refine ⟨?_, ?_, ?_⟩
    · rw [y1 _ _ (by decide) (by decide) (by decide), m1 _ (by decide) (by decide)]; exact h_g.1
    · rw [y1 _ _ (by decide) (by decide) (by decide), m1 _ (by decide) (by decide)]; exact h_g.2.1
    · rw [y1 _ _ (by decide) (by decide) (by decide), m1 _ (by decide) (by decide)]; exact h_g.2.2
  · refine ⟨fun i hi => ?_, fun i hi => ?_⟩
    · rw [x2 _ (by omega) (by omega) (by omega) (by omega) (by omega), m2 _ (by decide)]; exact h_h.1 i hi
    · rw [x2 _ (by omega) (by omega) (by omega) (by omega) (by omega), m2 _ (by decide)]; exact h_h.2 i hi
  · intro i hi
    rw [y1 193 _ (by decide) (by decide) (by decide), y1 194 _ (by decide) (by decide) (by decide), y1 195 _ (by decide) (by decide) (by decide), y1 196 _ (by decide) (by decide) (by decide), y1 197 _ (by decide) (by decide) (by decide), y1 198 _ (by decide) (by decide) (by decide), y1 199 _ (by decide) (by decide) (by decide), y1 200 _ (by decide) (by decide) (by decide), y1 201 _ (by decide) (by decide) (by decide), m2 3 (by decide), m2 4 (by decide), m2 6 (by decide), m2 7 (by decide), m2 8 (by decide), m2 10 (by decide), m2 11 (by decide), m2 12 (by decide), m2 13 (by decide)]
    exact h_p i hi
  · intro i hi
    have g := h_b i hi
    refine ⟨?_, fun m k e hm hk => ?_⟩
    · rw [x1 257 _ (by decide) (by decide) (fun _ q hq => by omega), m2 5 (by decide)]; exact g.1
    · rw [m2 5 (by decide)] at e
      rw [x2 _ (by omega) (by omega) (by omega) (by omega) (fun q hq => by omega), m2 9 (by decide)]
      exact g.2 m k e hm hk
  · intro i hi
    obtain ⟨g1, g2, g3, g4, g5, g6, g7, g8⟩ := h_w i hi
    have q17 := congrFun (m2 17 (by decide)) i
    refine ⟨?_, ?_, ?_, ?_, fun m k em hm hk => ?_, fun z => ?_, fun z => ?_, fun z => ?_⟩
    · rw [y1 _ _ (by decide) (by decide) (by decide), m2 14 (by decide)]; exact g1
    · rw [y1 _ _ (by decide) (by decide) (by decide), m2 15 (by decide)]; exact g2
    · rw [y1 _ _ (by decide) (by decide) (by decide), q17]; exact g3
    · rw [y1 _ _ (by decide) (by decide) (by decide), m2 22 (by decide)]; exact g4
    · rw [m2 15 (by decide)] at em
      rw [x2 _ (by omega) (by omega) (by omega) (by omega) (fun q hq => by omega), m2 16 (by decide)]
      exact g5 m k em hm hk
    · rw [q17] at z
      rw [y1 453 _ (by decide) (by decide) (by decide), y1 454 _ (by decide) (by decide) (by decide), m2 18 (by decide), m2 23 (by decide)]
      exact g6 z
    · rw [q17] at z
      rw [y1 _ _ (by decide) (by decide) (by decide), m2 21 (by decide)]
      exact g7 z
    · rw [q17] at z
      have g8 := g8 z
      refine ⟨?_, fun m k em hm hk => ?_⟩
      · rw [x1 257 _ (by decide) (by decide) (fun _ q hq => by omega), m2 19 (by decide)]; exact g8.1
      · rw [m2 19 (by decide)] at em
        rw [x2 _ (by omega) (by omega) (by omega) (by omega) (fun q hq => by omega), m2 20 (by decide)]
        exact g8.2 m k em hm hk
  · intro i hi
    rw [x2 _ (by omega) (by omega) (by omega) (by omega) (fun q hq => by omega), m2 30 (by decide)]
    exact h_l i hi
  · intro i hi
    rw [x2 _ (by omega) (by omega) (by omega) (by omega) (fun q hq => by omega), x2 _ (by omega) (by omega) (by omega) (by omega) (fun q hq => by omega), x2 _ (by omega) (by omega) (by omega) (by omega) (fun q hq => by omega), x2 _ (by omega) (by omega) (by omega) (by omega) (fun q hq => by omega), m2 31 (by decide), m2 32 (by decide), m2 33 (by decide), m2 34 (by decide)]
    exact h_f i hi
/-- a telling more, on both sides -/
theorem r_tell {b c np nw nk nt nl nf : Nat} {σ τ : fr_S} (h1 : XI b σ) (hR : RN b c np nw nk nt nl nf σ τ) (hn : nt < 60) (x y z : Int32) : ∃ σ', m_Tellings_tell (b + 28) x y z σ = some σ' ∧ XI b σ' ∧ (∀ f a, f ≠ 387 → gI σ' f a = gI σ f a) ∧ ∀ τ', Sm c τ' → (∀ f, f ≠ 9 → gI τ' f c = gI τ f c) → (∀ a, (a < 27 ∨ 29 < a) → gV τ' (c + a) = gV τ (c + a)) → gI τ' 9 c = nI (nt + 1) → gV τ' (c + 27) = upd (gV τ (c + 27)) nt x → gV τ' (c + 28) = upd (gV τ (c + 28)) nt y → gV τ' (c + 29) = upd (gV τ (c + 29)) nt z → RN b c np nw nk (nt + 1) nl nf σ' τ' := by
  have hs := h1.1
  have hT := hs.1.2.2.2.2.2.2.1
  have hl := hR.1.2.2.2.1
  have h_k := hR.2.2.2.2.2.2.1
  have h_t := hR.2.2.2.2.2.2.2.1
  have hnk := hR.1.2.2.1.1
  have e29 : ∀ u, gV (pA σ (b + 29) u) (b + 30) = gV σ (b + 30) := fun u => gV_pAn (by omega)
  have e30 : ∀ u u', gV (pA (pA σ (b + 29) u) (b + 30) u') (b + 31) = gV σ (b + 31) := fun u u' => by rw [gV_pAn (by omega), gV_pAn (by omega)]
  refine ⟨pI (pA (pA (pA σ (b + 29) (upd (gV σ (b + 29)) nt x)) (b + 30) (upd (gV σ (b + 30)) nt y)) (b + 31) (upd (gV σ (b + 31)) nt z)) 387 (b + 28) (nI (nt + 1)), ?_, ?_, fun f a hf => ?_, fun τ' hm m1 m2 c9 c27 c28 c29 => ?_⟩
  · unfold m_Tellings_tell
    refine obs ((oI_k hT.2.1).trans (congrArg some hl.2.1)) ?_
    refine oif_p (by rw [show (60 : Int32) = nI 60 by decide +kernel, nI_ltI (by omega) (by omega)]; exact hn) ?_
    refine obs (oP_g hT.2.1 hT.2.2.1) (obs ((oI_k hT.2.1).trans (congrArg some hl.2.1)) (obs (sV_nI (n := 60) hT.2.2.2.1 hn (by decide)) ?_))
    refine obs (oP_g (σ := pA σ (b + 29) (upd (gV σ (b + 29)) nt x)) hT.2.1 hT.2.2.2.2.1) (obs (Eq.trans (oI_k (σ := pA σ (b + 29) (upd (gV σ (b + 29)) nt x)) hT.2.1) (congrArg some hl.2.1)) (obs (sV_nI (σ := pA σ (b + 29) (upd (gV σ (b + 29)) nt x)) (n := 60) hT.2.2.2.2.2.1 hn (by decide)) ?_))
    rw [e29]
    refine obs (oP_g (σ := pA (pA σ (b + 29) (upd (gV σ (b + 29)) nt x)) (b + 30) (upd (gV σ (b + 30)) nt y)) hT.2.1 hT.2.2.2.2.2.2.1) (obs (Eq.trans (oI_k (σ := pA (pA σ (b + 29) (upd (gV σ (b + 29)) nt x)) (b + 30) (upd (gV σ (b + 30)) nt y)) hT.2.1) (congrArg some hl.2.1)) (obs (sV_nI (σ := pA (pA σ (b + 29) (upd (gV σ (b + 29)) nt x)) (b + 30) (upd (gV σ (b + 30)) nt y)) (n := 60) hT.2.2.2.2.2.2.2 hn (by decide)) ?_))
    rw [e30]
    refine obs (Eq.trans (oI_k (σ := pA (pA (pA σ (b + 29) (upd (gV σ (b + 29)) nt x)) (b + 30) (upd (gV σ (b + 30)) nt y)) (b + 31) (upd (gV σ (b + 31)) nt z)) hT.2.1) (congrArg some hl.2.1)) ?_
    rw [nI_1]
    exact obs (sI_k (σ := pA (pA (pA σ (b + 29) (upd (gV σ (b + 29)) nt x)) (b + 30) (upd (gV σ (b + 30)) nt y)) (b + 31) (upd (gV σ (b + 31)) nt z)) hT.2.1) rfl
  · exact XI_cnt (XI_oA (XI_oA (XI_oA h1 (by omega)) (by omega)) (by omega)) (by omega)
  · rw [gI_pIf hf]; rfl
  · refine RN_kt hR (fun f a f1 f2 _ => ?_) (fun a a1 a2 a3 _ _ => ?_) (fun f f1 f2 => m1 f f2) (fun a ha => m2 a (by omega)) ⟨hnk, ?_, ?_⟩ ⟨by omega, ?_, c9⟩ (fun i hi => ?_) (fun i hi => ?_)
    · rw [gI_pIf f1]; rfl
    · rw [gV_pI, gV_pAn a3, gV_pAn a2, gV_pAn a1]
    · rw [gI_pIf (by decide)]; exact hR.1.2.2.1.2.1
    · rw [m1 8 (by decide)]; exact hR.1.2.2.1.2.2
    · rw [gI_pIs]
    · obtain ⟨g1, g2⟩ := h_k i hi
      refine ⟨?_, ?_, fun m k e hm' hk => ?_⟩
      · rw [gV_pI, gV_pAn (by omega), gV_pAn (by omega), gV_pAn (by omega), m2 24 (by decide)]; exact g1
      · rw [gI_pIf (by decide), m2 25 (by decide)]; exact g2.1
      · rw [m2 25 (by decide)] at e
        rw [gV_pI, gV_pAn (by omega), gV_pAn (by omega), gV_pAn (by omega), m2 26 (by decide)]
        exact g2.2 m k e hm' hk
    · rw [c27, c28, c29, gV_pI, gV_pAn (show b + 29 ≠ b + 31 by omega), gV_pAn (show b + 29 ≠ b + 30 by omega), gV_pAs, gV_pI, gV_pAn (show b + 30 ≠ b + 31 by omega), gV_pAs, gV_pI, gV_pAs]
      by_cases e : i = nt
      · rw [e, upd_s, upd_s, upd_s, upd_s, upd_s, upd_s]
        exact ⟨rfl, rfl, rfl⟩
      · rw [upd_n e, upd_n e, upd_n e, upd_n e, upd_n e, upd_n e]
        exact h_t i (by omega)
