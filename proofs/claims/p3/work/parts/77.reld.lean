theorem pA_same {τ : fr_S} {a h : Nat} : pA τ a (upd (gV τ a) h (gV τ a h + 0)) = τ := by
  have e : upd (gV τ a) h (gV τ a h + 0) = gV τ a := by
    funext i
    by_cases e : i = h
    · rw [e, upd_s, Int32.add_zero]
    · rw [upd_n e]
  rw [e]
  unfold pA gV
  refine Prod.ext rfl (Prod.ext rfl (Prod.ext rfl (Prod.ext ?_ rfl)))
  funext q
  show (if q = a then τ.2.2.2.1 a else τ.2.2.2.1 q) = τ.2.2.2.1 q
  by_cases e : q = a
  · rw [if_pos e, e]
  · rw [if_neg e]
/-- a place asked, its credential sent or not: both sides' counts -/
theorem r_count {b c np nw nk nt nl nf i g : Nat} {σ τ : fr_S} {y : Int32} (hs : Sx b σ) (hR : RN b c np nw nk nt nl nf σ τ) (hi : i < 16) (hg : g < 8) (he : gI σ 193 (b + 38 + 3 * i) = nI g) (hy : y = 0 ∨ y ≠ 0) : m_FR_countSent b (nI i) y σ = some (if y = 0 then σ else pA σ (b + 2) (upd (gV σ (b + 2)) g (gV τ (c + 2) g + 1))) := by
  unfold m_FR_countSent
  by_cases e : y = 0
  · rw [if_pos e, if_pos e]
  · rw [if_neg e, if_neg e]
    have key : ev ((oP σ 1 66 b).bind fun q2 => (oP σ 1 67 b).bind fun q3 => (oQ σ 2 q3 (nI i)).bind fun q4 => (oI σ 3 193 q4).bind fun v5 => (oV σ 0 q2 v5).bind fun v6 => (sV σ 0 q2 v5 (v6 + 1)).bind fun σ_7 => some σ_7) (fun z => z = pA σ (b + 2) (upd (gV σ (b + 2)) g (gV τ (c + 2) g + 1))) := by
      refine ev_bs (xp66 hs) ?_
      refine ev_bs (xp67 hs) ?_
      refine ev_bs (xP hs hi) ?_
      refine ev_bs ((oI_k (pl_k hs hi)).trans (congrArg some he)) ?_
      refine ev_bs ((oV_nI (n := 8) hs.1.2.2.1.2 hg (by decide)).trans (congrArg some (hR.2.2.1.2 g hg))) ?_
      refine ev_bs (sV_nI (n := 8) hs.1.2.2.1.2 hg (by decide)) ?_
      exact ev_some rfl
    obtain ⟨a, ea, rfl⟩ := key
    exact ea
