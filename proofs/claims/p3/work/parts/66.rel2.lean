/-! what a pair of writes leaves as it was -/
theorem RN_p193 {b c np nw nk nt nl nf : Nat} {σ τ : fr_S} {j : Nat} {v : Int32} (h : RN b c np nw nk nt nl nf σ τ) : RN b c np nw nk nt nl nf (pI σ 193 (b + 38 + 3 * j) v) (pA τ (c + 3) (upd (gV τ (c + 3)) j v)) := by
  obtain ⟨h_c, h_g, h_h, h_p, h_b, h_w, h_k, h_t, h_l, h_f⟩ := h
  refine ⟨?_, ?_, ?_, ?_, ?_, ?_, ?_, ?_, ?_, ?_⟩
  · simpa [R_c, gI_pIx, gV_pI, gI_pA, gV_pAx, upd] using h_c
  · simpa [R_g, gI_pIx, gV_pI, gI_pA, gV_pAx, upd] using h_g
  · simpa [R_h, gI_pIx, gV_pI, gI_pA, gV_pAx, upd] using h_h
  · intro i hi
    obtain ⟨g1, g2, g3, g4, g5, g6, g7, g8, g9, g10⟩ := h_p i hi
    by_cases e : i = j
    · subst e; simp [gI_pIx, gV_pI, gI_pA, gV_pAx, upd, g1, g2, g3, g4, g5, g6, g7]; exact ⟨g8, g9, g10⟩
    · have e3 : ¬ 3 * i = 3 * j := by omega
      simp [gI_pIx, gV_pI, gI_pA, gV_pAx, upd, e, e3, g1, g2, g3, g4, g5, g6, g7]; exact ⟨g8, g9, g10⟩
  · simpa [R_b, R_r, gI_pIx, gV_pI, gI_pA, gV_pAx, upd] using h_b
  · simpa [R_w, R_r, gI_pIx, gV_pI, gI_pA, gV_pAx, upd] using h_w
  · simpa [R_k, R_r, gI_pIx, gV_pI, gI_pA, gV_pAx, upd] using h_k
  · simpa [R_t, gI_pIx, gV_pI, gI_pA, gV_pAx, upd] using h_t
  · simpa [R_l, gI_pIx, gV_pI, gI_pA, gV_pAx, upd] using h_l
  · simpa [R_f, gI_pIx, gV_pI, gI_pA, gV_pAx, upd] using h_f
theorem RN_p196 {b c np nw nk nt nl nf : Nat} {σ τ : fr_S} {j : Nat} {v : Int32} (h : RN b c np nw nk nt nl nf σ τ) : RN b c np nw nk nt nl nf (pI σ 196 (b + 38 + 3 * j) v) (pA τ (c + 7) (upd (gV τ (c + 7)) j v)) := by
  obtain ⟨h_c, h_g, h_h, h_p, h_b, h_w, h_k, h_t, h_l, h_f⟩ := h
  refine ⟨?_, ?_, ?_, ?_, ?_, ?_, ?_, ?_, ?_, ?_⟩
  · simpa [R_c, gI_pIx, gV_pI, gI_pA, gV_pAx, upd] using h_c
  · simpa [R_g, gI_pIx, gV_pI, gI_pA, gV_pAx, upd] using h_g
  · simpa [R_h, gI_pIx, gV_pI, gI_pA, gV_pAx, upd] using h_h
  · intro i hi
    obtain ⟨g1, g2, g3, g4, g5, g6, g7, g8, g9, g10⟩ := h_p i hi
    by_cases e : i = j
    · subst e; simp [gI_pIx, gV_pI, gI_pA, gV_pAx, upd, g1, g2, g3, g4, g5, g6, g7]; exact ⟨g8, g9, g10⟩
    · have e3 : ¬ 3 * i = 3 * j := by omega
      simp [gI_pIx, gV_pI, gI_pA, gV_pAx, upd, e, e3, g1, g2, g3, g4, g5, g6, g7]; exact ⟨g8, g9, g10⟩
  · simpa [R_b, R_r, gI_pIx, gV_pI, gI_pA, gV_pAx, upd] using h_b
  · simpa [R_w, R_r, gI_pIx, gV_pI, gI_pA, gV_pAx, upd] using h_w
  · simpa [R_k, R_r, gI_pIx, gV_pI, gI_pA, gV_pAx, upd] using h_k
  · simpa [R_t, gI_pIx, gV_pI, gI_pA, gV_pAx, upd] using h_t
  · simpa [R_l, gI_pIx, gV_pI, gI_pA, gV_pAx, upd] using h_l
  · simpa [R_f, gI_pIx, gV_pI, gI_pA, gV_pAx, upd] using h_f
theorem RN_p197 {b c np nw nk nt nl nf : Nat} {σ τ : fr_S} {j : Nat} {v : Int32} (h : RN b c np nw nk nt nl nf σ τ) : RN b c np nw nk nt nl nf (pI σ 197 (b + 38 + 3 * j) v) (pA τ (c + 8) (upd (gV τ (c + 8)) j v)) := by
  obtain ⟨h_c, h_g, h_h, h_p, h_b, h_w, h_k, h_t, h_l, h_f⟩ := h
  refine ⟨?_, ?_, ?_, ?_, ?_, ?_, ?_, ?_, ?_, ?_⟩
  · simpa [R_c, gI_pIx, gV_pI, gI_pA, gV_pAx, upd] using h_c
  · simpa [R_g, gI_pIx, gV_pI, gI_pA, gV_pAx, upd] using h_g
  · simpa [R_h, gI_pIx, gV_pI, gI_pA, gV_pAx, upd] using h_h
  · intro i hi
    obtain ⟨g1, g2, g3, g4, g5, g6, g7, g8, g9, g10⟩ := h_p i hi
    by_cases e : i = j
    · subst e; simp [gI_pIx, gV_pI, gI_pA, gV_pAx, upd, g1, g2, g3, g4, g5, g6, g7]; exact ⟨g8, g9, g10⟩
    · have e3 : ¬ 3 * i = 3 * j := by omega
      simp [gI_pIx, gV_pI, gI_pA, gV_pAx, upd, e, e3, g1, g2, g3, g4, g5, g6, g7]; exact ⟨g8, g9, g10⟩
  · simpa [R_b, R_r, gI_pIx, gV_pI, gI_pA, gV_pAx, upd] using h_b
  · simpa [R_w, R_r, gI_pIx, gV_pI, gI_pA, gV_pAx, upd] using h_w
  · simpa [R_k, R_r, gI_pIx, gV_pI, gI_pA, gV_pAx, upd] using h_k
  · simpa [R_t, gI_pIx, gV_pI, gI_pA, gV_pAx, upd] using h_t
  · simpa [R_l, gI_pIx, gV_pI, gI_pA, gV_pAx, upd] using h_l
  · simpa [R_f, gI_pIx, gV_pI, gI_pA, gV_pAx, upd] using h_f
theorem RN_p198 {b c np nw nk nt nl nf : Nat} {σ τ : fr_S} {j : Nat} {v : Int32} (h : RN b c np nw nk nt nl nf σ τ) : RN b c np nw nk nt nl nf (pI σ 198 (b + 38 + 3 * j) v) (pA τ (c + 10) (upd (gV τ (c + 10)) j v)) := by
  obtain ⟨h_c, h_g, h_h, h_p, h_b, h_w, h_k, h_t, h_l, h_f⟩ := h
  refine ⟨?_, ?_, ?_, ?_, ?_, ?_, ?_, ?_, ?_, ?_⟩
  · simpa [R_c, gI_pIx, gV_pI, gI_pA, gV_pAx, upd] using h_c
  · simpa [R_g, gI_pIx, gV_pI, gI_pA, gV_pAx, upd] using h_g
  · simpa [R_h, gI_pIx, gV_pI, gI_pA, gV_pAx, upd] using h_h
  · intro i hi
    obtain ⟨g1, g2, g3, g4, g5, g6, g7, g8, g9, g10⟩ := h_p i hi
    by_cases e : i = j
    · subst e; simp [gI_pIx, gV_pI, gI_pA, gV_pAx, upd, g1, g2, g3, g4, g5, g6, g7]; exact ⟨g8, g9, g10⟩
    · have e3 : ¬ 3 * i = 3 * j := by omega
      simp [gI_pIx, gV_pI, gI_pA, gV_pAx, upd, e, e3, g1, g2, g3, g4, g5, g6, g7]; exact ⟨g8, g9, g10⟩
  · simpa [R_b, R_r, gI_pIx, gV_pI, gI_pA, gV_pAx, upd] using h_b
  · simpa [R_w, R_r, gI_pIx, gV_pI, gI_pA, gV_pAx, upd] using h_w
  · simpa [R_k, R_r, gI_pIx, gV_pI, gI_pA, gV_pAx, upd] using h_k
  · simpa [R_t, gI_pIx, gV_pI, gI_pA, gV_pAx, upd] using h_t
  · simpa [R_l, gI_pIx, gV_pI, gI_pA, gV_pAx, upd] using h_l
  · simpa [R_f, gI_pIx, gV_pI, gI_pA, gV_pAx, upd] using h_f
theorem RN_p199 {b c np nw nk nt nl nf : Nat} {σ τ : fr_S} {j : Nat} {v : Int32} (h : RN b c np nw nk nt nl nf σ τ) : RN b c np nw nk nt nl nf (pI σ 199 (b + 38 + 3 * j) v) (pA τ (c + 11) (upd (gV τ (c + 11)) j v)) := by
  obtain ⟨h_c, h_g, h_h, h_p, h_b, h_w, h_k, h_t, h_l, h_f⟩ := h
  refine ⟨?_, ?_, ?_, ?_, ?_, ?_, ?_, ?_, ?_, ?_⟩
  · simpa [R_c, gI_pIx, gV_pI, gI_pA, gV_pAx, upd] using h_c
  · simpa [R_g, gI_pIx, gV_pI, gI_pA, gV_pAx, upd] using h_g
  · simpa [R_h, gI_pIx, gV_pI, gI_pA, gV_pAx, upd] using h_h
  · intro i hi
    obtain ⟨g1, g2, g3, g4, g5, g6, g7, g8, g9, g10⟩ := h_p i hi
    by_cases e : i = j
    · subst e; simp [gI_pIx, gV_pI, gI_pA, gV_pAx, upd, g1, g2, g3, g4, g5, g6, g7]; exact ⟨g8, g9, g10⟩
    · have e3 : ¬ 3 * i = 3 * j := by omega
      simp [gI_pIx, gV_pI, gI_pA, gV_pAx, upd, e, e3, g1, g2, g3, g4, g5, g6, g7]; exact ⟨g8, g9, g10⟩
  · simpa [R_b, R_r, gI_pIx, gV_pI, gI_pA, gV_pAx, upd] using h_b
  · simpa [R_w, R_r, gI_pIx, gV_pI, gI_pA, gV_pAx, upd] using h_w
  · simpa [R_k, R_r, gI_pIx, gV_pI, gI_pA, gV_pAx, upd] using h_k
  · simpa [R_t, gI_pIx, gV_pI, gI_pA, gV_pAx, upd] using h_t
  · simpa [R_l, gI_pIx, gV_pI, gI_pA, gV_pAx, upd] using h_l
  · simpa [R_f, gI_pIx, gV_pI, gI_pA, gV_pAx, upd] using h_f
theorem RN_p200 {b c np nw nk nt nl nf : Nat} {σ τ : fr_S} {j : Nat} {v : Int32} (h : RN b c np nw nk nt nl nf σ τ) : RN b c np nw nk nt nl nf (pI σ 200 (b + 38 + 3 * j) v) (pA τ (c + 12) (upd (gV τ (c + 12)) j v)) := by
  obtain ⟨h_c, h_g, h_h, h_p, h_b, h_w, h_k, h_t, h_l, h_f⟩ := h
  refine ⟨?_, ?_, ?_, ?_, ?_, ?_, ?_, ?_, ?_, ?_⟩
  · simpa [R_c, gI_pIx, gV_pI, gI_pA, gV_pAx, upd] using h_c
  · simpa [R_g, gI_pIx, gV_pI, gI_pA, gV_pAx, upd] using h_g
  · simpa [R_h, gI_pIx, gV_pI, gI_pA, gV_pAx, upd] using h_h
  · intro i hi
    obtain ⟨g1, g2, g3, g4, g5, g6, g7, g8, g9, g10⟩ := h_p i hi
    by_cases e : i = j
    · subst e; simp [gI_pIx, gV_pI, gI_pA, gV_pAx, upd, g1, g2, g3, g4, g5, g6, g7]; exact ⟨g8, g9, g10⟩
    · have e3 : ¬ 3 * i = 3 * j := by omega
      simp [gI_pIx, gV_pI, gI_pA, gV_pAx, upd, e, e3, g1, g2, g3, g4, g5, g6, g7]; exact ⟨g8, g9, g10⟩
  · simpa [R_b, R_r, gI_pIx, gV_pI, gI_pA, gV_pAx, upd] using h_b
  · simpa [R_w, R_r, gI_pIx, gV_pI, gI_pA, gV_pAx, upd] using h_w
  · simpa [R_k, R_r, gI_pIx, gV_pI, gI_pA, gV_pAx, upd] using h_k
  · simpa [R_t, gI_pIx, gV_pI, gI_pA, gV_pAx, upd] using h_t
  · simpa [R_l, gI_pIx, gV_pI, gI_pA, gV_pAx, upd] using h_l
  · simpa [R_f, gI_pIx, gV_pI, gI_pA, gV_pAx, upd] using h_f
theorem RN_p201 {b c np nw nk nt nl nf : Nat} {σ τ : fr_S} {j : Nat} {v : Int32} (h : RN b c np nw nk nt nl nf σ τ) : RN b c np nw nk nt nl nf (pI σ 201 (b + 38 + 3 * j) v) (pA τ (c + 13) (upd (gV τ (c + 13)) j v)) := by
  obtain ⟨h_c, h_g, h_h, h_p, h_b, h_w, h_k, h_t, h_l, h_f⟩ := h
  refine ⟨?_, ?_, ?_, ?_, ?_, ?_, ?_, ?_, ?_, ?_⟩
  · simpa [R_c, gI_pIx, gV_pI, gI_pA, gV_pAx, upd] using h_c
  · simpa [R_g, gI_pIx, gV_pI, gI_pA, gV_pAx, upd] using h_g
  · simpa [R_h, gI_pIx, gV_pI, gI_pA, gV_pAx, upd] using h_h
  · intro i hi
    obtain ⟨g1, g2, g3, g4, g5, g6, g7, g8, g9, g10⟩ := h_p i hi
    by_cases e : i = j
    · subst e; simp [gI_pIx, gV_pI, gI_pA, gV_pAx, upd, g1, g2, g3, g4, g5, g6, g7]; exact ⟨g8, g9, g10⟩
    · have e3 : ¬ 3 * i = 3 * j := by omega
      simp [gI_pIx, gV_pI, gI_pA, gV_pAx, upd, e, e3, g1, g2, g3, g4, g5, g6, g7]; exact ⟨g8, g9, g10⟩
  · simpa [R_b, R_r, gI_pIx, gV_pI, gI_pA, gV_pAx, upd] using h_b
  · simpa [R_w, R_r, gI_pIx, gV_pI, gI_pA, gV_pAx, upd] using h_w
  · simpa [R_k, R_r, gI_pIx, gV_pI, gI_pA, gV_pAx, upd] using h_k
  · simpa [R_t, gI_pIx, gV_pI, gI_pA, gV_pAx, upd] using h_t
  · simpa [R_l, gI_pIx, gV_pI, gI_pA, gV_pAx, upd] using h_l
  · simpa [R_f, gI_pIx, gV_pI, gI_pA, gV_pAx, upd] using h_f
theorem RN_p194 {b c np nw nk nt nl nf : Nat} {σ τ : fr_S} {j : Nat} {v : Int32} (h : RN b c np nw nk nt nl nf σ τ) : RN b c np nw nk nt nl nf (pI σ 194 (b + 38 + 3 * j) v) (pA τ (c + 4) (upd (gV τ (c + 4)) j v)) := by
  obtain ⟨h_c, h_g, h_h, h_p, h_b, h_w, h_k, h_t, h_l, h_f⟩ := h
  refine ⟨?_, ?_, ?_, ?_, ?_, ?_, ?_, ?_, ?_, ?_⟩
  · simpa [R_c, gI_pIx, gV_pI, gI_pA, gV_pAx, upd] using h_c
  · simpa [R_g, gI_pIx, gV_pI, gI_pA, gV_pAx, upd] using h_g
  · simpa [R_h, gI_pIx, gV_pI, gI_pA, gV_pAx, upd] using h_h
  · intro i hi
    obtain ⟨g1, g2, g3, g4, g5, g6, g7, g8, g9, g10⟩ := h_p i hi
    by_cases e : i = j
    · subst e; simp [gI_pIx, gV_pI, gI_pA, gV_pAx, upd, g1, g2, g3, g4, g5, g6, g7]; exact ⟨g9, g10⟩
    · have e3 : ¬ 3 * i = 3 * j := by omega
      simp [gI_pIx, gV_pI, gI_pA, gV_pAx, upd, e, e3, g1, g2, g3, g4, g5, g6, g7]; exact ⟨g8, g9, g10⟩
  · simpa [R_b, R_r, gI_pIx, gV_pI, gI_pA, gV_pAx, upd] using h_b
  · simpa [R_w, R_r, gI_pIx, gV_pI, gI_pA, gV_pAx, upd] using h_w
  · simpa [R_k, R_r, gI_pIx, gV_pI, gI_pA, gV_pAx, upd] using h_k
  · simpa [R_t, gI_pIx, gV_pI, gI_pA, gV_pAx, upd] using h_t
  · simpa [R_l, gI_pIx, gV_pI, gI_pA, gV_pAx, upd] using h_l
  · simpa [R_f, gI_pIx, gV_pI, gI_pA, gV_pAx, upd] using h_f
theorem RN_p195 {b c np nw nk nt nl nf : Nat} {σ τ : fr_S} {j : Nat} {v : Int32} (hj : j < np) (h : RN b c np nw nk nt nl nf σ τ) : RN b c np nw nk nt nl nf (pI σ 195 (b + 38 + 3 * j) v) (pA τ (c + 6) (upd (gV τ (c + 6)) j v)) := by
  obtain ⟨h_c, h_g, h_h, h_p, h_b, h_w, h_k, h_t, h_l, h_f⟩ := h
  refine ⟨?_, ?_, ?_, ?_, ?_, ?_, ?_, ?_, ?_, ?_⟩
  · simpa [R_c, gI_pIx, gV_pI, gI_pA, gV_pAx, upd] using h_c
  · simpa [R_g, gI_pIx, gV_pI, gI_pA, gV_pAx, upd] using h_g
  · simpa [R_h, gI_pIx, gV_pI, gI_pA, gV_pAx, upd] using h_h
  · intro i hi
    obtain ⟨g1, g2, g3, g4, g5, g6, g7, g8, g9, g10⟩ := h_p i hi
    by_cases e : i = j
    · subst e; simp [gI_pIx, gV_pI, gI_pA, gV_pAx, upd, g1, g2, g3, g4, g5, g6, g7]; exact ⟨g8, fun z => by omega⟩
    · have e3 : ¬ 3 * i = 3 * j := by omega
      simp [gI_pIx, gV_pI, gI_pA, gV_pAx, upd, e, e3, g1, g2, g3, g4, g5, g6, g7]; exact ⟨g8, g9, g10⟩
  · simpa [R_b, R_r, gI_pIx, gV_pI, gI_pA, gV_pAx, upd] using h_b
  · simpa [R_w, R_r, gI_pIx, gV_pI, gI_pA, gV_pAx, upd] using h_w
  · simpa [R_k, R_r, gI_pIx, gV_pI, gI_pA, gV_pAx, upd] using h_k
  · simpa [R_t, gI_pIx, gV_pI, gI_pA, gV_pAx, upd] using h_t
  · simpa [R_l, gI_pIx, gV_pI, gI_pA, gV_pAx, upd] using h_l
  · simpa [R_f, gI_pIx, gV_pI, gI_pA, gV_pAx, upd] using h_f
theorem RN_lead {b c np nw nk nt nl nf : Nat} {σ τ : fr_S} {j : Nat} {v : Int32} (hj : np ≤ j) (h : RN b c np nw nk nt nl nf σ τ) : RN b c np nw nk nt nl nf σ (pA τ (c + 6) (upd (gV τ (c + 6)) j v)) := by
  obtain ⟨h_c, h_g, h_h, h_p, h_b, h_w, h_k, h_t, h_l, h_f⟩ := h
  refine ⟨?_, ?_, ?_, ?_, ?_, ?_, ?_, ?_, ?_, ?_⟩
  · simpa [R_c, gI_pIx, gV_pI, gI_pA, gV_pAx, upd] using h_c
  · simpa [R_g, gI_pIx, gV_pI, gI_pA, gV_pAx, upd] using h_g
  · simpa [R_h, gI_pIx, gV_pI, gI_pA, gV_pAx, upd] using h_h
  · intro i hi
    obtain ⟨g1, g2, g3, g4, g5, g6, g7, g8, g9, g10⟩ := h_p i hi
    refine ⟨by simp [gI_pIx, gV_pI, gI_pA, gV_pAx, upd, g1], by simp [gI_pIx, gV_pI, gI_pA, gV_pAx, upd, g2], by simp [gI_pIx, gV_pI, gI_pA, gV_pAx, upd, g3], by simp [gI_pIx, gV_pI, gI_pA, gV_pAx, upd, g4], by simp [gI_pIx, gV_pI, gI_pA, gV_pAx, upd, g5], by simp [gI_pIx, gV_pI, gI_pA, gV_pAx, upd, g6], by simp [gI_pIx, gV_pI, gI_pA, gV_pAx, upd, g7], by simpa [gI_pIx, gV_pI, gI_pA, gV_pAx, upd] using g8, fun z => ?_, g10⟩
    have e : i ≠ j := by omega
    simp [gI_pIx, gV_pI, gI_pA, gV_pAx, upd, e, g9 z]
  · simpa [R_b, R_r, gI_pIx, gV_pI, gI_pA, gV_pAx, upd] using h_b
  · simpa [R_w, R_r, gI_pIx, gV_pI, gI_pA, gV_pAx, upd] using h_w
  · simpa [R_k, R_r, gI_pIx, gV_pI, gI_pA, gV_pAx, upd] using h_k
  · simpa [R_t, gI_pIx, gV_pI, gI_pA, gV_pAx, upd] using h_t
  · simpa [R_l, gI_pIx, gV_pI, gI_pA, gV_pAx, upd] using h_l
  · simpa [R_f, gI_pIx, gV_pI, gI_pA, gV_pAx, upd] using h_f
theorem RN_h1 {b c np nw nk nt nl nf : Nat} {σ τ : fr_S} {j : Nat} {v : Int32} (h : RN b c np nw nk nt nl nf σ τ) : RN b c np nw nk nt nl nf (pA σ (b + 1) (upd (gV σ (b + 1)) j v)) (pA τ (c + 1) (upd (gV τ (c + 1)) j v)) := by
  obtain ⟨h_c, h_g, h_h, h_p, h_b, h_w, h_k, h_t, h_l, h_f⟩ := h
  refine ⟨?_, ?_, ?_, ?_, ?_, ?_, ?_, ?_, ?_, ?_⟩
  · simpa [R_c, gI_pIx, gV_pI, gI_pA, gV_pAx, upd] using h_c
  · simpa [R_g, gI_pIx, gV_pI, gI_pA, gV_pAx, upd] using h_g
  · refine ⟨fun i hi => ?_, fun i hi => ?_⟩
    · by_cases e : i = j
      · subst e; simp [gI_pIx, gV_pI, gI_pA, gV_pAx, upd, h_h.1 i hi]
      · simp [gI_pIx, gV_pI, gI_pA, gV_pAx, upd, e, h_h.1 i hi]
    · by_cases e : i = j
      · subst e; simp [gI_pIx, gV_pI, gI_pA, gV_pAx, upd, h_h.2 i hi]
      · simp [gI_pIx, gV_pI, gI_pA, gV_pAx, upd, e, h_h.2 i hi]
  · simpa [R_p, gI_pIx, gV_pI, gI_pA, gV_pAx, upd] using h_p
  · intro i hi
    obtain ⟨g1, g2⟩ := h_b i hi
    refine ⟨by simpa [gI_pIx, gV_pI, gI_pA, gV_pAx, upd] using g1, fun m k e hm hk => ?_⟩
    rw [gV_pAn (by omega)]
    simpa [gI_pIx, gV_pI, gI_pA, gV_pAx, upd] using g2 m k (by simpa [gI_pIx, gV_pI, gI_pA, gV_pAx, upd] using e) hm hk
  · intro i hi
    obtain ⟨g1, g2, g3, g4, g5, g6, g7, g8⟩ := h_w i hi
    refine ⟨by simpa [gI_pIx, gV_pI, gI_pA, gV_pAx, upd] using g1, by simpa [gI_pIx, gV_pI, gI_pA, gV_pAx, upd] using g2, by simpa [gI_pIx, gV_pI, gI_pA, gV_pAx, upd] using g3, by simpa [gI_pIx, gV_pI, gI_pA, gV_pAx, upd] using g4, fun m k e hm hk => ?_, by simpa [gI_pIx, gV_pI, gI_pA, gV_pAx, upd] using g6, by simpa [gI_pIx, gV_pI, gI_pA, gV_pAx, upd] using g7, fun z => ?_⟩
    · rw [gV_pAn (by omega)]
      simpa [gI_pIx, gV_pI, gI_pA, gV_pAx, upd] using g5 m k (by simpa [gI_pIx, gV_pI, gI_pA, gV_pAx, upd] using e) hm hk
    · have g8 := g8 (by simpa [gI_pIx, gV_pI, gI_pA, gV_pAx, upd] using z)
      refine ⟨by simpa [gI_pIx, gV_pI, gI_pA, gV_pAx, upd] using g8.1, fun m k e hm hk => ?_⟩
      rw [gV_pAn (by omega)]
      simpa [gI_pIx, gV_pI, gI_pA, gV_pAx, upd] using g8.2 m k (by simpa [gI_pIx, gV_pI, gI_pA, gV_pAx, upd] using e) hm hk
  · intro i hi
    have hnk := h_c.2.2.1.1
    obtain ⟨g1, g2⟩ := h_k i hi
    refine ⟨by simpa [gI_pIx, gV_pI, gI_pA, gV_pAx, upd] using g1, by simpa [gI_pIx, gV_pI, gI_pA, gV_pAx, upd] using g2.1, fun m k e hm hk => ?_⟩
    rw [gV_pAn (by omega)]
    simpa [gI_pIx, gV_pI, gI_pA, gV_pAx, upd] using g2.2 m k (by simpa [gI_pIx, gV_pI, gI_pA, gV_pAx, upd] using e) hm hk
  · simpa [R_t, gI_pIx, gV_pI, gI_pA, gV_pAx, upd] using h_t
  · simpa [R_l, gI_pIx, gV_pI, gI_pA, gV_pAx, upd] using h_l
  · simpa [R_f, gI_pIx, gV_pI, gI_pA, gV_pAx, upd] using h_f
theorem RN_h2 {b c np nw nk nt nl nf : Nat} {σ τ : fr_S} {j : Nat} {v : Int32} (h : RN b c np nw nk nt nl nf σ τ) : RN b c np nw nk nt nl nf (pA σ (b + 2) (upd (gV σ (b + 2)) j v)) (pA τ (c + 2) (upd (gV τ (c + 2)) j v)) := by
  obtain ⟨h_c, h_g, h_h, h_p, h_b, h_w, h_k, h_t, h_l, h_f⟩ := h
  refine ⟨?_, ?_, ?_, ?_, ?_, ?_, ?_, ?_, ?_, ?_⟩
  · simpa [R_c, gI_pIx, gV_pI, gI_pA, gV_pAx, upd] using h_c
  · simpa [R_g, gI_pIx, gV_pI, gI_pA, gV_pAx, upd] using h_g
  · refine ⟨fun i hi => ?_, fun i hi => ?_⟩
    · by_cases e : i = j
      · subst e; simp [gI_pIx, gV_pI, gI_pA, gV_pAx, upd, h_h.1 i hi]
      · simp [gI_pIx, gV_pI, gI_pA, gV_pAx, upd, e, h_h.1 i hi]
    · by_cases e : i = j
      · subst e; simp [gI_pIx, gV_pI, gI_pA, gV_pAx, upd, h_h.2 i hi]
      · simp [gI_pIx, gV_pI, gI_pA, gV_pAx, upd, e, h_h.2 i hi]
  · simpa [R_p, gI_pIx, gV_pI, gI_pA, gV_pAx, upd] using h_p
  · intro i hi
    obtain ⟨g1, g2⟩ := h_b i hi
    refine ⟨by simpa [gI_pIx, gV_pI, gI_pA, gV_pAx, upd] using g1, fun m k e hm hk => ?_⟩
    rw [gV_pAn (by omega)]
    simpa [gI_pIx, gV_pI, gI_pA, gV_pAx, upd] using g2 m k (by simpa [gI_pIx, gV_pI, gI_pA, gV_pAx, upd] using e) hm hk
  · intro i hi
    obtain ⟨g1, g2, g3, g4, g5, g6, g7, g8⟩ := h_w i hi
    refine ⟨by simpa [gI_pIx, gV_pI, gI_pA, gV_pAx, upd] using g1, by simpa [gI_pIx, gV_pI, gI_pA, gV_pAx, upd] using g2, by simpa [gI_pIx, gV_pI, gI_pA, gV_pAx, upd] using g3, by simpa [gI_pIx, gV_pI, gI_pA, gV_pAx, upd] using g4, fun m k e hm hk => ?_, by simpa [gI_pIx, gV_pI, gI_pA, gV_pAx, upd] using g6, by simpa [gI_pIx, gV_pI, gI_pA, gV_pAx, upd] using g7, fun z => ?_⟩
    · rw [gV_pAn (by omega)]
      simpa [gI_pIx, gV_pI, gI_pA, gV_pAx, upd] using g5 m k (by simpa [gI_pIx, gV_pI, gI_pA, gV_pAx, upd] using e) hm hk
    · have g8 := g8 (by simpa [gI_pIx, gV_pI, gI_pA, gV_pAx, upd] using z)
      refine ⟨by simpa [gI_pIx, gV_pI, gI_pA, gV_pAx, upd] using g8.1, fun m k e hm hk => ?_⟩
      rw [gV_pAn (by omega)]
      simpa [gI_pIx, gV_pI, gI_pA, gV_pAx, upd] using g8.2 m k (by simpa [gI_pIx, gV_pI, gI_pA, gV_pAx, upd] using e) hm hk
  · intro i hi
    have hnk := h_c.2.2.1.1
    obtain ⟨g1, g2⟩ := h_k i hi
    refine ⟨by simpa [gI_pIx, gV_pI, gI_pA, gV_pAx, upd] using g1, by simpa [gI_pIx, gV_pI, gI_pA, gV_pAx, upd] using g2.1, fun m k e hm hk => ?_⟩
    rw [gV_pAn (by omega)]
    simpa [gI_pIx, gV_pI, gI_pA, gV_pAx, upd] using g2.2 m k (by simpa [gI_pIx, gV_pI, gI_pA, gV_pAx, upd] using e) hm hk
  · simpa [R_t, gI_pIx, gV_pI, gI_pA, gV_pAx, upd] using h_t
  · simpa [R_l, gI_pIx, gV_pI, gI_pA, gV_pAx, upd] using h_l
  · simpa [R_f, gI_pIx, gV_pI, gI_pA, gV_pAx, upd] using h_f
theorem RN_w451 {b c np nw nk nt nl nf : Nat} {σ τ : fr_S} {j : Nat} {v : Int32} (h : RN b c np nw nk nt nl nf σ τ) : RN b c np nw nk nt nl nf (pI σ 451 (b + 86 + 4 * j) v) (pA τ (c + 14) (upd (gV τ (c + 14)) j v)) := by
  obtain ⟨h_c, h_g, h_h, h_p, h_b, h_w, h_k, h_t, h_l, h_f⟩ := h
  refine ⟨?_, ?_, ?_, ?_, ?_, ?_, ?_, ?_, ?_, ?_⟩
  · simpa [R_c, gI_pIx, gV_pI, gI_pA, gV_pAx, upd] using h_c
  · simpa [R_g, gI_pIx, gV_pI, gI_pA, gV_pAx, upd] using h_g
  · simpa [R_h, gI_pIx, gV_pI, gI_pA, gV_pAx, upd] using h_h
  · simpa [R_p, gI_pIx, gV_pI, gI_pA, gV_pAx, upd] using h_p
  · simpa [R_b, R_r, gI_pIx, gV_pI, gI_pA, gV_pAx, upd] using h_b
  · intro i hi
    obtain ⟨g1, g2, g3, g4, g5, g6, g7, g8⟩ := h_w i hi
    by_cases e : i = j
    · subst e
      refine ⟨?_, ?_, ?_, ?_, ?_, ?_, ?_, ?_⟩
      · simp [gI_pIx, gV_pI, gI_pA, gV_pAx, upd, g1]
      · simp [gI_pIx, gV_pI, gI_pA, gV_pAx, upd, g2]
      · simp [gI_pIx, gV_pI, gI_pA, gV_pAx, upd, g3]
      · simp [gI_pIx, gV_pI, gI_pA, gV_pAx, upd, g4]
      · simpa [gI_pIx, gV_pI, gI_pA, gV_pAx, upd] using g5
      · simpa [gI_pIx, gV_pI, gI_pA, gV_pAx, upd] using g6
      · simpa [gI_pIx, gV_pI, gI_pA, gV_pAx, upd] using g7
      · simpa [R_r, gI_pIx, gV_pI, gI_pA, gV_pAx, upd] using g8
    · have e4 : ¬ 4 * i = 4 * j := by omega
      refine ⟨?_, ?_, ?_, ?_, ?_, ?_, ?_, ?_⟩
      · simp [gI_pIx, gV_pI, gI_pA, gV_pAx, upd, e, e4, g1]
      · simp [gI_pIx, gV_pI, gI_pA, gV_pAx, upd, e, e4, g2]
      · simp [gI_pIx, gV_pI, gI_pA, gV_pAx, upd, e, e4, g3]
      · simp [gI_pIx, gV_pI, gI_pA, gV_pAx, upd, e, e4, g4]
      · simpa [gI_pIx, gV_pI, gI_pA, gV_pAx, upd, e, e4] using g5
      · simpa [gI_pIx, gV_pI, gI_pA, gV_pAx, upd, e, e4] using g6
      · simpa [gI_pIx, gV_pI, gI_pA, gV_pAx, upd, e, e4] using g7
      · simpa [R_r, gI_pIx, gV_pI, gI_pA, gV_pAx, upd, e, e4] using g8
  · simpa [R_k, R_r, gI_pIx, gV_pI, gI_pA, gV_pAx, upd] using h_k
  · simpa [R_t, gI_pIx, gV_pI, gI_pA, gV_pAx, upd] using h_t
  · simpa [R_l, gI_pIx, gV_pI, gI_pA, gV_pAx, upd] using h_l
  · simpa [R_f, gI_pIx, gV_pI, gI_pA, gV_pAx, upd] using h_f
theorem RN_w456 {b c np nw nk nt nl nf : Nat} {σ τ : fr_S} {j : Nat} {v : Int32} (h : RN b c np nw nk nt nl nf σ τ) : RN b c np nw nk nt nl nf (pI σ 456 (b + 86 + 4 * j) v) (pA τ (c + 22) (upd (gV τ (c + 22)) j v)) := by
  obtain ⟨h_c, h_g, h_h, h_p, h_b, h_w, h_k, h_t, h_l, h_f⟩ := h
  refine ⟨?_, ?_, ?_, ?_, ?_, ?_, ?_, ?_, ?_, ?_⟩
  · simpa [R_c, gI_pIx, gV_pI, gI_pA, gV_pAx, upd] using h_c
  · simpa [R_g, gI_pIx, gV_pI, gI_pA, gV_pAx, upd] using h_g
  · simpa [R_h, gI_pIx, gV_pI, gI_pA, gV_pAx, upd] using h_h
  · simpa [R_p, gI_pIx, gV_pI, gI_pA, gV_pAx, upd] using h_p
  · simpa [R_b, R_r, gI_pIx, gV_pI, gI_pA, gV_pAx, upd] using h_b
  · intro i hi
    obtain ⟨g1, g2, g3, g4, g5, g6, g7, g8⟩ := h_w i hi
    by_cases e : i = j
    · subst e
      refine ⟨?_, ?_, ?_, ?_, ?_, ?_, ?_, ?_⟩
      · simp [gI_pIx, gV_pI, gI_pA, gV_pAx, upd, g1]
      · simp [gI_pIx, gV_pI, gI_pA, gV_pAx, upd, g2]
      · simp [gI_pIx, gV_pI, gI_pA, gV_pAx, upd, g3]
      · simp [gI_pIx, gV_pI, gI_pA, gV_pAx, upd, g4]
      · simpa [gI_pIx, gV_pI, gI_pA, gV_pAx, upd] using g5
      · simpa [gI_pIx, gV_pI, gI_pA, gV_pAx, upd] using g6
      · simpa [gI_pIx, gV_pI, gI_pA, gV_pAx, upd] using g7
      · simpa [R_r, gI_pIx, gV_pI, gI_pA, gV_pAx, upd] using g8
    · have e4 : ¬ 4 * i = 4 * j := by omega
      refine ⟨?_, ?_, ?_, ?_, ?_, ?_, ?_, ?_⟩
      · simp [gI_pIx, gV_pI, gI_pA, gV_pAx, upd, e, e4, g1]
      · simp [gI_pIx, gV_pI, gI_pA, gV_pAx, upd, e, e4, g2]
      · simp [gI_pIx, gV_pI, gI_pA, gV_pAx, upd, e, e4, g3]
      · simp [gI_pIx, gV_pI, gI_pA, gV_pAx, upd, e, e4, g4]
      · simpa [gI_pIx, gV_pI, gI_pA, gV_pAx, upd, e, e4] using g5
      · simpa [gI_pIx, gV_pI, gI_pA, gV_pAx, upd, e, e4] using g6
      · simpa [gI_pIx, gV_pI, gI_pA, gV_pAx, upd, e, e4] using g7
      · simpa [R_r, gI_pIx, gV_pI, gI_pA, gV_pAx, upd, e, e4] using g8
  · simpa [R_k, R_r, gI_pIx, gV_pI, gI_pA, gV_pAx, upd] using h_k
  · simpa [R_t, gI_pIx, gV_pI, gI_pA, gV_pAx, upd] using h_t
  · simpa [R_l, gI_pIx, gV_pI, gI_pA, gV_pAx, upd] using h_l
  · simpa [R_f, gI_pIx, gV_pI, gI_pA, gV_pAx, upd] using h_f
theorem RN_cw {b c np nw nk nt nl nf : Nat} {σ τ : fr_S} {n : Nat} (hn : n ≤ 10) (h : RN b c np nw nk nt nl nf σ τ) : RN b c np n nk nt nl nf (pI σ 70 b (nI n)) (pI τ 7 c (nI n)) := by
  obtain ⟨h_c, h_g, h_h, h_p, h_b, h_w, h_k, h_t, h_l, h_f⟩ := h
  refine ⟨?_, ?_, ?_, ?_, ?_, ?_, ?_, ?_, ?_, ?_⟩
  · refine ⟨?_, ⟨hn, ?_, ?_⟩, ?_, ?_, ?_, ?_⟩
    · simpa [gI_pIx, gV_pI, gI_pA, gV_pAx, upd] using h_c.1
    · simp [gI_pIx, gV_pI, gI_pA, gV_pAx, upd]
    · simp [gI_pIx, gV_pI, gI_pA, gV_pAx, upd]
    · simpa [gI_pIx, gV_pI, gI_pA, gV_pAx, upd] using h_c.2.2.1
    · simpa [gI_pIx, gV_pI, gI_pA, gV_pAx, upd] using h_c.2.2.2.1
    · simpa [gI_pIx, gV_pI, gI_pA, gV_pAx, upd] using h_c.2.2.2.2.1
    · simpa [gI_pIx, gV_pI, gI_pA, gV_pAx, upd] using h_c.2.2.2.2.2
  · simpa [R_g, gI_pIx, gV_pI, gI_pA, gV_pAx, upd] using h_g
  · simpa [R_h, gI_pIx, gV_pI, gI_pA, gV_pAx, upd] using h_h
  · simpa [R_p, gI_pIx, gV_pI, gI_pA, gV_pAx, upd] using h_p
  · simpa [R_b, R_r, gI_pIx, gV_pI, gI_pA, gV_pAx, upd] using h_b
  · simpa [R_w, R_r, gI_pIx, gV_pI, gI_pA, gV_pAx, upd] using h_w
  · simpa [R_k, R_r, gI_pIx, gV_pI, gI_pA, gV_pAx, upd] using h_k
  · simpa [R_t, gI_pIx, gV_pI, gI_pA, gV_pAx, upd] using h_t
  · simpa [R_l, gI_pIx, gV_pI, gI_pA, gV_pAx, upd] using h_l
  · simpa [R_f, gI_pIx, gV_pI, gI_pA, gV_pAx, upd] using h_f
theorem RN_cp {b c np nw nk nt nl nf : Nat} {σ τ : fr_S} (hn : np + 1 ≤ 16) (h4 : gI σ 194 (b + 38 + 3 * np) = gV τ (c + 4) np) (h6 : gI σ 195 (b + 38 + 3 * np) = gV τ (c + 6) np) (h : RN b c np nw nk nt nl nf σ τ) : RN b c (np + 1) nw nk nt nl nf (pI σ 68 b (nI (np + 1))) (pI τ 6 c (nI (np + 1))) := by
  obtain ⟨h_c, h_g, h_h, h_p, h_b, h_w, h_k, h_t, h_l, h_f⟩ := h
  refine ⟨?_, ?_, ?_, ?_, ?_, ?_, ?_, ?_, ?_, ?_⟩
  · refine ⟨⟨hn, ?_, ?_⟩, ?_, ?_, ?_, ?_, ?_⟩
    · simp [gI_pIx, gV_pI, gI_pA, gV_pAx, upd]
    · simp [gI_pIx, gV_pI, gI_pA, gV_pAx, upd]
    · simpa [gI_pIx, gV_pI, gI_pA, gV_pAx, upd] using h_c.2.1
    · simpa [gI_pIx, gV_pI, gI_pA, gV_pAx, upd] using h_c.2.2.1
    · simpa [gI_pIx, gV_pI, gI_pA, gV_pAx, upd] using h_c.2.2.2.1
    · simpa [gI_pIx, gV_pI, gI_pA, gV_pAx, upd] using h_c.2.2.2.2.1
    · simpa [gI_pIx, gV_pI, gI_pA, gV_pAx, upd] using h_c.2.2.2.2.2
  · simpa [R_g, gI_pIx, gV_pI, gI_pA, gV_pAx, upd] using h_g
  · simpa [R_h, gI_pIx, gV_pI, gI_pA, gV_pAx, upd] using h_h
  · intro i hi
    obtain ⟨g1, g2, g3, g4, g5, g6, g7, g8, g9, g10⟩ := h_p i hi
    simp [gI_pIx, gV_pI, gI_pA, gV_pAx, upd, g1, g2, g3, g4, g5, g6, g7]
    refine ⟨fun z => ?_, fun z => ?_, fun z => g10 (by omega)⟩
    · by_cases e : i = np
      · subst e; exact h4
      · exact g8 (by omega)
    · by_cases e : i = np
      · subst e; exact h6
      · exact g9 (by omega)
  · simpa [R_b, R_r, gI_pIx, gV_pI, gI_pA, gV_pAx, upd] using h_b
  · simpa [R_w, R_r, gI_pIx, gV_pI, gI_pA, gV_pAx, upd] using h_w
  · simpa [R_k, R_r, gI_pIx, gV_pI, gI_pA, gV_pAx, upd] using h_k
  · simpa [R_t, gI_pIx, gV_pI, gI_pA, gV_pAx, upd] using h_t
  · simpa [R_l, gI_pIx, gV_pI, gI_pA, gV_pAx, upd] using h_l
  · simpa [R_f, gI_pIx, gV_pI, gI_pA, gV_pAx, upd] using h_f
theorem RN_off {b c np nw nk nt nl nf : Nat} {σ τ : fr_S} {v : Int32} (h : RN b c np nw nk nt nl nf σ τ) : RN b c np nw nk nt 0 nf (pI (pI σ 76 b v) 74 b 0) (pI (pI τ 3 c v) 10 c 0) := by
  obtain ⟨h_c, h_g, h_h, h_p, h_b, h_w, h_k, h_t, h_l, h_f⟩ := h
  refine ⟨?_, ?_, ?_, ?_, ?_, ?_, ?_, ?_, ?_, ?_⟩
  · refine ⟨?_, ?_, ?_, ?_, ⟨by omega, ?_, ?_⟩, ?_⟩
    · simpa [gI_pIx, gV_pI, gI_pA, gV_pAx, upd] using h_c.1
    · simpa [gI_pIx, gV_pI, gI_pA, gV_pAx, upd] using h_c.2.1
    · simpa [gI_pIx, gV_pI, gI_pA, gV_pAx, upd] using h_c.2.2.1
    · simpa [gI_pIx, gV_pI, gI_pA, gV_pAx, upd] using h_c.2.2.2.1
    · simp [gI_pIx, gV_pI, gI_pA, gV_pAx, upd, nI_0]
    · simp [gI_pIx, gV_pI, gI_pA, gV_pAx, upd, nI_0]
    · simpa [gI_pIx, gV_pI, gI_pA, gV_pAx, upd] using h_c.2.2.2.2.2
  · simp [R_g, gI_pIx, gV_pI, gI_pA, gV_pAx, upd]; exact ⟨h_g.1, h_g.2.1⟩
  · simpa [R_h, gI_pIx, gV_pI, gI_pA, gV_pAx, upd] using h_h
  · simpa [R_p, gI_pIx, gV_pI, gI_pA, gV_pAx, upd] using h_p
  · simpa [R_b, R_r, gI_pIx, gV_pI, gI_pA, gV_pAx, upd] using h_b
  · simpa [R_w, R_r, gI_pIx, gV_pI, gI_pA, gV_pAx, upd] using h_w
  · simpa [R_k, R_r, gI_pIx, gV_pI, gI_pA, gV_pAx, upd] using h_k
  · simpa [R_t, gI_pIx, gV_pI, gI_pA, gV_pAx, upd] using h_t
  · intro i hi; omega
  · simpa [R_f, gI_pIx, gV_pI, gI_pA, gV_pAx, upd] using h_f
