/-! an archive's entries -/
theorem nI_nm {q : Nat} (hq : q < 2 ^ 31) : ¬ nI q = -1 := fun z => by
  have h := nI_pos (n := q) hq
  rw [z] at h
  exact h (by decide)
def nx (f : Nat → Nat) (p : Nat) : Nat := p + 1 + f p + 1 + f (p + 1 + f p)
theorem pe_eq {σ : fr_S} {r v len p : Nat} {f : Nat → Nat} (h : CR σ r v len f) (hp : p < len) : m_Archive_pathEnd r (nI p) σ = some (nI (p + 1 + f p)) := by
  unfold m_Archive_pathEnd
  refine obs (oK_k h.1.1) (obs (cr_at h hp) ?_)
  rw [nI_1, nI_add]
theorem ee_eq {σ : fr_S} {r v len p : Nat} {f : Nat → Nat} (h : CR σ r v len f) (hp : p < len) (hq : p + 1 + f p < len) : m_Archive_entryEnd r (nI p) σ = some (nI (nx f p)) := by
  unfold m_Archive_entryEnd nx
  refine obs (pe_eq h hp) (obs (oK_k h.1.1) (obs (cr_at h hq) ?_))
  rw [nI_1, nI_add]
def illE (f : Nat → Nat) (len p : Nat) : Int32 := if f p < 1 then nI p else if 20 < f p then nI p else if p + 1 + f p < len then (if rgL f 1000 (p + 1 + f p) (p + 1) (p + 1) = 0 then nI (p + 1) else if nx f p ≤ len then -1 else nI len) else nI len
theorem il_eq {σ : fr_S} {r v len p : Nat} {f : Nat → Nat} (h : CR σ r v len f) (hp : p < len) : m_Archive_findIllOfEntry r (nI p) σ = some (illE f len p) := by
  have hk := h.1.1
  have hl := h.2.2.1
  have b1 := (h.2.2.2 p hp).1
  have l20 : (20 : Int32) = nI 20 := by decide +kernel
  have hlen := (oI_k (ci := 4) (f := 257) hk).trans (congrArg some h.2.1)
  unfold m_Archive_findIllOfEntry illE
  refine obs (oK_k hk) (obs (cr_at h hp) ?_)
  by_cases q1 : f p < 1
  · rw [if_pos q1]
    exact oif_p (by rw [nI_lit1, nI_ltI (by omega) (by omega)]; exact q1) rfl
  rw [if_neg q1]
  refine oif_n (by rw [nI_lit1, nI_ltI (by omega) (by omega)]; exact q1) ?_
  by_cases q2 : 20 < f p
  · rw [if_pos q2]
    exact oif_n (by rw [l20, nI_leI (by omega) (by omega)]; omega) rfl
  rw [if_neg q2]
  refine oif_p (by rw [l20, nI_leI (by omega) (by omega)]; omega) (obs (pe_eq h hp) (obs hlen ?_))
  by_cases q3 : p + 1 + f p < len
  · rw [if_pos q3]
    refine oif_p (by rw [nI_ltI (by omega) (by omega)]; exact q3) (obs (pe_eq h hp) ?_)
    have e := rp_eq h (e := p + 1 + f p) (by omega) 1000 (p + 1) (p + 1) (by omega) (by omega) (by omega)
    rw [nI_1]
    refine obs (show m_Archive_isRightPath r (nI (p + 1)) (nI (p + 1 + f p)) σ = _ from e) ?_
    by_cases q4 : rgL f 1000 (p + 1 + f p) (p + 1) (p + 1) = 0
    · refine oif_p q4 ?_
      rw [if_pos q4]
    · refine oif_n q4 ?_
      rw [if_neg q4]
      refine obs (ee_eq h hp q3) (obs hlen ?_)
      have b2 := (h.2.2.2 (p + 1 + f p) q3).1
      have bn : nx f p < 2 ^ 31 := by unfold nx; omega
      by_cases q5 : nx f p ≤ len
      · rw [if_pos q5]
        exact oif_p (by rw [nI_leI bn (by omega)]; exact q5) rfl
      · rw [if_neg q5]
        exact oif_n (by rw [nI_leI bn (by omega)]; exact q5) (obs hlen rfl)
  · rw [if_neg q3]
    exact oif_n (by rw [nI_ltI (by omega) (by omega)]; exact q3) (obs hlen rfl)
theorem illE_ok {f : Nat → Nat} {len p : Nat} (hl : len ≤ 100) (hp : p < len) (h : illE f len p = -1) : 1 ≤ f p ∧ f p ≤ 20 ∧ p + 1 + f p < len ∧ ¬ rgL f 1000 (p + 1 + f p) (p + 1) (p + 1) = 0 ∧ nx f p ≤ len := by
  unfold illE at h
  by_cases q1 : f p < 1
  · rw [if_pos q1] at h
    exact absurd h (nI_nm (by omega))
  rw [if_neg q1] at h
  by_cases q2 : 20 < f p
  · rw [if_pos q2] at h
    exact absurd h (nI_nm (by omega))
  rw [if_neg q2] at h
  by_cases q3 : p + 1 + f p < len
  · rw [if_pos q3] at h
    by_cases q4 : rgL f 1000 (p + 1 + f p) (p + 1) (p + 1) = 0
    · rw [if_pos q4] at h
      exact absurd h (nI_nm (by omega))
    rw [if_neg q4] at h
    by_cases q5 : nx f p ≤ len
    · exact ⟨by omega, by omega, q3, q4, q5⟩
    · rw [if_neg q5] at h
      exact absurd h (nI_nm (by omega))
  · rw [if_neg q3] at h
    exact absurd h (nI_nm (by omega))
def illL (f : Nat → Nat) (len : Nat) : Nat → Nat → Int32
  | 0, _ => -1
  | n + 1, p => if len ≤ p then -1 else if illE f len p = -1 then illL f len n (nx f p) else illE f len p
theorem fi_eq {σ : fr_S} {r v len : Nat} {f : Nat → Nat} (h : CR σ r v len f) : ∀ (n p seen : Nat), 3 * seen ≤ p → p ≤ len → len - p < n → m_Archive_findIll_L4 n r (nI p) (nI seen) σ = some (illL f len n p) := by
  have hk := h.1.1
  have hl := h.2.2.1
  have hlen := (oI_k (ci := 4) (f := 257) hk).trans (congrArg some h.2.1)
  intro n
  induction n with
  | zero => intro p seen _ _ h; omega
  | succ n ih =>
    intro p seen hs hp hn
    unfold m_Archive_findIll_L4 illL
    refine oif_n (by rw [nI_lit100, nI_leI (by omega) (by omega)]; omega) (obs hlen ?_)
    by_cases q1 : len ≤ p
    · rw [if_pos q1]
      exact oif_p (by rw [nI_leI (by omega) (by omega)]; exact q1) rfl
    rw [if_neg q1]
    refine oif_n (by rw [nI_leI (by omega) (by omega)]; exact q1) (obs (il_eq h (by omega)) ?_)
    by_cases q2 : illE f len p = -1
    · obtain ⟨o1, o2, o3, o4, o5⟩ := illE_ok hl (by omega) q2
      refine oif_p q2 ?_
      rw [if_pos q2]
      refine obs (ee_eq h (by omega) o3) ?_
      rw [nI_1]
      have : p + 3 ≤ nx f p := by unfold nx; omega
      exact ih (nx f p) (seen + 1) (by omega) o5 (by omega)
    · refine oif_n q2 ?_
      rw [if_neg q2]
theorem rd_eq {c j len k : Nat} {τ : fr_S} {f : Nat → Nat} (h : MR c j τ len f) (h19 : gV τ (c + 19) j = nI len) (hk5 : k ≤ 5) : ∀ (n p : Nat), p ≤ len → len - p < n → m_Md_read_L21 n c (nI j) (nI k) 0 (nI (100 * j)) (nI (100 * j + len)) (nI (100 * j + p)) τ = some (illL f len n p, τ) := by
  have hm := h.1
  have hj := h.2.1
  have hl := h.2.2.1
  have l20 : (20 : Int32) = nI 20 := by decide +kernel
  intro n
  induction n with
  | zero => intro p _ h; omega
  | succ n ih =>
    intro p hp hn
    unfold m_Md_read_L21 illL
    by_cases q1 : len ≤ p
    · rw [if_pos q1]
      exact oif_p (by rw [nI_leI (by omega) (by omega)]; omega) rfl
    rw [if_neg q1]
    refine oif_n (by rw [nI_leI (by omega) (by omega)]; omega) (obs (mP28 hm) (obs (mr_at h (by omega)) ?_))
    have b1 := (h.2.2.2 p (by omega)).1
    have e0 : nI (100 * j + p) - nI (100 * j) = nI p := by rw [pk_sub (by omega)]; congr 1; omega
    have e1 : nI (100 * j + p) + 1 = nI (100 * j + (p + 1)) := nI_1 _
    have e1' : nI (100 * j + (p + 1)) - nI (100 * j) = nI (p + 1) := by rw [pk_sub (by omega)]; congr 1; omega
    have e2 : nI (100 * j + (p + 1)) + nI (f p) = nI (100 * j + (p + 1 + f p)) := by rw [nI_add]; congr 1; omega
    have e3 : nI (100 * j + (p + 1 + f p)) + 1 = nI (100 * j + (p + 1 + f p + 1)) := nI_1 _
    have e4 : nI (100 * j + (p + 1 + f p + 1)) + nI (f (p + 1 + f p)) = nI (100 * j + nx f p) := by rw [nI_add]; congr 1; unfold nx; omega
    rw [e0, e1, e1', e2, e3]
    have x1 : f p < 1 → illE f len p = nI p := fun q => by unfold illE; rw [if_pos q]
    by_cases q2 : f p < 1
    · rw [x1 q2, if_neg (nI_nm (by omega))]
      exact oif_p (by rw [nI_lit1, nI_ltI (by omega) (by omega)]; exact q2) rfl
    refine oif_n (by rw [nI_lit1, nI_ltI (by omega) (by omega)]; exact q2) ?_
    by_cases q3 : 20 < f p
    · have x2 : illE f len p = nI p := by unfold illE; rw [if_neg q2, if_pos q3]
      rw [x2, if_neg (nI_nm (by omega))]
      exact oif_n (by rw [l20, nI_leI (by omega) (by omega)]; omega) rfl
    refine oif_p (by rw [l20, nI_leI (by omega) (by omega)]; omega) ?_
    by_cases q4 : p + 1 + f p < len
    · refine oif_p (by rw [nI_ltI (by omega) (by omega)]; omega) (obs (mK hm) ?_)
      have e := rm_eq h (e := p + 1 + f p) (by omega) 1000 (p + 1) 0 (by omega) (by omega)
      rw [show cnt f (p + 1) 0 = 0 from rfl, nI_0, Nat.add_zero] at e
      refine obs (show m_Md_isRight c (nI (100 * j + (p + 1))) (nI (100 * j + (p + 1 + f p))) τ = _ from e) ?_
      by_cases q5 : rgL f 1000 (p + 1 + f p) (p + 1) (p + 1) = 0
      · have x3 : illE f len p = nI (p + 1) := by unfold illE; rw [if_neg q2, if_neg q3, if_pos q4, if_pos q5]
        rw [x3, if_neg (nI_nm (by omega))]
        exact oif_p q5 rfl
      refine oif_n q5 (obs (mP28 hm) (obs (mr_at h q4) ?_))
      rw [e4]
      have b2 := (h.2.2.2 (p + 1 + f p) q4).1
      have bn : nx f p ≤ 400 := by unfold nx; omega
      by_cases q6 : nx f p ≤ len
      · have x4 : illE f len p = -1 := by unfold illE; rw [if_neg q2, if_neg q3, if_pos q4, if_neg q5, if_pos q6]
        rw [if_pos x4]
        refine oif_p (by rw [nI_leI (by omega) (by omega)]; omega) (obs (mK hm) (obs (show m_Md_strip c (nI (100 * j + (p + 1))) (nI (100 * j + (p + 1 + f p))) (nI k) τ = _ from spm_eq h (e := p + 1 + f p) (by omega) 1000 k (p + 1) hk5 (by omega) (by omega)) (oif_p rfl ?_)))
        have : p + 3 ≤ nx f p := by unfold nx; omega
        exact ih (nx f p) q6 (by omega)
      · have x4 : illE f len p = nI len := by unfold illE; rw [if_neg q2, if_neg q3, if_pos q4, if_neg q5, if_neg q6]
        rw [x4, if_neg (nI_nm (by omega))]
        exact oif_n (by rw [nI_leI (by omega) (by omega)]; omega) (obs (mP27 hm) (obs ((mV19 hm hj).trans (congrArg some h19)) rfl))
    · have x4 : illE f len p = nI len := by unfold illE; rw [if_neg q2, if_neg q3, if_neg q4]
      rw [x4, if_neg (nI_nm (by omega))]
      exact oif_n (by rw [nI_ltI (by omega) (by omega)]; omega) (obs (mP27 hm) (obs ((mV19 hm hj).trans (congrArg some h19)) rfl))
