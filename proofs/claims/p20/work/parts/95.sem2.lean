/-! THE LAW, purely: class and reference stand in the relation, call by call -/
theorem oS_nI {xs : Nat → Int32} {L k : Nat} (hk : k < L) (hL : L ≤ 2561) : oS xs L (nI k) = some (xs k) := by
  unfold oS
  have h1 : (nI k).toNatClampNeg = k := nI_clamp (by omega)
  have h2 : ¬ (nI k < 0 ∨ L ≤ (nI k).toNatClampNeg) := nI_in hk (by omega)
  rw [if_pos h2, h1]
theorem oS_1 {xs : Nat → Int32} {L k : Nat} (hk : k + 4 < L) (hL : L ≤ 2561) : oS xs L (nI k + 1) = some (xs (k + 1)) := by rw [nI_1]; exact oS_nI (by omega) hL
theorem oS_2 {xs : Nat → Int32} {L k : Nat} (hk : k + 4 < L) (hL : L ≤ 2561) : oS xs L (nI k + 2) = some (xs (k + 2)) := by rw [← nI_v2, nI_add]; exact oS_nI (by omega) hL
theorem oS_3 {xs : Nat → Int32} {L k : Nat} (hk : k + 4 < L) (hL : L ≤ 2561) : oS xs L (nI k + 3) = some (xs (k + 3)) := by rw [← nI_v3, nI_add]; exact oS_nI (by omega) hL
theorem oS_4 {xs : Nat → Int32} {L k : Nat} (hk : k + 4 < L) (hL : L ≤ 2561) : oS xs L (nI k + 4) = some (xs (k + 4)) := by rw [← nI_v4, nI_add]; exact oS_nI (by omega) hL
/-- the class's call, whose fellow comes later -/
theorem ev_rel {α β γ : Type} {o : Option α} {o' : Option β} {Q : α → β → Prop} {f : α → Option γ} {P : γ → Prop} (h : rel o o' Q) (h2 : ∀ w v, o' = some v → Q w v → ev (f w) P) : ev (o.bind f) P := by
  obtain ⟨w, v, e, e', hq⟩ := h
  exact ev_bs e (h2 w v e' hq)
theorem s_C0 {xs : Nat → Int32} {L k b c : Nat} {σ τ : fr_S} (h : RR b c σ τ) (hk : k + 4 < L) (hL : L ≤ 2561) : ev (m_law_C0 xs L b c (nI k) σ τ) (fun z => RR b c z.1 z.2) := by
  unfold m_law_C0
  refine ev_bs (oS_1 hk hL) ?_
  refine ev_bs (oS_2 hk hL) ?_
  refine ev_if (fun y => ?_) (fun y => ?_)
  · refine ev_bs (xK h.1.1) ?_
    refine ev_rel (r_credential h _ 0) (fun w v e hq => ?_)
    refine ev_bs (oS_1 hk hL) ?_
    refine ev_bs (oS_2 hk hL) ?_
    refine ev_if (fun _ => ?_) (fun z => absurd y z)
    refine ev_bs (mK h.2.1.1) ?_
    refine ev_bs e ?_
    exact ev_some hq.2
  · refine ev_bs (xK h.1.1) ?_
    refine ev_rel (r_credential h _ 1) (fun w v e hq => ?_)
    refine ev_bs (oS_1 hk hL) ?_
    refine ev_bs (oS_2 hk hL) ?_
    refine ev_if (fun z => absurd z y) (fun _ => ?_)
    refine ev_bs (mK h.2.1.1) ?_
    refine ev_bs e ?_
    exact ev_some hq.2
theorem s_C1 {xs : Nat → Int32} {L k b c : Nat} {σ τ : fr_S} (h : RR b c σ τ) (hk : k + 4 < L) (hL : L ≤ 2561) : ev (m_law_C1 xs L b c (nI k) σ τ) (fun z => RR b c z.1 z.2) := by
  unfold m_law_C1
  refine ev_bs (oS_1 hk hL) ?_
  refine ev_bs (oS_2 hk hL) ?_
  refine ev_bs (xK h.1.1) ?_
  refine ev_rel (r_place h _ _) (fun w v e hq => ?_)
  refine ev_bs (oS_1 hk hL) ?_
  refine ev_bs (oS_2 hk hL) ?_
  refine ev_bs (mK h.2.1.1) ?_
  refine ev_bs e ?_
  exact ev_some hq.2
theorem s_C2 {xs : Nat → Int32} {L k b c : Nat} {σ τ : fr_S} (h : RR b c σ τ) (hk : k + 4 < L) (hL : L ≤ 2561) : ev (m_law_C2 xs L b c (nI k) σ τ) (fun z => RR b c z.1 z.2) := by
  unfold m_law_C2
  refine ev_bs (oS_1 hk hL) ?_
  refine ev_bs (oS_2 hk hL) ?_
  refine ev_bs (oS_3 hk hL) ?_
  refine ev_bs (oS_4 hk hL) ?_
  refine ev_bs (xK h.1.1) ?_
  refine ev_rel (r_content h _ _ _) (fun w v e hq => ?_)
  refine ev_bs (oS_1 hk hL) ?_
  refine ev_bs (oS_2 hk hL) ?_
  refine ev_bs (oS_3 hk hL) ?_
  refine ev_bs (oS_4 hk hL) ?_
  refine ev_bs (mK h.2.1.1) ?_
  refine ev_bs e ?_
  exact ev_some hq.2
theorem s_C3 {xs : Nat → Int32} {L k b c : Nat} {σ τ : fr_S} (h : RR b c σ τ) (hk : k + 4 < L) (hL : L ≤ 2561) : ev (m_law_C3 xs L b c (nI k) σ τ) (fun z => RR b c z.1 z.2) := by
  unfold m_law_C3
  refine ev_bs (oS_1 hk hL) ?_
  refine ev_bs (oS_2 hk hL) ?_
  refine ev_bs (oS_3 hk hL) ?_
  refine ev_bs (xK h.1.1) ?_
  refine ev_rel (r_does h _ _ _) (fun w v e hq => ?_)
  refine ev_bs (oS_1 hk hL) ?_
  refine ev_bs (oS_2 hk hL) ?_
  refine ev_bs (oS_3 hk hL) ?_
  refine ev_bs (mK h.2.1.1) ?_
  refine ev_bs e ?_
  exact ev_some hq.2
theorem s_C4 {xs : Nat → Int32} {L k b c : Nat} {σ τ : fr_S} (h : RR b c σ τ) (hk : k + 4 < L) (hL : L ≤ 2561) : ev (m_law_C4 xs L b c (nI k) σ τ) (fun z => RR b c z.1 z.2) := by
  unfold m_law_C4
  refine ev_bs (oS_1 hk hL) ?_
  refine ev_bs (oS_2 hk hL) ?_
  refine ev_bs (oS_3 hk hL) ?_
  refine ev_bs (xK h.1.1) ?_
  refine ev_rel (r_cut h _ _ _) (fun w v e hq => ?_)
  refine ev_bs (oS_1 hk hL) ?_
  refine ev_bs (oS_2 hk hL) ?_
  refine ev_bs (oS_3 hk hL) ?_
  refine ev_bs (mK h.2.1.1) ?_
  refine ev_bs e ?_
  exact ev_some hq.2
theorem s_C5 {xs : Nat → Int32} {L k b c : Nat} {σ τ : fr_S} (h : RR b c σ τ) (hk : k + 4 < L) (hL : L ≤ 2561) : ev (m_law_C5 xs L b c (nI k) σ τ) (fun z => RR b c z.1 z.2) := by
  unfold m_law_C5
  refine ev_bs (oS_1 hk hL) ?_
  refine ev_bs (xK h.1.1) ?_
  refine ev_rel (r_digest h _) (fun w v e hq => ?_)
  refine ev_bs (oS_1 hk hL) ?_
  refine ev_bs (mK h.2.1.1) ?_
  refine ev_bs e ?_
  exact ev_some hq.2
theorem s_C6 {xs : Nat → Int32} {L k b c : Nat} {σ τ : fr_S} (h : RR b c σ τ) (hk : k + 4 < L) (hL : L ≤ 2561) : ev (m_law_C6 xs L b c (nI k) σ τ) (fun z => RR b c z.1 z.2) := by
  unfold m_law_C6
  refine ev_bs (oS_1 hk hL) ?_
  refine ev_bs (xK h.1.1) ?_
  refine ev_rel (r_want h _) (fun w v e hq => ?_)
  refine ev_bs (oS_1 hk hL) ?_
  refine ev_bs (mK h.2.1.1) ?_
  refine ev_bs e ?_
  exact ev_some hq.2
theorem s_C7 {xs : Nat → Int32} {L k b c : Nat} {σ τ : fr_S} (h : RR b c σ τ) (hk : k + 4 < L) (hL : L ≤ 2561) : ev (m_law_C7 xs L b c (nI k) σ τ) (fun z => RR b c z.1 z.2) := by
  unfold m_law_C7
  refine ev_bs (oS_1 hk hL) ?_
  refine ev_bs (oS_2 hk hL) ?_
  refine ev_bs (xK h.1.1) ?_
  refine ev_rel (r_from h _ _) (fun w v e hq => ?_)
  refine ev_bs (oS_1 hk hL) ?_
  refine ev_bs (oS_2 hk hL) ?_
  refine ev_bs (mK h.2.1.1) ?_
  refine ev_bs e ?_
  exact ev_some hq.2
theorem s_C8 {xs : Nat → Int32} {L k b c : Nat} {σ τ : fr_S} (h : RR b c σ τ) (hk : k + 4 < L) (hL : L ≤ 2561) : ev (m_law_C8 xs L b c (nI k) σ τ) (fun z => RR b c z.1 z.2) := by
  unfold m_law_C8
  refine ev_bs (oS_1 hk hL) ?_
  refine ev_if (fun y => ?_) (fun y => ?_)
  · refine ev_bs (xK h.1.1) ?_
    refine ev_rel (r_offLine h 0 (by decide)) (fun w v e hq => ?_)
    refine ev_bs (oS_1 hk hL) ?_
    refine ev_if (fun _ => ?_) (fun z => absurd y z)
    refine ev_bs (mK h.2.1.1) ?_
    refine ev_bs e ?_
    exact ev_some hq
  · refine ev_bs (xK h.1.1) ?_
    refine ev_rel (r_offLine h 1 (by decide)) (fun w v e hq => ?_)
    refine ev_bs (oS_1 hk hL) ?_
    refine ev_if (fun z => absurd z y) (fun _ => ?_)
    refine ev_bs (mK h.2.1.1) ?_
    refine ev_bs e ?_
    exact ev_some hq
theorem s_C9 {xs : Nat → Int32} {L k b c : Nat} {σ τ : fr_S} (h : RR b c σ τ) (hk : k + 4 < L) (hL : L ≤ 2561) : ev (m_law_C9 xs L b c (nI k) σ τ) (fun z => RR b c z.1 z.2) := by
  unfold m_law_C9
  refine ev_bs (oS_1 hk hL) ?_
  refine ev_bs (xK h.1.1) ?_
  refine ev_rel (r_begin h _) (fun w v e hq => ?_)
  refine ev_bs (oS_1 hk hL) ?_
  refine ev_bs (mK h.2.1.1) ?_
  refine ev_bs e ?_
  exact ev_some hq.2
theorem s_C10 {xs : Nat → Int32} {L k b c : Nat} {σ τ : fr_S} (h : RR b c σ τ) (hk : k + 4 < L) (hL : L ≤ 2561) : ev (m_law_C10 xs L b c (nI k) σ τ) (fun z => RR b c z.1 z.2) := by
  unfold m_law_C10
  refine ev_bs (oS_1 hk hL) ?_
  refine ev_bs (xK h.1.1) ?_
  refine ev_rel (r_tick h _) (fun w v e hq => ?_)
  refine ev_bs (oS_1 hk hL) ?_
  refine ev_bs (mK h.2.1.1) ?_
  refine ev_bs e ?_
  exact ev_some hq.2
theorem s_C11 {xs : Nat → Int32} {L k b c : Nat} {σ τ : fr_S} (h : RR b c σ τ) (hk : k + 4 < L) (hL : L ≤ 2561) : ev (m_law_C11 xs L b c (nI k) σ τ) (fun z => RR b c z.1 z.2) := by
  unfold m_law_C11
  refine ev_bs (oS_1 hk hL) ?_
  refine ev_bs (oS_2 hk hL) ?_
  refine ev_bs (xK h.1.1) ?_
  refine ev_rel (r_about h _ _) (fun w v e hq => ?_)
  refine ev_bs (oS_1 hk hL) ?_
  refine ev_bs (oS_2 hk hL) ?_
  refine ev_bs (mK h.2.1.1) ?_
  refine ev_bs e ?_
  exact ev_some hq
theorem s_C12 {xs : Nat → Int32} {L k b c : Nat} {σ τ : fr_S} (h : RR b c σ τ) (hk : k + 4 < L) (hL : L ≤ 2561) : ev (m_law_C12 xs L b c (nI k) σ τ) (fun z => RR b c z.1 z.2) := by
  unfold m_law_C12
  refine ev_bs (oS_1 hk hL) ?_
  refine ev_bs (oS_2 hk hL) ?_
  refine ev_bs (xK h.1.1) ?_
  refine ev_rel (r_byteOf h _ _) (fun w v e hq => ?_)
  refine ev_bs (oS_1 hk hL) ?_
  refine ev_bs (oS_2 hk hL) ?_
  refine ev_bs (mK h.2.1.1) ?_
  refine ev_bs e ?_
  exact ev_some hq
theorem s_C13 {xs : Nat → Int32} {L k b c : Nat} {σ τ : fr_S} (h : RR b c σ τ) (hk : k + 4 < L) (hL : L ≤ 2561) : ev (m_law_C13 xs L b c (nI k) σ τ) (fun z => RR b c z.1 z.2) := by
  unfold m_law_C13
  refine ev_bs (oS_1 hk hL) ?_
  refine ev_bs (oS_2 hk hL) ?_
  refine ev_bs (xK h.1.1) ?_
  refine ev_rel (r_barred h _ _) (fun w v e hq => ?_)
  refine ev_bs (oS_1 hk hL) ?_
  refine ev_bs (oS_2 hk hL) ?_
  refine ev_bs (mK h.2.1.1) ?_
  refine ev_bs e ?_
  exact ev_some hq.2
theorem s_C14 {xs : Nat → Int32} {L k b c : Nat} {σ τ : fr_S} (h : RR b c σ τ) (hk : k + 4 < L) (hL : L ≤ 2561) : ev (m_law_C14 xs L b c (nI k) σ τ) (fun z => RR b c z.1 z.2) := by
  unfold m_law_C14
  refine ev_bs (oS_1 hk hL) ?_
  refine ev_bs (xK h.1.1) ?_
  refine ev_rel (r_came h _) (fun w v e hq => ?_)
  refine ev_bs (oS_1 hk hL) ?_
  refine ev_bs (mK h.2.1.1) ?_
  refine ev_bs e ?_
  exact ev_some hq.2
theorem s_C15 {xs : Nat → Int32} {L k b c : Nat} {σ τ : fr_S} (h : RR b c σ τ) (hk : k + 4 < L) (hL : L ≤ 2561) : ev (m_law_C15 xs L b c (nI k) σ τ) (fun z => RR b c z.1 z.2) := by
  unfold m_law_C15
  refine ev_bs (oS_1 hk hL) ?_
  refine ev_bs (xK h.1.1) ?_
  refine ev_rel (r_lacks h _) (fun w v e hq => ?_)
  refine ev_bs (oS_1 hk hL) ?_
  refine ev_bs (mK h.2.1.1) ?_
  refine ev_bs e ?_
  exact ev_some hq.2
theorem s_C16 {xs : Nat → Int32} {L k b c : Nat} {σ τ : fr_S} (h : RR b c σ τ) (hk : k + 4 < L) (hL : L ≤ 2561) : ev (m_law_C16 xs L b c (nI k) σ τ) (fun z => RR b c z.1 z.2) := by
  unfold m_law_C16
  refine ev_bs (oS_1 hk hL) ?_
  refine ev_bs (xK h.1.1) ?_
  refine ev_rel (r_sent h _) (fun w v e hq => ?_)
  refine ev_bs (oS_1 hk hL) ?_
  refine ev_bs (mK h.2.1.1) ?_
  refine ev_bs e ?_
  exact ev_some hq.2
theorem s_C17 {xs : Nat → Int32} {L k b c : Nat} {σ τ : fr_S} (h : RR b c σ τ) (hk : k + 4 < L) (hL : L ≤ 2561) : ev (m_law_C17 xs L b c (nI k) σ τ) (fun z => RR b c z.1 z.2) := by
  unfold m_law_C17
  refine ev_bs (oS_1 hk hL) ?_
  refine ev_bs (oS_2 hk hL) ?_
  refine ev_bs (xK h.1.1) ?_
  refine ev_rel (r_unpack h _ _) (fun w v e hq => ?_)
  refine ev_bs (oS_1 hk hL) ?_
  refine ev_bs (oS_2 hk hL) ?_
  refine ev_bs (mK h.2.1.1) ?_
  refine ev_bs e ?_
  exact ev_some hq.2
theorem s_C18 {xs : Nat → Int32} {L k b c : Nat} {σ τ : fr_S} (h : RR b c σ τ) (hk : k + 4 < L) (hL : L ≤ 2561) : ev (m_law_C18 xs L b c (nI k) σ τ) (fun z => RR b c z.1 z.2) := by
  unfold m_law_C18
  refine ev_bs (oS_1 hk hL) ?_
  refine ev_bs (oS_2 hk hL) ?_
  refine ev_bs (xK h.1.1) ?_
  refine ev_rel (r_file h _ _) (fun w v e hq => ?_)
  refine ev_bs (oS_1 hk hL) ?_
  refine ev_bs (oS_2 hk hL) ?_
  refine ev_bs (mK h.2.1.1) ?_
  refine ev_bs e ?_
  exact ev_if (fun _ => ev_some hq.2) (fun z => absurd hq.1 z)
theorem s_end {L k : Nat} (hL : L ≤ 2561) (hk : k ≤ 3000) (h : ¬ (Int32.ofNat L - 5) < nI k) : k + 5 ≤ L := by
  by_cases e : 5 ≤ L
  · have e1 : (Int32.ofNat L - 5) = nI (L - 5) := by
      rw [nI_lit5]
      exact pk_sub e
    rw [e1, nI_ltI (by omega) (by omega)] at h
    omega
  · exfalso
    apply h
    have e2 : (Int32.ofNat L - 5) < 0 := by
      have : L = 0 ∨ L = 1 ∨ L = 2 ∨ L = 3 ∨ L = 4 := by omega
      rcases this with rfl | rfl | rfl | rfl | rfl <;> decide +kernel
    exact Int32.lt_of_lt_of_le e2 (Int32.not_lt.mp (nI_pos (by omega)))
theorem s_loop {xs : Nat → Int32} {L b c : Nat} (hL : L ≤ 2561) : ∀ (n k : Nat) (σ τ : fr_S), RR b c σ τ → k ≤ L + 1 → L + 1 < k + 5 * n → ev (m_law_L xs L b c n (nI k) σ τ) (fun _ => True) := by
  intro n
  induction n with
  | zero => intro k σ τ _ h1 h2; omega
  | succ n ih =>
    intro k σ τ h h1 h2
    unfold m_law_L
    refine ev_if (fun _ => ev_some trivial) (fun z => ?_)
    have hk := s_end hL (by omega) z
    have hk4 : k + 4 < L := by omega
    refine ev_bs (oS_nI (by omega) hL) ?_
    rw [nI_lit5, nI_add]
    have go : ∀ o : Option (fr_S × fr_S), ev o (fun z => RR b c z.1 z.2) → ev (o.bind fun z => m_law_L xs L b c n (nI (k + 5)) z.1 z.2) (fun _ => True) := fun o ho => ev_b ho (fun z hz => ih (k + 5) z.1 z.2 hz (by omega) (by omega))
    refine ev_if (fun _ => go _ (s_C0 h hk4 hL)) (fun _ => ?_)
    refine ev_if (fun _ => go _ (s_C1 h hk4 hL)) (fun _ => ?_)
    refine ev_if (fun _ => go _ (s_C2 h hk4 hL)) (fun _ => ?_)
    refine ev_if (fun _ => go _ (s_C3 h hk4 hL)) (fun _ => ?_)
    refine ev_if (fun _ => go _ (s_C4 h hk4 hL)) (fun _ => ?_)
    refine ev_if (fun _ => go _ (s_C5 h hk4 hL)) (fun _ => ?_)
    refine ev_if (fun _ => go _ (s_C6 h hk4 hL)) (fun _ => ?_)
    refine ev_if (fun _ => go _ (s_C7 h hk4 hL)) (fun _ => ?_)
    refine ev_if (fun _ => go _ (s_C8 h hk4 hL)) (fun _ => ?_)
    refine ev_if (fun _ => go _ (s_C9 h hk4 hL)) (fun _ => ?_)
    refine ev_if (fun _ => go _ (s_C10 h hk4 hL)) (fun _ => ?_)
    refine ev_if (fun _ => go _ (s_C11 h hk4 hL)) (fun _ => ?_)
    refine ev_if (fun _ => go _ (s_C12 h hk4 hL)) (fun _ => ?_)
    refine ev_if (fun _ => go _ (s_C13 h hk4 hL)) (fun _ => ?_)
    refine ev_if (fun _ => go _ (s_C14 h hk4 hL)) (fun _ => ?_)
    refine ev_if (fun _ => go _ (s_C15 h hk4 hL)) (fun _ => ?_)
    refine ev_if (fun _ => go _ (s_C16 h hk4 hL)) (fun _ => ?_)
    refine ev_if (fun _ => go _ (s_C17 h hk4 hL)) (fun _ => ?_)
    refine ev_if (fun _ => go _ (s_C18 h hk4 hL)) (fun _ => ?_)
    exact ih (k + 5) σ τ h (by omega) (by omega)
theorem s_cell {xs : Nat → Int32} {L : Nat} (hL : L ≤ 2561) : ∃ r, m_cell xs L 0 = some r := by
  unfold m_cell
  by_cases e : Int32.ofNat L ≤ 0
  · exact ⟨0, if_pos e⟩
  · rw [if_neg e]
    have hp : 0 < L := by
      by_cases z : L = 0
      · subst z
        exact absurd (by decide +kernel) e
      · omega
    have := oS_nI (xs := xs) hp hL
    rw [nI_0] at this
    exact ⟨_, this⟩
theorem s_sem (B0 L : Nat) (xs : Nat → Int32) (hL : L ≤ 2561) : fl_Sem B0 L xs := by
  obtain ⟨r, hr⟩ := s_cell (xs := xs) hL
  obtain ⟨σ, nx, τ, nx2, e1, e2, hRR⟩ := r_init B0 r
  obtain ⟨u, e3, -⟩ := s_loop (xs := xs) hL 1000 1 σ τ hRR (by omega) (by omega)
  rw [nI_v1] at e3
  exact ⟨r, σ, nx, τ, nx2, u, hr, e1, e2, e3⟩
theorem whole_start {p : Program} {e : Env} {s : State} {m : MethodId} {below : List Frame} {meth : Method} {c : Code} (l : Launch) {b L : Nat} {xs : Nat → Int32} (hbd : L ≤ 2561) (C0 : lw_At p s m meth c b L xs) : W p l e room_1 s m #[Value.ref b] below meth c s.heap [] 0 0 (lw_Z below #[Value.ref b] s) (entryFrame m ([Value.ref b] : List Value).toArray 4) := whole_open l (s_sem s.heap.size L xs hbd) C0
