/-! reading a row as an archive: both sides against one function of its bytes -/
/-- a row of the class, a row of the reference, that hold the bytes f -/
def CR (σ : fr_S) (r v len : Nat) (f : Nat → Nat) : Prop := RowAt σ r v ∧ gI σ 257 r = nI len ∧ len ≤ 100 ∧ ∀ k, k < len → f k < 256 ∧ gV σ v k = nI (f k)
def MR (c j : Nat) (τ : fr_S) (len : Nat) (f : Nat → Nat) : Prop := Sm c τ ∧ j < 10 ∧ len ≤ 100 ∧ ∀ k, k < len → f k < 256 ∧ gV τ (c + 20) (100 * j + k) = nI (f k)
theorem cr_at {σ : fr_S} {r v len k : Nat} {f : Nat → Nat} (h : CR σ r v len f) (hk : k < len) : m_Row_at r (nI k) σ = some (nI (f k)) := by
  obtain ⟨⟨k1, k2, k3⟩, hl, hn, hv⟩ := h
  unfold m_Row_at
  refine oif_n (nI_pos (by omega)) ?_
  refine obs ((oI_k k1).trans (congrArg some hl)) ?_
  refine oif_n (fun z => ?_) ?_
  · rw [nI_leI (by omega) (by omega)] at z
    omega
  refine obs (oP_g k1 k2) ?_
  exact obs ((oV_nI k3 (by omega) (by decide)).trans (congrArg some (hv k hk).2)) rfl
theorem mr_at {c j len k : Nat} {τ : fr_S} {f : Nat → Nat} (h : MR c j τ len f) (hk : k < len) : oV τ 0 (c + 20) (nI (100 * j + k)) = some (nI (f k)) := by
  obtain ⟨hm, hj, hl, hv⟩ := h
  exact (mV20 hm (by omega)).trans (congrArg some (hv k hk).2)
/-- a segment, as the class looks at it -/
def sgOk (f : Nat → Nat) (s e : Nat) : Int32 := if e ≤ s then 0 else if 2 < e - s then 1 else if f s = 46 ∧ f (e - 1) = 46 then 0 else 1
theorem sg_eq {σ : fr_S} {r v len s e : Nat} {f : Nat → Nat} (h : CR σ r v len f) (hse : s ≤ e) (he : e ≤ len) : m_Archive_isRightSegment r (nI s) (nI e) σ = some (sgOk f s e) := by
  have hk := h.1.1
  have hl := h.2.2.1
  unfold m_Archive_isRightSegment sgOk
  rw [pk_sub hse]
  by_cases e0 : e ≤ s
  · rw [if_pos e0]
    refine oif_n ?_ rfl
    rw [← nI_0, nI_ltI (by omega) (by omega)]
    omega
  · rw [if_neg e0]
    refine oif_p (by rw [← nI_0, nI_ltI (by omega) (by omega)]; omega) ?_
    by_cases e2 : 2 < e - s
    · rw [if_pos e2]
      exact oif_p (by rw [← nI_v2, nI_ltI (by omega) (by omega)]; exact e2) rfl
    · rw [if_neg e2]
      refine oif_n (by rw [← nI_v2, nI_ltI (by omega) (by omega)]; exact e2) ?_
      refine obs (oK_k hk) (obs (cr_at h (by omega)) ?_)
      have b1 := (h.2.2.2 s (by omega)).1
      have b2 := (h.2.2.2 (e - 1) (by omega)).1
      have l46 : (46 : Int32) = nI 46 := by decide +kernel
      by_cases q1 : f s = 46
      · refine oif_p (by rw [q1, l46]) ?_
        rw [nI_sm (by omega)]
        refine obs (oK_k hk) (obs (cr_at h (by omega)) ?_)
        by_cases q2 : f (e - 1) = 46
        · rw [if_pos (show f s = 46 ∧ f (e - 1) = 46 from ⟨q1, q2⟩)]
          exact oif_p (by rw [q2, l46]) rfl
        · rw [if_neg (show ¬ (f s = 46 ∧ f (e - 1) = 46) from fun z => q2 z.2)]
          refine oif_n (fun z => ?_) rfl
          rw [l46] at z
          exact q2 (nI_inj (by omega) (by omega) z)
      · rw [if_neg (show ¬ (f s = 46 ∧ f (e - 1) = 46) from fun z => q1 z.1)]
        refine oif_n (fun z => ?_) rfl
        rw [l46] at z
        exact q1 (nI_inj (by omega) (by omega) z)
/-- a sign of a path that isn't a slash -/
def chOk (x : Nat) : Bool := (Nat.ble 97 x && Nat.ble x 122) || (Nat.ble 48 x && Nat.ble x 57) || Nat.beq x 46
def S0 : fr_S := (fun _ => none, fun _ _ => 0, fun _ _ => none, fun _ _ => 0, fun _ _ => none)
theorem ch_all : ∀ x, x < 256 → m_Archive_isPathCharacter (nI x) S0 = some (if chOk x then 1 else 0) := by decide +kernel
theorem sn_all : ∀ x, x < 256 → m_Md_isSign (nI x) S0 = some (if chOk x ∨ x = 47 then 1 else 0) := by decide +kernel
theorem ch_eq {x : Nat} (hx : x < 256) (σ : fr_S) : m_Archive_isPathCharacter (nI x) σ = some (if chOk x then 1 else 0) := ch_all x hx
theorem sn_eq {x : Nat} (hx : x < 256) (σ : fr_S) : m_Md_isSign (nI x) σ = some (if chOk x ∨ x = 47 then 1 else 0) := sn_all x hx
theorem sg01 (f : Nat → Nat) (s e : Nat) : sgOk f s e = 0 ∨ sgOk f s e = 1 := by
  unfold sgOk
  by_cases h1 : e ≤ s
  · rw [if_pos h1]; exact Or.inl rfl
  · rw [if_neg h1]
    by_cases h2 : 2 < e - s
    · rw [if_pos h2]; exact Or.inr rfl
    · rw [if_neg h2]
      by_cases h3 : f s = 46 ∧ f (e - 1) = 46
      · rw [if_pos h3]; exact Or.inl rfl
      · rw [if_neg h3]; exact Or.inr rfl
/-- a path, as the class looks at it -/
def rgL (f : Nat → Nat) : Nat → Nat → Nat → Nat → Int32
  | 0, _, _, _ => 0
  | n + 1, e, s, i => if e ≤ i then sgOk f s e else if f i = 47 then (if sgOk f s i = 0 then 0 else rgL f n e (i + 1) (i + 1)) else if chOk (f i) then rgL f n e s (i + 1) else 0
theorem nI_lit47 : (47 : Int32) = nI 47 := by decide +kernel
theorem nI_lit46 : (46 : Int32) = nI 46 := by decide +kernel
theorem rp_eq {σ : fr_S} {r v len e : Nat} {f : Nat → Nat} (h : CR σ r v len f) (he : e ≤ len) : ∀ (n s i : Nat), s ≤ i → i ≤ e → e - i < n → m_Archive_isRightPath_L5 n r (nI e) (nI s) (nI i) σ = some (rgL f n e s i) := by
  have hk := h.1.1
  have hl := h.2.2.1
  intro n
  induction n with
  | zero => intro s i _ _ h; omega
  | succ n ih =>
    intro s i hsi hie hn
    unfold m_Archive_isRightPath_L5 rgL
    by_cases ee : e ≤ i
    · have : i = e := by omega
      subst this
      rw [if_pos ee]
      refine oif_p (by rw [nI_leI (by omega) (by omega)]; exact ee) (obs (sg_eq h hsi he) ?_)
      exact obs (show oZ (sgOk f s i) = some () from if_pos (sg01 f s i)) rfl
    · rw [if_neg ee]
      refine oif_n (by rw [nI_leI (by omega) (by omega)]; exact ee) (obs (oK_k hk) (obs (cr_at h (by omega)) ?_))
      have b1 := (h.2.2.2 i (by omega)).1
      by_cases q : f i = 47
      · rw [if_pos q]
        refine oif_p (by rw [q, nI_lit47]) (obs (sg_eq h hsi (by omega)) ?_)
        by_cases q0 : sgOk f s i = 0
        · refine oif_p q0 ?_
          rw [if_pos q0]
        · refine oif_n q0 ?_
          rw [if_neg q0, nI_1]
          exact ih (i + 1) (i + 1) (by omega) (by omega) (by omega)
      · rw [if_neg q]
        refine oif_n (fun z => ?_) (obs (ch_eq b1 σ) ?_)
        · rw [nI_lit47] at z
          exact q (nI_inj (by omega) (by omega) z)
        by_cases q1 : chOk (f i)
        · rw [if_pos q1, if_pos q1]
          refine oif_n (by decide) ?_
          rw [nI_1]
          exact ih s (i + 1) (by omega) (by omega) (by omega)
        · rw [if_neg q1, if_neg q1]
          exact oif_p rfl rfl
/-- the points of a segment so far -/
def cnt (f : Nat → Nat) (s : Nat) : Nat → Nat
  | 0 => 0
  | l + 1 => cnt f s l + (if f (s + l) = 46 then 1 else 0)
theorem cnt_le (f : Nat → Nat) (s : Nat) : ∀ l, cnt f s l ≤ l := by
  intro l
  induction l with
  | zero => exact Nat.le_refl 0
  | succ l ih =>
    show cnt f s l + (if f (s + l) = 46 then 1 else 0) ≤ l + 1
    by_cases e : f (s + l) = 46
    · rw [if_pos e]; omega
    · rw [if_neg e]; omega
theorem sg_ref {f : Nat → Nat} {s l : Nat} (hl : l ≤ 100) (R : Option Int32) : (if nI l = 0 then some 0 else if nI l = nI (cnt f s l) then (if 3 ≤ nI l then R else some 0) else R) = (if sgOk f s (s + l) = 0 then some 0 else R) := by
  have hc := cnt_le f s l
  have i3 : (3 : Int32) = nI 3 := nI_v3.symm
  unfold sgOk
  by_cases l0 : l = 0
  · subst l0
    rw [if_pos nI_0, if_pos (show s + 0 ≤ s by omega), if_pos rfl]
  · rw [if_neg (show ¬ nI l = 0 from fun z => l0 (nI_inj (by omega) (by omega) (z.trans nI_0.symm))), if_neg (show ¬ s + l ≤ s by omega)]
    have e1 : s + l - s = l := by omega
    rw [e1]
    by_cases l2 : 2 < l
    · rw [if_pos l2, if_neg (show ¬ (1 : Int32) = 0 by decide)]
      by_cases q : nI l = nI (cnt f s l)
      · rw [if_pos q, if_pos (show 3 ≤ nI l by rw [i3, nI_leI (by omega) (by omega)]; omega)]
      · rw [if_neg q]
    · rw [if_neg l2]
      have n3 : ¬ 3 ≤ nI l := by rw [i3, nI_leI (by omega) (by omega)]; omega
      have key : cnt f s l = l ↔ (f s = 46 ∧ f (s + l - 1) = 46) := by
        have : l = 1 ∨ l = 2 := by omega
        rcases this with rfl | rfl
        · show 0 + (if f (s + 0) = 46 then 1 else 0) = 1 ↔ (f s = 46 ∧ f (s + 1 - 1) = 46)
          have e2 : s + 1 - 1 = s := by omega
          rw [e2, Nat.add_zero]
          by_cases q : f s = 46
          · rw [if_pos q]; exact ⟨fun _ => ⟨q, q⟩, fun _ => rfl⟩
          · rw [if_neg q]; exact ⟨fun z => absurd z (by decide), fun z => absurd z.1 q⟩
        · show 0 + (if f (s + 0) = 46 then 1 else 0) + (if f (s + 1) = 46 then 1 else 0) = 2 ↔ (f s = 46 ∧ f (s + 2 - 1) = 46)
          have e2 : s + 2 - 1 = s + 1 := by omega
          rw [e2, Nat.add_zero]
          by_cases q : f s = 46 <;> by_cases q2 : f (s + 1) = 46
          · rw [if_pos q, if_pos q2]; exact ⟨fun _ => ⟨q, q2⟩, fun _ => rfl⟩
          · rw [if_pos q, if_neg q2]; exact ⟨fun z => absurd z (by decide), fun z => absurd z.2 q2⟩
          · rw [if_neg q, if_pos q2]; exact ⟨fun z => absurd z (by decide), fun z => absurd z.1 q⟩
          · rw [if_neg q, if_neg q2]; exact ⟨fun z => absurd z (by decide), fun z => absurd z.1 q⟩
      by_cases q : f s = 46 ∧ f (s + l - 1) = 46
      · rw [if_pos (show nI l = nI (cnt f s l) by rw [key.mpr q]), if_neg n3, if_pos q, if_pos rfl]
      · rw [if_neg (show ¬ nI l = nI (cnt f s l) from fun z => q (key.mp (nI_inj (by omega) (by omega) z).symm)), if_neg q, if_neg (show ¬ (1 : Int32) = 0 by decide)]
theorem rm_eq {c j len e : Nat} {τ : fr_S} {f : Nat → Nat} (h : MR c j τ len f) (he : e ≤ len) : ∀ (n s l : Nat), s + l ≤ e → e - (s + l) + 1 < n → m_Md_isRight_L8 n c (nI (100 * j + e)) (nI l) (nI (cnt f s l)) (nI (100 * j + (s + l))) τ = some (rgL f n e s (s + l)) := by
  have hm := h.1
  have hj := h.2.1
  have hl := h.2.2.1
  intro n
  induction n with
  | zero => intro s l _ h; omega
  | succ n ih =>
    intro s l hsl hn
    unfold m_Md_isRight_L8 rgL
    refine oif_n (by rw [nI_ltI (by omega) (by omega)]; omega) ?_
    by_cases ee : e ≤ s + l
    · have ee2 : s + l = e := by omega
      rw [if_pos ee]
      refine oif_p (by rw [nI_leI (by omega) (by omega)]; omega) (obs (show m_Md_isSign 47 τ = some 1 from sn_eq (x := 47) (by decide) τ) (oif_n (by decide) ?_))
      rw [sg_ref (by omega), nI_1]
      have last : m_Md_isRight_L8 n c (nI (100 * j + e)) 0 0 (nI (100 * j + (s + l) + 1)) τ = some 1 := by
        obtain ⟨n', rfl⟩ : ∃ n', n = n' + 1 := ⟨n - 1, by omega⟩
        unfold m_Md_isRight_L8
        exact oif_p (by rw [nI_ltI (by omega) (by omega)]; omega) rfl
      rw [last, ee2]
      rcases sg01 f s e with q | q
      · rw [q, if_pos rfl]
      · rw [q, if_neg (by decide)]
    · rw [if_neg ee]
      refine oif_n (by rw [nI_leI (by omega) (by omega)]; omega) (obs (mP28 hm) (obs (mr_at h (by omega)) ?_))
      have b1 := (h.2.2.2 (s + l) (by omega)).1
      refine obs (sn_eq b1 τ) ?_
      by_cases q : f (s + l) = 47
      · rw [if_pos (Or.inr q), if_pos q]
        refine oif_n (by decide) (oif_p (by rw [q, nI_lit47]) ?_)
        rw [sg_ref (by omega), nI_1]
        have key := ih (s + l + 1) 0 (by omega) (by omega)
        have e1 : 100 * j + (s + l + 1 + 0) = 100 * j + (s + l) + 1 := by omega
        have e2 : s + l + 1 + 0 = s + l + 1 := by omega
        rw [e1, e2, show cnt f (s + l + 1) 0 = 0 from rfl, nI_0] at key
        rw [key]
        by_cases q0 : sgOk f s (s + l) = 0
        · rw [if_pos q0, if_pos q0]
        · rw [if_neg q0, if_neg q0]
      · rw [if_neg q]
        by_cases q1 : chOk (f (s + l))
        · rw [if_pos (Or.inl q1), if_pos q1]
          refine oif_n (by decide) (oif_n (fun z => ?_) ?_)
          · rw [nI_lit47] at z
            exact q (nI_inj (by omega) (by omega) z)
          have key := ih s (l + 1) (by omega) (by omega)
          have e1 : 100 * j + (s + (l + 1)) = 100 * j + (s + l) + 1 := by omega
          have e2 : s + (l + 1) = s + l + 1 := by omega
          rw [e1, e2, show cnt f s (l + 1) = cnt f s l + (if f (s + l) = 46 then 1 else 0) from rfl] at key
          rw [nI_1, nI_1]
          by_cases p : f (s + l) = 46
          · rw [if_pos p] at key
            refine oif_p (by rw [p, nI_lit46]) ?_
            rw [nI_1]
            exact key
          · rw [if_neg p] at key
            refine oif_n (fun z => ?_) ?_
            · rw [nI_lit46] at z
              exact p (nI_inj (by omega) (by omega) z)
            rw [Nat.add_zero] at key
            rw [Int32.add_zero, nI_1]
            exact key
        · rw [if_neg (show ¬ (chOk (f (s + l)) = true ∨ f (s + l) = 47) from fun z => z.elim q1 q), if_neg q1]
          exact oif_p rfl rfl
/-- a path without its first segments -/
def spL (f : Nat → Nat) : Nat → Nat → Nat → Nat → Nat
  | 0, e, _, _ => e
  | n + 1, e, l, i => if l = 0 then i else if e ≤ i then e else if f i = 47 then spL f n e (l - 1) (i + 1) else spL f n e l (i + 1)
theorem spL_le (f : Nat → Nat) {e : Nat} : ∀ (n l i : Nat), i ≤ e → i ≤ spL f n e l i ∧ spL f n e l i ≤ e := by
  intro n
  induction n with
  | zero => intro l i hi; exact ⟨hi, Nat.le_refl e⟩
  | succ n ih =>
    intro l i hi
    unfold spL
    by_cases l0 : l = 0
    · rw [if_pos l0]; exact ⟨Nat.le_refl i, hi⟩
    · rw [if_neg l0]
      by_cases ee : e ≤ i
      · rw [if_pos ee]; exact ⟨hi, Nat.le_refl e⟩
      · rw [if_neg ee]
        by_cases q : f i = 47
        · rw [if_pos q]
          have := ih (l - 1) (i + 1) (by omega)
          omega
        · rw [if_neg q]
          have := ih l (i + 1) (by omega)
          omega
theorem spc_eq {σ : fr_S} {r v len e : Nat} {f : Nat → Nat} (h : CR σ r v len f) (he : e ≤ len) : ∀ (n g l i : Nat), l ≤ 5 → (l = 0 → g = i) → i ≤ e → e - i < n → m_Archive_strippedStart_L9 n r (nI e) (nI g) (nI l) (nI i) σ = some (nI (spL f n e l i)) := by
  have hk := h.1.1
  have hl := h.2.2.1
  intro n
  induction n with
  | zero => intro g l i _ _ _ h; omega
  | succ n ih =>
    intro g l i hl5 hg hie hn
    unfold m_Archive_strippedStart_L9 spL
    by_cases l0 : l = 0
    · have := hg l0
      subst this
      rw [if_pos l0]
      have z : nI l ≤ 0 := by rw [l0, nI_0]; exact Int32.le_refl 0
      by_cases ee : e ≤ g
      · exact oif_p (by rw [nI_leI (by omega) (by omega)]; exact ee) (oif_p z rfl)
      · exact oif_n (by rw [nI_leI (by omega) (by omega)]; exact ee) (oif_p z (oif_p z rfl))
    · have z : ¬ nI l ≤ 0 := by rw [← nI_0, nI_leI (by omega) (by omega)]; omega
      rw [if_neg l0]
      by_cases ee : e ≤ i
      · rw [if_pos ee]
        exact oif_p (by rw [nI_leI (by omega) (by omega)]; exact ee) (oif_n z rfl)
      · rw [if_neg ee]
        refine oif_n (by rw [nI_leI (by omega) (by omega)]; exact ee) (oif_n z (obs (oK_k hk) (obs (cr_at h (by omega)) ?_)))
        have b1 := (h.2.2.2 i (by omega)).1
        by_cases q : f i = 47
        · rw [if_pos q]
          refine oif_p (by rw [q, nI_lit47]) ?_
          rw [nI_1, nI_r (by omega)]
          exact ih (i + 1) (l - 1) (i + 1) (by omega) (fun _ => rfl) (by omega) (by omega)
        · rw [if_neg q]
          refine oif_n (fun z => ?_) ?_
          · rw [nI_lit47] at z
            exact q (nI_inj (by omega) (by omega) z)
          rw [nI_1]
          exact ih g l (i + 1) hl5 (fun z => absurd z l0) (by omega) (by omega)
theorem spm_eq {c j len e : Nat} {τ : fr_S} {f : Nat → Nat} (h : MR c j τ len f) (he : e ≤ len) : ∀ (n l i : Nat), l ≤ 5 → i ≤ e → e - i < n → m_Md_strip_L6 n c (nI (100 * j + e)) (nI l) (nI (100 * j + i)) τ = some (nI (100 * j + spL f n e l i)) := by
  have hm := h.1
  have hj := h.2.1
  have hl := h.2.2.1
  intro n
  induction n with
  | zero => intro l i _ _ h; omega
  | succ n ih =>
    intro l i hl5 hie hn
    unfold m_Md_strip_L6 spL
    by_cases l0 : l = 0
    · rw [if_pos l0]
      have z : nI l ≤ 0 := by rw [l0, nI_0]; exact Int32.le_refl 0
      exact oif_p z (oif_p z rfl)
    · have z : ¬ nI l ≤ 0 := by rw [← nI_0, nI_leI (by omega) (by omega)]; omega
      rw [if_neg l0]
      refine oif_n z ?_
      by_cases ee : e ≤ i
      · rw [if_pos ee]
        exact oif_p (by rw [nI_leI (by omega) (by omega)]; omega) (oif_n z rfl)
      · rw [if_neg ee]
        refine oif_n (by rw [nI_leI (by omega) (by omega)]; omega) (obs (mP28 hm) (obs (mr_at h (by omega)) ?_))
        have b1 := (h.2.2.2 i (by omega)).1
        have e1 : 100 * j + i + 1 = 100 * j + (i + 1) := by omega
        by_cases q : f i = 47
        · rw [if_pos q]
          refine oif_p (by rw [q, nI_lit47]) ?_
          rw [nI_1, nI_sm (by omega), e1]
          exact ih (l - 1) (i + 1) (by omega) (by omega) (by omega)
        · rw [if_neg q]
          refine oif_n (fun z => ?_) ?_
          · rw [nI_lit47] at z
            exact q (nI_inj (by omega) (by omega) z)
          rw [nI_1, nI_s0, e1]
          exact ih l (i + 1) hl5 (by omega) (by omega)
/-! an archive's entries -/
theorem nI_nm {q : Nat} (hq : q < 2 ^ 31) : ¬ nI q = -1 := fun z => by
  have h := nI_pos (n := q) hq
  rw [z] at h
  exact h (by decide)
def nx (f : Nat → Nat) (p : Nat) : Nat := p + 1 + f p + 1 + f (p + 1 + f p)
theorem pe_eq {σ : fr_S} {r v len p : Nat} {f : Nat → Nat} (h : CR σ r v len f) (hp : p < len) : m_Archive_pathEnd r (nI p) σ = some (nI (p + 1 + f p)) := by
  unfold m_Archive_pathEnd
  refine obs (oK_k h.1.1) (obs (cr_at h hp) ?_)
  rw [nI_1, nI_add]
theorem ee_eq {σ : fr_S} {r v len p : Nat} {f : Nat → Nat} (h : CR σ r v len f) (hp : p < len) (hq : p + 1 + f p < len) : m_Archive_entryEnd r (nI p) σ = some (nI (nx f p)) := by
  unfold m_Archive_entryEnd nx
  refine obs (pe_eq h hp) (obs (oK_k h.1.1) (obs (cr_at h hq) ?_))
  rw [nI_1, nI_add]
def illE (f : Nat → Nat) (len p : Nat) : Int32 := if f p < 1 then nI p else if 20 < f p then nI p else if p + 1 + f p < len then (if rgL f 1000 (p + 1 + f p) (p + 1) (p + 1) = 0 then nI (p + 1) else if nx f p ≤ len then -1 else nI len) else nI len
theorem il_eq {σ : fr_S} {r v len p : Nat} {f : Nat → Nat} (h : CR σ r v len f) (hp : p < len) : m_Archive_findIllOfEntry r (nI p) σ = some (illE f len p) := by
  have hk := h.1.1
  have hl := h.2.2.1
  have b1 := (h.2.2.2 p hp).1
  have l20 : (20 : Int32) = nI 20 := by decide +kernel
  have hlen := (oI_k (ci := 4) (f := 257) hk).trans (congrArg some h.2.1)
  unfold m_Archive_findIllOfEntry illE
  refine obs (oK_k hk) (obs (cr_at h hp) ?_)
  by_cases q1 : f p < 1
  · rw [if_pos q1]
    exact oif_p (by rw [nI_lit1, nI_ltI (by omega) (by omega)]; exact q1) rfl
  rw [if_neg q1]
  refine oif_n (by rw [nI_lit1, nI_ltI (by omega) (by omega)]; exact q1) ?_
  by_cases q2 : 20 < f p
  · rw [if_pos q2]
    exact oif_n (by rw [l20, nI_leI (by omega) (by omega)]; omega) rfl
  rw [if_neg q2]
  refine oif_p (by rw [l20, nI_leI (by omega) (by omega)]; omega) (obs (pe_eq h hp) (obs hlen ?_))
  by_cases q3 : p + 1 + f p < len
  · rw [if_pos q3]
    refine oif_p (by rw [nI_ltI (by omega) (by omega)]; exact q3) (obs (pe_eq h hp) ?_)
    have e := rp_eq h (e := p + 1 + f p) (by omega) 1000 (p + 1) (p + 1) (by omega) (by omega) (by omega)
    rw [nI_1]
    refine obs (show m_Archive_isRightPath r (nI (p + 1)) (nI (p + 1 + f p)) σ = _ from e) ?_
    by_cases q4 : rgL f 1000 (p + 1 + f p) (p + 1) (p + 1) = 0
    · refine oif_p q4 ?_
      rw [if_pos q4]
    · refine oif_n q4 ?_
      rw [if_neg q4]
      refine obs (ee_eq h hp q3) (obs hlen ?_)
      have b2 := (h.2.2.2 (p + 1 + f p) q3).1
      have bn : nx f p < 2 ^ 31 := by unfold nx; omega
      by_cases q5 : nx f p ≤ len
      · rw [if_pos q5]
        exact oif_p (by rw [nI_leI bn (by omega)]; exact q5) rfl
      · rw [if_neg q5]
        exact oif_n (by rw [nI_leI bn (by omega)]; exact q5) (obs hlen rfl)
  · rw [if_neg q3]
    exact oif_n (by rw [nI_ltI (by omega) (by omega)]; exact q3) (obs hlen rfl)
theorem illE_ok {f : Nat → Nat} {len p : Nat} (hl : len ≤ 100) (hp : p < len) (h : illE f len p = -1) : 1 ≤ f p ∧ f p ≤ 20 ∧ p + 1 + f p < len ∧ ¬ rgL f 1000 (p + 1 + f p) (p + 1) (p + 1) = 0 ∧ nx f p ≤ len := by
  unfold illE at h
  by_cases q1 : f p < 1
  · rw [if_pos q1] at h
    exact absurd h (nI_nm (by omega))
  rw [if_neg q1] at h
  by_cases q2 : 20 < f p
  · rw [if_pos q2] at h
    exact absurd h (nI_nm (by omega))
  rw [if_neg q2] at h
  by_cases q3 : p + 1 + f p < len
  · rw [if_pos q3] at h
    by_cases q4 : rgL f 1000 (p + 1 + f p) (p + 1) (p + 1) = 0
    · rw [if_pos q4] at h
      exact absurd h (nI_nm (by omega))
    rw [if_neg q4] at h
    by_cases q5 : nx f p ≤ len
    · exact ⟨by omega, by omega, q3, q4, q5⟩
    · rw [if_neg q5] at h
      exact absurd h (nI_nm (by omega))
  · rw [if_neg q3] at h
    exact absurd h (nI_nm (by omega))
def illL (f : Nat → Nat) (len : Nat) : Nat → Nat → Int32
  | 0, _ => -1
  | n + 1, p => if len ≤ p then -1 else if illE f len p = -1 then illL f len n (nx f p) else illE f len p
theorem fi_eq {σ : fr_S} {r v len : Nat} {f : Nat → Nat} (h : CR σ r v len f) : ∀ (n p seen : Nat), 3 * seen ≤ p → p ≤ len → len - p < n → m_Archive_findIll_L4 n r (nI p) (nI seen) σ = some (illL f len n p) := by
  have hk := h.1.1
  have hl := h.2.2.1
  have hlen := (oI_k (ci := 4) (f := 257) hk).trans (congrArg some h.2.1)
  intro n
  induction n with
  | zero => intro p seen _ _ h; omega
  | succ n ih =>
    intro p seen hs hp hn
    unfold m_Archive_findIll_L4 illL
    refine oif_n (by rw [nI_lit100, nI_leI (by omega) (by omega)]; omega) (obs hlen ?_)
    by_cases q1 : len ≤ p
    · rw [if_pos q1]
      exact oif_p (by rw [nI_leI (by omega) (by omega)]; exact q1) rfl
    rw [if_neg q1]
    refine oif_n (by rw [nI_leI (by omega) (by omega)]; exact q1) (obs (il_eq h (by omega)) ?_)
    by_cases q2 : illE f len p = -1
    · obtain ⟨o1, o2, o3, o4, o5⟩ := illE_ok hl (by omega) q2
      refine oif_p q2 ?_
      rw [if_pos q2]
      refine obs (ee_eq h (by omega) o3) ?_
      rw [nI_1]
      have : p + 3 ≤ nx f p := by unfold nx; omega
      exact ih (nx f p) (seen + 1) (by omega) o5 (by omega)
    · refine oif_n q2 ?_
      rw [if_neg q2]
theorem rd_eq {c j len k : Nat} {τ : fr_S} {f : Nat → Nat} (h : MR c j τ len f) (h19 : gV τ (c + 19) j = nI len) (hk5 : k ≤ 5) : ∀ (n p : Nat), p ≤ len → len - p < n → m_Md_read_L21 n c (nI j) (nI k) 0 (nI (100 * j)) (nI (100 * j + len)) (nI (100 * j + p)) τ = some (illL f len n p, τ) := by
  have hm := h.1
  have hj := h.2.1
  have hl := h.2.2.1
  have l20 : (20 : Int32) = nI 20 := by decide +kernel
  intro n
  induction n with
  | zero => intro p _ h; omega
  | succ n ih =>
    intro p hp hn
    unfold m_Md_read_L21 illL
    by_cases q1 : len ≤ p
    · rw [if_pos q1]
      exact oif_p (by rw [nI_leI (by omega) (by omega)]; omega) rfl
    rw [if_neg q1]
    refine oif_n (by rw [nI_leI (by omega) (by omega)]; omega) (obs (mP28 hm) (obs (mr_at h (by omega)) ?_))
    have b1 := (h.2.2.2 p (by omega)).1
    have e0 : nI (100 * j + p) - nI (100 * j) = nI p := by rw [pk_sub (by omega)]; congr 1; omega
    have e1 : nI (100 * j + p) + 1 = nI (100 * j + (p + 1)) := nI_1 _
    have e1' : nI (100 * j + (p + 1)) - nI (100 * j) = nI (p + 1) := by rw [pk_sub (by omega)]; congr 1; omega
    have e2 : nI (100 * j + (p + 1)) + nI (f p) = nI (100 * j + (p + 1 + f p)) := by rw [nI_add]; congr 1; omega
    have e3 : nI (100 * j + (p + 1 + f p)) + 1 = nI (100 * j + (p + 1 + f p + 1)) := nI_1 _
    have e4 : nI (100 * j + (p + 1 + f p + 1)) + nI (f (p + 1 + f p)) = nI (100 * j + nx f p) := by rw [nI_add]; congr 1; unfold nx; omega
    rw [e0, e1, e1', e2, e3]
    have x1 : f p < 1 → illE f len p = nI p := fun q => by unfold illE; rw [if_pos q]
    by_cases q2 : f p < 1
    · rw [x1 q2, if_neg (nI_nm (by omega))]
      exact oif_p (by rw [nI_lit1, nI_ltI (by omega) (by omega)]; exact q2) rfl
    refine oif_n (by rw [nI_lit1, nI_ltI (by omega) (by omega)]; exact q2) ?_
    by_cases q3 : 20 < f p
    · have x2 : illE f len p = nI p := by unfold illE; rw [if_neg q2, if_pos q3]
      rw [x2, if_neg (nI_nm (by omega))]
      exact oif_n (by rw [l20, nI_leI (by omega) (by omega)]; omega) rfl
    refine oif_p (by rw [l20, nI_leI (by omega) (by omega)]; omega) ?_
    by_cases q4 : p + 1 + f p < len
    · refine oif_p (by rw [nI_ltI (by omega) (by omega)]; omega) (obs (mK hm) ?_)
      have e := rm_eq h (e := p + 1 + f p) (by omega) 1000 (p + 1) 0 (by omega) (by omega)
      rw [show cnt f (p + 1) 0 = 0 from rfl, nI_0, Nat.add_zero] at e
      refine obs (show m_Md_isRight c (nI (100 * j + (p + 1))) (nI (100 * j + (p + 1 + f p))) τ = _ from e) ?_
      by_cases q5 : rgL f 1000 (p + 1 + f p) (p + 1) (p + 1) = 0
      · have x3 : illE f len p = nI (p + 1) := by unfold illE; rw [if_neg q2, if_neg q3, if_pos q4, if_pos q5]
        rw [x3, if_neg (nI_nm (by omega))]
        exact oif_p q5 rfl
      refine oif_n q5 (obs (mP28 hm) (obs (mr_at h q4) ?_))
      rw [e4]
      have b2 := (h.2.2.2 (p + 1 + f p) q4).1
      have bn : nx f p ≤ 400 := by unfold nx; omega
      by_cases q6 : nx f p ≤ len
      · have x4 : illE f len p = -1 := by unfold illE; rw [if_neg q2, if_neg q3, if_pos q4, if_neg q5, if_pos q6]
        rw [if_pos x4]
        refine oif_p (by rw [nI_leI (by omega) (by omega)]; omega) (obs (mK hm) (obs (show m_Md_strip c (nI (100 * j + (p + 1))) (nI (100 * j + (p + 1 + f p))) (nI k) τ = _ from spm_eq h (e := p + 1 + f p) (by omega) 1000 k (p + 1) hk5 (by omega) (by omega)) (oif_p rfl ?_)))
        have : p + 3 ≤ nx f p := by unfold nx; omega
        exact ih (nx f p) q6 (by omega)
      · have x4 : illE f len p = nI len := by unfold illE; rw [if_neg q2, if_neg q3, if_pos q4, if_neg q5, if_neg q6]
        rw [x4, if_neg (nI_nm (by omega))]
        exact oif_n (by rw [nI_leI (by omega) (by omega)]; omega) (obs (mP27 hm) (obs ((mV19 hm hj).trans (congrArg some h19)) rfl))
    · have x4 : illE f len p = nI len := by unfold illE; rw [if_neg q2, if_neg q3, if_neg q4]
      rw [x4, if_neg (nI_nm (by omega))]
      exact oif_n (by rw [nI_ltI (by omega) (by omega)]; omega) (obs (mP27 hm) (obs ((mV19 hm hj).trans (congrArg some h19)) rfl))
/-- the files of an unpack: all else is as it was -/
theorem RN_fi {b c np nw nk nt nl nf nf' : Nat} {σ τ σ' τ' : fr_S} (h : RN b c np nw nk nt nl nf σ τ) (x1 : ∀ f a, f ≠ 132 → gI σ' f a = gI σ f a) (x2 : ∀ a, (a < b + 34 ∨ b + 37 < a) → gV σ' a = gV σ a) (m1 : ∀ f, f ≠ 39 → gI τ' f c = gI τ f c) (m2 : ∀ a, (a < 31 ∨ 34 < a) → gV τ' (c + a) = gV τ (c + a)) (cf : nf' ≤ 33 ∧ gI σ' 132 (b + 33) = nI nf' ∧ gI τ' 39 c = nI nf') (hf : R_f b c nf' σ' τ') : RN b c np nw nk nt nl nf' σ' τ' := by
  obtain ⟨h_c, h_g, h_h, h_p, h_b, h_w, h_k, h_t, h_l, h_f⟩ := h
  have hnk := h_c.2.2.1.1
  refine ⟨?_, ?_, ?_, ?_, ?_, ?_, ?_, ?_, ?_, hf⟩
  · obtain ⟨c1, c2, c3, c4, c5, c6⟩ := h_c
    refine ⟨⟨c1.1, ?_, ?_⟩, ⟨c2.1, ?_, ?_⟩, ⟨c3.1, ?_, ?_⟩, ⟨c4.1, ?_, ?_⟩, ⟨c5.1, ?_, ?_⟩, cf⟩
    · rw [x1 _ _ (by decide)]; exact c1.2.1
    · rw [m1 _ (by decide)]; exact c1.2.2
    · rw [x1 _ _ (by decide)]; exact c2.2.1
    · rw [m1 _ (by decide)]; exact c2.2.2
    · rw [x1 _ _ (by decide)]; exact c3.2.1
    · rw [m1 _ (by decide)]; exact c3.2.2
    · rw [x1 _ _ (by decide)]; exact c4.2.1
    · rw [m1 _ (by decide)]; exact c4.2.2
    · rw [x1 _ _ (by decide)]; exact c5.2.1
    · rw [m1 _ (by decide)]; exact c5.2.2
  · refine ⟨?_, ?_, ?_⟩
    · rw [x1 _ _ (by decide), m1 _ (by decide)]; exact h_g.1
    · rw [x1 _ _ (by decide), m1 _ (by decide)]; exact h_g.2.1
    · rw [x1 _ _ (by decide), m1 _ (by decide)]; exact h_g.2.2
  · refine ⟨fun i hi => ?_, fun i hi => ?_⟩
    · rw [x2 _ (by omega), m2 _ (by decide)]; exact h_h.1 i hi
    · rw [x2 _ (by omega), m2 _ (by decide)]; exact h_h.2 i hi
  · intro i hi
    rw [x1 193 _ (by decide), x1 194 _ (by decide), x1 195 _ (by decide), x1 196 _ (by decide), x1 197 _ (by decide), x1 198 _ (by decide), x1 199 _ (by decide), x1 200 _ (by decide), x1 201 _ (by decide), m2 3 (by decide), m2 4 (by decide), m2 6 (by decide), m2 7 (by decide), m2 8 (by decide), m2 10 (by decide), m2 11 (by decide), m2 12 (by decide), m2 13 (by decide)]
    exact h_p i hi
  · intro i hi
    have g := h_b i hi
    refine ⟨?_, fun m k e hm hk => ?_⟩
    · rw [x1 _ _ (by decide), m2 5 (by decide)]; exact g.1
    · rw [m2 5 (by decide)] at e
      rw [x2 _ (by omega), m2 9 (by decide)]
      exact g.2 m k e hm hk
  · intro i hi
    obtain ⟨g1, g2, g3, g4, g5, g6, g7, g8⟩ := h_w i hi
    have q17 := congrFun (m2 17 (by decide)) i
    refine ⟨?_, ?_, ?_, ?_, fun m k em hm hk => ?_, fun z => ?_, fun z => ?_, fun z => ?_⟩
    · rw [x1 _ _ (by decide), m2 14 (by decide)]; exact g1
    · rw [x1 _ _ (by decide), m2 15 (by decide)]; exact g2
    · rw [x1 _ _ (by decide), q17]; exact g3
    · rw [x1 _ _ (by decide), m2 22 (by decide)]; exact g4
    · rw [m2 15 (by decide)] at em
      rw [x2 _ (by omega), m2 16 (by decide)]
      exact g5 m k em hm hk
    · rw [q17] at z
      rw [x1 453 _ (by decide), x1 454 _ (by decide), m2 18 (by decide), m2 23 (by decide)]
      exact g6 z
    · rw [q17] at z
      rw [x1 _ _ (by decide), m2 21 (by decide)]
      exact g7 z
    · rw [q17] at z
      have g8 := g8 z
      refine ⟨?_, fun m k em hm hk => ?_⟩
      · rw [x1 _ _ (by decide), m2 19 (by decide)]; exact g8.1
      · rw [m2 19 (by decide)] at em
        rw [x2 _ (by omega), m2 20 (by decide)]
        exact g8.2 m k em hm hk
  · intro i hi
    obtain ⟨g1, g2⟩ := h_k i hi
    refine ⟨?_, ?_, fun m k e hm hk => ?_⟩
    · rw [x2 _ (by omega), m2 24 (by decide)]; exact g1
    · rw [x1 _ _ (by decide), m2 25 (by decide)]; exact g2.1
    · rw [m2 25 (by decide)] at e
      rw [x2 _ (by omega), m2 26 (by decide)]
      exact g2.2 m k e hm hk
  · intro i hi
    rw [x2 _ (by omega), x2 _ (by omega), x2 _ (by omega), m2 27 (by decide), m2 28 (by decide), m2 29 (by decide)]
    exact h_t i hi
  · intro i hi
    rw [x2 _ (by omega), m2 30 (by decide)]
    exact h_l i hi
theorem CR_mk {σ σ' : fr_S} {r v len : Nat} {f : Nat → Nat} (h : CR σ r v len f) (hs : RowAt σ' r v) (e1 : gI σ' 257 r = gI σ 257 r) (e2 : gV σ' v = gV σ v) : CR σ' r v len f := ⟨hs, e1.trans h.2.1, h.2.2.1, fun k hk => ⟨(h.2.2.2 k hk).1, by rw [e2]; exact (h.2.2.2 k hk).2⟩⟩
theorem MR_mk {c j len : Nat} {τ τ' : fr_S} {f : Nat → Nat} (h : MR c j τ len f) (hm : Sm c τ') (e : gV τ' (c + 20) = gV τ (c + 20)) : MR c j τ' len f := ⟨hm, h.2.1, h.2.2.1, fun k hk => ⟨(h.2.2.2 k hk).1, by rw [e]; exact (h.2.2.2 k hk).2⟩⟩
theorem hs_eq {σ : fr_S} {r v len a a' q : Nat} {f : Nat → Nat} (h : CR σ r v len f) (ha : a + q ≤ len) (ha' : a' + q ≤ len) : ∀ (n k : Nat), k ≤ q → q - k < n → (∀ t, t < k → f (a + t) = f (a' + t)) → ∃ x, m_Row_hasSame_L3 n r (nI a) (nI a') (nI q) (nI k) σ = some x ∧ ((x = 1 ∧ ∀ t, t < q → f (a + t) = f (a' + t)) ∨ (x = 0 ∧ ∃ t, t < q ∧ f (a + t) ≠ f (a' + t))) := by
  have hk0 := h.1.1
  have hl := h.2.2.1
  intro n
  induction n with
  | zero => intro k _ h; omega
  | succ n ih =>
    intro k hk hn ho
    unfold m_Row_hasSame_L3
    by_cases q1 : q ≤ k
    · exact ⟨1, oif_p (by rw [nI_leI (by omega) (by omega)]; exact q1) rfl, Or.inl ⟨rfl, fun t ht => ho t (by omega)⟩⟩
    · have b1 := (h.2.2.2 (a + k) (by omega)).1
      have b2 := (h.2.2.2 (a' + k) (by omega)).1
      by_cases e : f (a + k) = f (a' + k)
      · obtain ⟨x, ex, hx⟩ := ih (k + 1) (by omega) (by omega) (fun t ht => by
          by_cases et : t = k
          · rw [et]; exact e
          · exact ho t (by omega))
        refine ⟨x, oif_n (by rw [nI_leI (by omega) (by omega)]; exact q1) ?_, hx⟩
        rw [nI_add, nI_add]
        refine obs (oK_k hk0) (obs (cr_at h (by omega)) (obs (oK_k hk0) (obs (cr_at h (by omega)) (oif_p (by rw [e]) ?_))))
        rw [nI_1]
        exact ex
      · refine ⟨0, oif_n (by rw [nI_leI (by omega) (by omega)]; exact q1) ?_, Or.inr ⟨rfl, k, by omega, e⟩⟩
        rw [nI_add, nI_add]
        exact obs (oK_k hk0) (obs (cr_at h (by omega)) (obs (oK_k hk0) (obs (cr_at h (by omega)) (oif_n (fun z => e (nI_inj (by omega) (by omega) z)) rfl))))
theorem sp0 {c : Nat} {τ : fr_S} {y1 y2 y3 y6 : Int32} {n : Nat} : m_Md_isSamePath_L16 (n + 1) c y1 y2 y3 0 y6 τ = some 0 := by
  unfold m_Md_isSamePath_L16
  have z : oZ 0 = some () := if_pos (Or.inl rfl)
  by_cases q : y2 ≤ y6
  · exact oif_p q (obs z rfl)
  · exact oif_n q (oif_p rfl (obs z rfl))
theorem ps_L {c j len a a' q : Nat} {τ : fr_S} {f : Nat → Nat} (h : MR c j τ len f) (ha : a + q ≤ len) (ha' : a' + q ≤ len) : ∀ (n k : Nat), k ≤ q → q - k + 1 < n → (∀ t, t < k → f (a + t) = f (a' + t)) → ∃ x, m_Md_isSamePath_L16 n c (nI (100 * j + a)) (nI q) (nI (100 * j + a')) 1 (nI k) τ = some x ∧ ((x = 1 ∧ ∀ t, t < q → f (a + t) = f (a' + t)) ∨ (x = 0 ∧ ∃ t, t < q ∧ f (a + t) ≠ f (a' + t))) := by
  have hm := h.1
  have hj := h.2.1
  have hl := h.2.2.1
  intro n
  induction n with
  | zero => intro k _ h; omega
  | succ n ih =>
    intro k hk hn ho
    by_cases q1 : q ≤ k
    · refine ⟨1, ?_, Or.inl ⟨rfl, fun t ht => ho t (by omega)⟩⟩
      unfold m_Md_isSamePath_L16
      exact oif_p (by rw [nI_leI (by omega) (by omega)]; exact q1) (obs (show oZ 1 = some () from if_pos (Or.inr rfl)) rfl)
    · have b1 := (h.2.2.2 (a + k) (by omega)).1
      have b2 := (h.2.2.2 (a' + k) (by omega)).1
      have e1 : nI (100 * j + a) + nI k = nI (100 * j + (a + k)) := by rw [nI_add]; congr 1; omega
      have e2 : nI (100 * j + a') + nI k = nI (100 * j + (a' + k)) := by rw [nI_add]; congr 1; omega
      by_cases e : f (a + k) = f (a' + k)
      · obtain ⟨x, ex, hx⟩ := ih (k + 1) (by omega) (by omega) (fun t ht => by
          by_cases et : t = k
          · rw [et]; exact e
          · exact ho t (by omega))
        refine ⟨x, ?_, hx⟩
        unfold m_Md_isSamePath_L16
        refine oif_n (by rw [nI_leI (by omega) (by omega)]; exact q1) (oif_n (by decide) ?_)
        rw [e1, e2]
        refine obs (mP28 hm) (obs (mr_at h (by omega)) (obs (mP28 hm) (obs (mr_at h (by omega)) (oif_p (by rw [e]) ?_))))
        rw [nI_1]
        exact ex
      · refine ⟨0, ?_, Or.inr ⟨rfl, k, by omega, e⟩⟩
        unfold m_Md_isSamePath_L16
        refine oif_n (by rw [nI_leI (by omega) (by omega)]; exact q1) (oif_n (by decide) ?_)
        rw [e1, e2]
        refine obs (mP28 hm) (obs (mr_at h (by omega)) (obs (mP28 hm) (obs (mr_at h (by omega)) (oif_n (fun z => e (nI_inj (by omega) (by omega) z)) ?_))))
        obtain ⟨n', rfl⟩ : ∃ n', n = n' + 1 := ⟨n - 1, by omega⟩
        exact sp0
/-- what the reference does with the file that it found -/
def pT (c : Nat) (y1 y2 y3 y4 y5 y6 : Int32) (σ : fr_S) : Option fr_S :=
  (oI σ 0 39 c).bind fun v3 =>
  if y6 = v3 then
    (oP σ 0 42 c).bind fun q9 => (sV σ 0 q9 y6 (y2 - y1)).bind fun σ_10 => (oP σ_10 0 43 c).bind fun q11 => (sV σ_10 0 q11 y6 (y3 - y2)).bind fun σ_12 => (oI σ_12 0 39 c).bind fun v13 => (sI σ_12 0 39 c (v13 + 1)).bind fun σ_14 => (oP σ_14 0 40 c).bind fun q15 => (sV σ_14 0 q15 y6 (y4 - y1)).bind fun σ_16 => (oP σ_16 0 41 c).bind fun q17 => (sV σ_16 0 q17 y6 y5).bind fun σ_18 => some σ_18
  else
    (oP σ 0 40 c).bind fun q5 => (sV σ 0 q5 y6 (y4 - y1)).bind fun σ_6 => (oP σ_6 0 41 c).bind fun q7 => (sV σ_6 0 q7 y6 y5).bind fun σ_8 => some σ_8
def FO (c len nf : Nat) (τ : fr_S) : Prop := ∀ i, i < nf → ∃ a q, a + q ≤ len ∧ gV τ (c + 33) i = nI a ∧ gV τ (c + 34) i = nI q
theorem r_find {b c np nw nk nt nl nf j len s e : Nat} {σ τ : fr_S} {f : Nat → Nat} (hs : Sx b σ) (hR : RN b c np nw nk nt nl nf σ τ) (hC : CR σ (b + 87 + 4 * j) (b + 88 + 4 * j) len f) (hM : MR c j τ len f) (hF : FO c len nf τ) (hse : s ≤ e) (he : e ≤ len) (y4 y5 : Int32) : ∀ (n k : Nat), k ≤ nf → nf - k < n → ∃ i, i ≤ nf ∧ m_Files_findPath_L3 n (b + 33) (b + 87 + 4 * j) (nI s) (nI (e - s)) (nI k) σ = some (nI i) ∧ m_Md_putFile_L3 n c (nI (100 * j)) (nI (100 * j + s)) (nI (100 * j + e)) y4 y5 (nI k) τ = pT c (nI (100 * j)) (nI (100 * j + s)) (nI (100 * j + e)) y4 y5 (nI i) τ := by
  have hm := hM.1
  have hj := hM.2.1
  have hl := hM.2.2.1
  have hf := hR.1.2.2.2.2.2
  have hT := hs.1.2.2.2.2.2.2.2.2
  have hRf := hR.2.2.2.2.2.2.2.2.2
  intro n
  induction n with
  | zero => intro k _ h; omega
  | succ n ih =>
    intro k hk hn
    by_cases q1 : nf ≤ k
    · have : k = nf := by omega
      subst this
      refine ⟨k, by omega, ?_, ?_⟩
      · unfold m_Files_findPath_L3
        exact obs ((oI_k hT.2.1).trans (congrArg some hf.2.1)) (oif_p (Int32.le_refl _) (obs ((oI_k hT.2.1).trans (congrArg some hf.2.1)) rfl))
      · unfold m_Md_putFile_L3 pT
        exact obs ((mI hm).trans (congrArg some hf.2.2)) (oif_p (Int32.le_refl _) rfl)
    · obtain ⟨a, q, haq, ea, eq⟩ := hF k (by omega)
      obtain ⟨g1, g2, g3, g4⟩ := hRf k (by omega)
      have nle : ¬ nI nf ≤ nI k := by rw [nI_leI (by omega) (by omega)]; exact q1
      have c131 : oV σ 0 (b + 37) (nI k) = some (nI q) := (oV_nI (n := 33) hT.2.2.2.2.2.2.2.2.2 (by omega) (by decide)).trans (congrArg some (g4.trans eq))
      have c130 : oV σ 0 (b + 36) (nI k) = some (nI a) := (oV_nI (n := 33) hT.2.2.2.2.2.2.2.1 (by omega) (by decide)).trans (congrArg some (g3.trans ea))
      have e0 : nI (100 * j + e) - nI (100 * j + s) = nI (e - s) := by rw [pk_sub (by omega)]; congr 1; omega
      have e1 : nI (100 * j) + nI a = nI (100 * j + a) := nI_add _ _
      obtain ⟨i, hi, E, E'⟩ := ih (k + 1) (by omega) (by omega)
      have skipM : m_Md_isSamePath c (nI (100 * j + a)) (nI q) (nI (100 * j + s)) (nI (e - s)) τ = some 0 → m_Md_putFile_L3 (n + 1) c (nI (100 * j)) (nI (100 * j + s)) (nI (100 * j + e)) y4 y5 (nI k) τ = pT c (nI (100 * j)) (nI (100 * j + s)) (nI (100 * j + e)) y4 y5 (nI i) τ := by
        intro hsame
        unfold m_Md_putFile_L3
        refine obs ((mI hm).trans (congrArg some hf.2.2)) (oif_n nle (obs (mP42 hm) (obs ((mV33 hm (by omega)).trans (congrArg some ea)) (obs (mP43 hm) (obs ((mV34 hm (by omega)).trans (congrArg some eq)) (obs (mK hm) ?_))))))
        rw [e0, e1, nI_1]
        exact obs hsame (oif_p rfl E')
      by_cases q2 : q = e - s
      · have hsl : s + q ≤ len := by omega
        obtain ⟨x, ex, hx⟩ := hs_eq hC haq hsl 1000 0 (by omega) (by omega) (fun t ht => by omega)
        obtain ⟨x', ex', hx'⟩ := ps_L hM haq hsl 1000 0 (by omega) (by omega) (fun t ht => by omega)
        rw [nI_0] at ex ex'
        have exM : m_Md_isSamePath c (nI (100 * j + a)) (nI q) (nI (100 * j + s)) (nI (e - s)) τ = some x' := by
          unfold m_Md_isSamePath
          exact oif_p (by rw [q2]) ex'
        have exC : m_Row_hasSame (b + 87 + 4 * j) (nI a) (nI s) (nI (e - s)) σ = some x := by rw [← q2]; exact ex
        rcases hx with ⟨rfl, hx⟩ | ⟨rfl, t, ht, hx⟩
        · rcases hx' with ⟨rfl, hx'⟩ | ⟨rfl, t, ht, hx'⟩
          · refine ⟨k, by omega, ?_, ?_⟩
            · unfold m_Files_findPath_L3
              exact obs ((oI_k hT.2.1).trans (congrArg some hf.2.1)) (oif_n nle (obs (oP_g hT.2.1 hT.2.2.2.2.2.2.2.2.1) (obs c131 (oif_p (by rw [q2]) (obs (oP_g hT.2.1 hT.2.2.2.2.2.2.1) (obs c130 (obs (oK_k hC.1.1) (obs exC (oif_n (by decide) rfl)))))))))
            · unfold m_Md_putFile_L3 pT
              refine obs ((mI hm).trans (congrArg some hf.2.2)) (oif_n nle (obs (mP42 hm) (obs ((mV33 hm (by omega)).trans (congrArg some ea)) (obs (mP43 hm) (obs ((mV34 hm (by omega)).trans (congrArg some eq)) (obs (mK hm) ?_))))))
              rw [e1]
              refine obs (show m_Md_isSamePath c (nI (100 * j + a)) (nI q) (nI (100 * j + s)) (nI (100 * j + e) - nI (100 * j + s)) τ = some 1 by rw [e0]; exact exM) (oif_n (by decide) rfl)
          · exact absurd (hx t ht) hx'
        · rcases hx' with ⟨rfl, hx'⟩ | ⟨rfl, hx'⟩
          · exact absurd (hx' t ht) hx
          · refine ⟨i, hi, ?_, skipM exM⟩
            unfold m_Files_findPath_L3
            rw [nI_1]
            exact obs ((oI_k hT.2.1).trans (congrArg some hf.2.1)) (oif_n nle (obs (oP_g hT.2.1 hT.2.2.2.2.2.2.2.2.1) (obs c131 (oif_p (by rw [q2]) (obs (oP_g hT.2.1 hT.2.2.2.2.2.2.1) (obs c130 (obs (oK_k hC.1.1) (obs exC (oif_p rfl E)))))))))
      · have nq : ¬ nI q = nI (e - s) := fun z => q2 (nI_inj (by omega) (by omega) z)
        refine ⟨i, hi, ?_, skipM ?_⟩
        · unfold m_Files_findPath_L3
          rw [nI_1]
          exact obs ((oI_k hT.2.1).trans (congrArg some hf.2.1)) (oif_n nle (obs (oP_g hT.2.1 hT.2.2.2.2.2.2.2.2.1) (obs c131 (oif_n nq E))))
        · unfold m_Md_isSamePath
          exact oif_n nq sp0
/-- a file put: on both sides the same one -/
theorem r_put {b c np nw nk nt nl nf j len s e : Nat} {σ τ : fr_S} {f : Nat → Nat} (hs : Sx b σ) (hR : RN b c np nw nk nt nl nf σ τ) (hC : CR σ (b + 87 + 4 * j) (b + 88 + 4 * j) len f) (hM : MR c j τ len f) (hF : FO c len nf τ) (hse : s ≤ e) (he : e < len) (hnf : nf < 33) : ∃ σ' τ' nf', m_Files_put (b + 33) (b + 87 + 4 * j) (nI s) (nI e) σ = some σ' ∧ m_Md_putFile c (nI (100 * j)) (nI (100 * j + s)) (nI (100 * j + e)) (nI (100 * j + (e + 1))) (nI (f e)) τ = some τ' ∧ nf' ≤ nf + 1 ∧ Sx b σ' ∧ RN b c np nw nk nt nl nf' σ' τ' ∧ CR σ' (b + 87 + 4 * j) (b + 88 + 4 * j) len f ∧ MR c j τ' len f ∧ FO c len nf' τ' ∧ gV τ' (c + 19) = gV τ (c + 19) := by
  have hm := hM.1
  have hj := hM.2.1
  have hl := hM.2.2.1
  have hf := hR.1.2.2.2.2.2
  have hT := hs.1.2.2.2.2.2.2.2.2
  have hRf := hR.2.2.2.2.2.2.2.2.2
  obtain ⟨i, hi, E, E'⟩ := r_find hs hR hC hM hF hse (by omega) (nI (100 * j + (e + 1))) (nI (f e)) 1000 0 (by omega) (by omega)
  rw [nI_0] at E E'
  have e33 : (33 : Int32) = nI 33 := by decide +kernel
  have d1 : nI (100 * j + s) - nI (100 * j) = nI s := by rw [pk_sub (by omega)]; congr 1; omega
  have d2 : nI (100 * j + e) - nI (100 * j + s) = nI (e - s) := by rw [pk_sub (by omega)]; congr 1; omega
  have d3 : nI (100 * j + (e + 1)) - nI (100 * j) = nI (e + 1) := by rw [pk_sub (by omega)]; congr 1; omega
  have i33 : i < 33 := by omega
  by_cases q : i = nf
  · subst q
    let σ1 := pA σ (b + 36) (upd (gV σ (b + 36)) i (nI s))
    let σ2 := pA σ1 (b + 37) (upd (gV σ1 (b + 37)) i (nI (e - s)))
    let σ3 := pI σ2 132 (b + 33) (nI (i + 1))
    let σ4 := pA σ3 (b + 34) (upd (gV σ3 (b + 34)) i (nI (e + 1)))
    let σ5 := pA σ4 (b + 35) (upd (gV σ4 (b + 35)) i (nI (f e)))
    let τ1 := pA τ (c + 33) (upd (gV τ (c + 33)) i (nI s))
    let τ2 := pA τ1 (c + 34) (upd (gV τ1 (c + 34)) i (nI (e - s)))
    let τ3 := pI τ2 39 c (nI (i + 1))
    let τ4 := pA τ3 (c + 31) (upd (gV τ3 (c + 31)) i (nI (e + 1)))
    let τ5 := pA τ4 (c + 32) (upd (gV τ4 (c + 32)) i (nI (f e)))
    have s1 : Sx b σ1 := hs
    have s3 : Sx b σ3 := hs
    have s4 : Sx b σ4 := hs
    have t1 : Sm c τ1 := hm
    have t2 : Sm c τ2 := hm
    have t3 : Sm c τ3 := hm
    have t4 : Sm c τ4 := hm
    have t5 : Sm c τ5 := hm
    have v34 : gV σ5 (b + 34) = upd (gV σ (b + 34)) i (nI (e + 1)) := by
      show gV (pA σ4 (b + 35) _) (b + 34) = _
      rw [gV_pAn (by omega)]
      show gV (pA σ3 (b + 34) _) (b + 34) = _
      rw [gV_pAs]
      show upd (gV (pA σ1 (b + 37) _) (b + 34)) i (nI (e + 1)) = _
      rw [gV_pAn (by omega)]
      show upd (gV (pA σ (b + 36) _) (b + 34)) i (nI (e + 1)) = _
      rw [gV_pAn (by omega)]
    have v35 : gV σ5 (b + 35) = upd (gV σ (b + 35)) i (nI (f e)) := by
      show gV (pA σ4 (b + 35) _) (b + 35) = _
      rw [gV_pAs]
      show upd (gV (pA σ3 (b + 34) _) (b + 35)) i (nI (f e)) = _
      rw [gV_pAn (by omega)]
      show upd (gV (pA σ1 (b + 37) _) (b + 35)) i (nI (f e)) = _
      rw [gV_pAn (by omega)]
      show upd (gV (pA σ (b + 36) _) (b + 35)) i (nI (f e)) = _
      rw [gV_pAn (by omega)]
    have v36 : gV σ5 (b + 36) = upd (gV σ (b + 36)) i (nI s) := by
      show gV (pA σ4 (b + 35) _) (b + 36) = _
      rw [gV_pAn (by omega)]
      show gV (pA σ3 (b + 34) _) (b + 36) = _
      rw [gV_pAn (by omega)]
      show gV (pA σ1 (b + 37) _) (b + 36) = _
      rw [gV_pAn (by omega)]
      show gV (pA σ (b + 36) _) (b + 36) = _
      rw [gV_pAs]
    have v37 : gV σ5 (b + 37) = upd (gV σ (b + 37)) i (nI (e - s)) := by
      show gV (pA σ4 (b + 35) _) (b + 37) = _
      rw [gV_pAn (by omega)]
      show gV (pA σ3 (b + 34) _) (b + 37) = _
      rw [gV_pAn (by omega)]
      show gV (pA σ1 (b + 37) _) (b + 37) = _
      rw [gV_pAs]
      show upd (gV (pA σ (b + 36) _) (b + 37)) i (nI (e - s)) = _
      rw [gV_pAn (by omega)]
    have vo : ∀ a, (a < b + 34 ∨ b + 37 < a) → gV σ5 a = gV σ a := by
      intro a ha
      show gV (pA σ4 (b + 35) _) a = _
      rw [gV_pAn (by omega)]
      show gV (pA σ3 (b + 34) _) a = _
      rw [gV_pAn (by omega)]
      show gV (pA σ1 (b + 37) _) a = _
      rw [gV_pAn (by omega)]
      show gV (pA σ (b + 36) _) a = _
      rw [gV_pAn (by omega)]
    have vi : ∀ g a, g ≠ 132 → gI σ5 g a = gI σ g a := fun g a hg => gI_pIf (σ := σ2) hg
    have vc : gI σ5 132 (b + 33) = nI (i + 1) := gI_pIs (σ := σ2)
    have u31 : gV τ5 (c + 31) = upd (gV τ (c + 31)) i (nI (e + 1)) := by
      show gV (pA τ4 (c + 32) _) (c + 31) = _
      rw [gV_pAn (by omega)]
      show gV (pA τ3 (c + 31) _) (c + 31) = _
      rw [gV_pAs]
      show upd (gV (pA τ1 (c + 34) _) (c + 31)) i (nI (e + 1)) = _
      rw [gV_pAn (by omega)]
      show upd (gV (pA τ (c + 33) _) (c + 31)) i (nI (e + 1)) = _
      rw [gV_pAn (by omega)]
    have u32 : gV τ5 (c + 32) = upd (gV τ (c + 32)) i (nI (f e)) := by
      show gV (pA τ4 (c + 32) _) (c + 32) = _
      rw [gV_pAs]
      show upd (gV (pA τ3 (c + 31) _) (c + 32)) i (nI (f e)) = _
      rw [gV_pAn (by omega)]
      show upd (gV (pA τ1 (c + 34) _) (c + 32)) i (nI (f e)) = _
      rw [gV_pAn (by omega)]
      show upd (gV (pA τ (c + 33) _) (c + 32)) i (nI (f e)) = _
      rw [gV_pAn (by omega)]
    have u33 : gV τ5 (c + 33) = upd (gV τ (c + 33)) i (nI s) := by
      show gV (pA τ4 (c + 32) _) (c + 33) = _
      rw [gV_pAn (by omega)]
      show gV (pA τ3 (c + 31) _) (c + 33) = _
      rw [gV_pAn (by omega)]
      show gV (pA τ1 (c + 34) _) (c + 33) = _
      rw [gV_pAn (by omega)]
      show gV (pA τ (c + 33) _) (c + 33) = _
      rw [gV_pAs]
    have u34 : gV τ5 (c + 34) = upd (gV τ (c + 34)) i (nI (e - s)) := by
      show gV (pA τ4 (c + 32) _) (c + 34) = _
      rw [gV_pAn (by omega)]
      show gV (pA τ3 (c + 31) _) (c + 34) = _
      rw [gV_pAn (by omega)]
      show gV (pA τ1 (c + 34) _) (c + 34) = _
      rw [gV_pAs]
      show upd (gV (pA τ (c + 33) _) (c + 34)) i (nI (e - s)) = _
      rw [gV_pAn (by omega)]
    have uo : ∀ a, (a < 31 ∨ 34 < a) → gV τ5 (c + a) = gV τ (c + a) := by
      intro a ha
      show gV (pA τ4 (c + 32) _) (c + a) = _
      rw [gV_pAn (by omega)]
      show gV (pA τ3 (c + 31) _) (c + a) = _
      rw [gV_pAn (by omega)]
      show gV (pA τ1 (c + 34) _) (c + a) = _
      rw [gV_pAn (by omega)]
      show gV (pA τ (c + 33) _) (c + a) = _
      rw [gV_pAn (by omega)]
    have ui : ∀ g, g ≠ 39 → gI τ5 g c = gI τ g c := fun g hg => gI_pIf (σ := τ2) hg
    have uc : gI τ5 39 c = nI (i + 1) := gI_pIs (σ := τ2)
    have cr4 : CR σ4 (b + 87 + 4 * j) (b + 88 + 4 * j) len f := by
      refine CR_mk hC hC.1 (show gI (pI σ2 132 (b + 33) (nI (i + 1))) 257 (b + 87 + 4 * j) = gI σ2 257 (b + 87 + 4 * j) from gI_pIf (by decide)) ?_
      show gV (pA σ3 (b + 34) _) (b + 88 + 4 * j) = _
      rw [gV_pAn (by omega)]
      show gV (pA σ1 (b + 37) _) (b + 88 + 4 * j) = _
      rw [gV_pAn (by omega)]
      show gV (pA σ (b + 36) _) (b + 88 + 4 * j) = _
      rw [gV_pAn (by omega)]
    refine ⟨σ5, τ5, i + 1, ?_, ?_, by omega, hs, ?_, CR_mk hC hC.1 (vi 257 _ (by decide)) (vo _ (by omega)), MR_mk hM t5 (uo 20 (by decide)), fun k hk => ?_, uo 19 (by decide)⟩
    · unfold m_Files_put
      rw [pk_sub hse]
      refine obs (oK_k hT.2.1) (obs (show m_Files_findPath (b + 33) (b + 87 + 4 * j) (nI s) (nI (e - s)) σ = some (nI i) from E) (oif_p (by rw [e33, nI_ltI (by omega) (by omega)]; exact i33) (obs ((oI_k hT.2.1).trans (congrArg some hf.2.1)) (oif_p rfl ?_))))
      refine obs (oP_g hT.2.1 hT.2.2.2.2.2.2.1) (obs (sV_nI (n := 33) hT.2.2.2.2.2.2.2.1 i33 (by decide)) ?_)
      refine obs (oP_g (σ := σ1) hT.2.1 hT.2.2.2.2.2.2.2.2.1) (obs (sV_nI (σ := σ1) (n := 33) hT.2.2.2.2.2.2.2.2.2 i33 (by decide)) ?_)
      refine obs (Eq.trans (oI_k (σ := σ2) hT.2.1) (congrArg some (show gI σ2 132 (b + 33) = nI i from hf.2.1))) ?_
      rw [nI_1, nI_1]
      refine obs (sI_k (σ := σ2) hT.2.1) ?_
      refine obs (oP_g (σ := σ3) hT.2.1 hT.2.2.1) (obs (sV_nI (σ := σ3) (n := 33) hT.2.2.2.1 i33 (by decide)) ?_)
      exact obs (oP_g (σ := σ4) hT.2.1 hT.2.2.2.2.1) (obs (oK_k (σ := σ4) hC.1.1) (obs (cr_at cr4 he) (obs (sV_nI (σ := σ4) (n := 33) hT.2.2.2.2.2.1 i33 (by decide)) rfl)))
    · unfold m_Md_putFile
      rw [E']
      unfold pT
      rw [d1, d2, d3]
      refine obs ((mI hm).trans (congrArg some hf.2.2)) (oif_p rfl ?_)
      refine obs (mP42 hm) (obs (mS33 hm (by omega)) (obs (mP43 t1) (obs (mS34 t1 (by omega)) ?_)))
      refine obs (Eq.trans (mI t2) (congrArg some (show gI τ2 39 c = nI i from hf.2.2))) ?_
      rw [nI_1]
      exact obs (mSI t2) (obs (mP40 t3) (obs (mS31 t3 (by omega)) (obs (mP41 t4) (obs (mS32 t4 (by omega)) rfl))))
    · refine RN_fi hR vi vo ui uo ⟨by omega, vc, uc⟩ (fun k hk => ?_)
      rw [v34, v35, v36, v37, u31, u32, u33, u34]
      by_cases ek : k = i
      · rw [ek, upd_s, upd_s, upd_s, upd_s, upd_s, upd_s, upd_s, upd_s]
        exact ⟨rfl, rfl, rfl, rfl⟩
      · rw [upd_n ek, upd_n ek, upd_n ek, upd_n ek, upd_n ek, upd_n ek, upd_n ek, upd_n ek]
        exact hRf k (by omega)
    · rw [u33, u34]
      by_cases ek : k = i
      · rw [ek, upd_s, upd_s]
        exact ⟨s, e - s, by omega, rfl, rfl⟩
      · rw [upd_n ek, upd_n ek]
        exact hF k (by omega)
  · have hne : ¬ nI i = nI nf := fun z => q (nI_inj (by omega) (by omega) z)
    let σ1 := pA σ (b + 34) (upd (gV σ (b + 34)) i (nI (e + 1)))
    let σ2 := pA σ1 (b + 35) (upd (gV σ1 (b + 35)) i (nI (f e)))
    let τ1 := pA τ (c + 31) (upd (gV τ (c + 31)) i (nI (e + 1)))
    let τ2 := pA τ1 (c + 32) (upd (gV τ1 (c + 32)) i (nI (f e)))
    have t1 : Sm c τ1 := hm
    have t2 : Sm c τ2 := hm
    have v34 : gV σ2 (b + 34) = upd (gV σ (b + 34)) i (nI (e + 1)) := by
      show gV (pA σ1 (b + 35) _) (b + 34) = _
      rw [gV_pAn (by omega)]
      show gV (pA σ (b + 34) _) (b + 34) = _
      rw [gV_pAs]
    have v35 : gV σ2 (b + 35) = upd (gV σ (b + 35)) i (nI (f e)) := by
      show gV (pA σ1 (b + 35) _) (b + 35) = _
      rw [gV_pAs]
      show upd (gV (pA σ (b + 34) _) (b + 35)) i (nI (f e)) = _
      rw [gV_pAn (by omega)]
    have vo : ∀ a, a ≠ b + 34 → a ≠ b + 35 → gV σ2 a = gV σ a := by
      intro a a1 a2
      show gV (pA σ1 (b + 35) _) a = _
      rw [gV_pAn a2]
      show gV (pA σ (b + 34) _) a = _
      rw [gV_pAn a1]
    have u31 : gV τ2 (c + 31) = upd (gV τ (c + 31)) i (nI (e + 1)) := by
      show gV (pA τ1 (c + 32) _) (c + 31) = _
      rw [gV_pAn (by omega)]
      show gV (pA τ (c + 31) _) (c + 31) = _
      rw [gV_pAs]
    have u32 : gV τ2 (c + 32) = upd (gV τ (c + 32)) i (nI (f e)) := by
      show gV (pA τ1 (c + 32) _) (c + 32) = _
      rw [gV_pAs]
      show upd (gV (pA τ (c + 31) _) (c + 32)) i (nI (f e)) = _
      rw [gV_pAn (by omega)]
    have uo : ∀ a, a ≠ 31 → a ≠ 32 → gV τ2 (c + a) = gV τ (c + a) := by
      intro a a1 a2
      show gV (pA τ1 (c + 32) _) (c + a) = _
      rw [gV_pAn (by omega)]
      show gV (pA τ (c + 31) _) (c + a) = _
      rw [gV_pAn (by omega)]
    have cr1 : CR σ1 (b + 87 + 4 * j) (b + 88 + 4 * j) len f := CR_mk hC hC.1 rfl (gV_pAn (by omega))
    refine ⟨σ2, τ2, nf, ?_, ?_, by omega, hs, ?_, CR_mk hC hC.1 rfl (vo _ (by omega) (by omega)), MR_mk hM t2 (uo 20 (by decide) (by decide)), fun k hk => ?_, uo 19 (by decide) (by decide)⟩
    · unfold m_Files_put
      rw [pk_sub hse]
      refine obs (oK_k hT.2.1) (obs (show m_Files_findPath (b + 33) (b + 87 + 4 * j) (nI s) (nI (e - s)) σ = some (nI i) from E) (oif_p (by rw [e33, nI_ltI (by omega) (by omega)]; exact i33) (obs ((oI_k hT.2.1).trans (congrArg some hf.2.1)) (oif_n hne ?_))))
      rw [nI_1]
      exact obs (oP_g hT.2.1 hT.2.2.1) (obs (sV_nI (n := 33) hT.2.2.2.1 i33 (by decide)) (obs (oP_g (σ := σ1) hT.2.1 hT.2.2.2.2.1) (obs (oK_k (σ := σ1) hC.1.1) (obs (cr_at cr1 he) (obs (sV_nI (σ := σ1) (n := 33) hT.2.2.2.2.2.1 i33 (by decide)) rfl)))))
    · unfold m_Md_putFile
      rw [E']
      unfold pT
      rw [d3]
      exact obs ((mI hm).trans (congrArg some hf.2.2)) (oif_n hne (obs (mP40 hm) (obs (mS31 hm (by omega)) (obs (mP41 t1) (obs (mS32 t1 (by omega)) rfl)))))
    · refine RN_fi hR (fun _ _ _ => rfl) (fun a ha => vo a (by omega) (by omega)) (fun _ _ => rfl) (fun a ha => uo a (by omega) (by omega)) ⟨hf.1, hf.2.1, hf.2.2⟩ (fun k hk => ?_)
      rw [v34, v35, u31, u32, vo (b + 36) (by omega) (by omega), vo (b + 37) (by omega) (by omega), uo 33 (by decide) (by decide), uo 34 (by decide) (by decide)]
      obtain ⟨g1, g2, g3, g4⟩ := hRf k hk
      by_cases ek : k = i
      · rw [ek, upd_s, upd_s, upd_s, upd_s]
        rw [ek] at g3 g4
        exact ⟨rfl, rfl, g3, g4⟩
      · rw [upd_n ek, upd_n ek, upd_n ek, upd_n ek]
        exact ⟨g1, g2, g3, g4⟩
    · rw [uo 33 (by decide) (by decide), uo 34 (by decide) (by decide)]
      exact hF k hk
theorem r_fill_L {b c np nw nk nt nl j len k : Nat} {f : Nat → Nat} (hk5 : k ≤ 5) : ∀ (n p seen nf : Nat) (σ τ : fr_S), illL f len n p = -1 → Sx b σ → RN b c np nw nk nt nl nf σ τ → CR σ (b + 87 + 4 * j) (b + 88 + 4 * j) len f → MR c j τ len f → FO c len nf τ → nf ≤ seen → 3 * seen ≤ p → p ≤ len → len - p < n → rel (m_Files_fill_L10 n (b + 33) (b + 87 + 4 * j) (nI k) (nI p) (nI seen) σ) (m_Md_read_L21 n c (nI j) (nI k) 1 (nI (100 * j)) (nI (100 * j + len)) (nI (100 * j + p)) τ) (fun σ' q => ∃ nf', RN b c np nw nk nt nl nf' σ' q.2 ∧ Sx b σ' ∧ Sm c q.2) := by
  intro n
  induction n with
  | zero => intro p seen nf σ τ _ _ _ _ _ _ _ _ _ h; omega
  | succ n ih =>
    intro p seen nf σ τ hill hs hR hC hM hF hnf hsp hp hn
    have hm := hM.1
    have hj := hM.2.1
    have hl := hM.2.2.1
    have hk := hC.1.1
    have hT := hs.1.2.2.2.2.2.2.2.2
    have e33 : (33 : Int32) = nI 33 := by decide +kernel
    have l20 : (20 : Int32) = nI 20 := by decide +kernel
    have hlen := (oI_k (ci := 4) (f := 257) hk).trans (congrArg some hC.2.1)
    unfold m_Files_fill_L10 m_Md_read_L21
    by_cases q1 : len ≤ p
    · refine rel_rp (by rw [nI_leI (by omega) (by omega)]; omega) ?_
      refine rel_il (fun _ => rel_some ⟨nf, hR, hs, hm⟩) (fun _ => ?_)
      refine rel_l hlen ?_
      exact rel_lp (by rw [nI_leI (by omega) (by omega)]; exact q1) (rel_some ⟨nf, hR, hs, hm⟩)
    have hill2 : illE f len p = -1 ∧ illL f len n (nx f p) = -1 := by
      unfold illL at hill
      rw [if_neg q1] at hill
      by_cases q2 : illE f len p = -1
      · rw [if_pos q2] at hill
        exact ⟨q2, hill⟩
      · rw [if_neg q2] at hill
        exact absurd hill q2
    obtain ⟨o1, o2, o3, o4, o5⟩ := illE_ok hl (by omega) hill2.1
    have onx : p + 3 ≤ nx f p := by unfold nx; omega
    have b1 := (hM.2.2.2 p (by omega)).1
    have b2 := (hM.2.2.2 (p + 1 + f p) o3).1
    refine rel_ln (by rw [e33, nI_leI (by omega) (by omega)]; omega) ?_
    refine rel_l hlen ?_
    refine rel_ln (by rw [nI_leI (by omega) (by omega)]; exact q1) ?_
    refine rel_rn (by rw [nI_leI (by omega) (by omega)]; omega) ?_
    refine rel_l (pe_eq hC (by omega)) ?_
    have hsp2 := spL_le f (e := p + 1 + f p) 1000 k (p + 1) (by omega)
    rw [nI_1]
    refine rel_l (show m_Archive_strippedStart (b + 87 + 4 * j) (nI (p + 1)) (nI (p + 1 + f p)) (nI k) σ = _ from spc_eq hC (e := p + 1 + f p) (by omega) 1000 (p + 1) k (p + 1) hk5 (fun _ => rfl) (by omega) (by omega)) ?_
    refine rel_r (mP28 hm) ?_
    refine rel_r (mr_at hM (by omega)) ?_
    have e1 : nI (100 * j + p) + 1 = nI (100 * j + (p + 1)) := nI_1 _
    have e2 : nI (100 * j + (p + 1)) + nI (f p) = nI (100 * j + (p + 1 + f p)) := by rw [nI_add]; congr 1; omega
    have e3 : nI (100 * j + (p + 1 + f p)) + 1 = nI (100 * j + (p + 1 + f p + 1)) := nI_1 _
    have e4 : nI (100 * j + (p + 1 + f p + 1)) + nI (f (p + 1 + f p)) = nI (100 * j + nx f p) := by rw [nI_add]; congr 1; unfold nx; omega
    rw [e1, e2, e3]
    refine rel_rn (by rw [nI_lit1, nI_ltI (by omega) (by omega)]; omega) ?_
    refine rel_rp (by rw [l20, nI_leI (by omega) (by omega)]; omega) ?_
    refine rel_rp (by rw [nI_ltI (by omega) (by omega)]; omega) ?_
    refine rel_r (mK hm) ?_
    have e := rm_eq hM (e := p + 1 + f p) (by omega) 1000 (p + 1) 0 (by omega) (by omega)
    rw [show cnt f (p + 1) 0 = 0 from rfl, nI_0, Nat.add_zero] at e
    refine rel_r (show m_Md_isRight c (nI (100 * j + (p + 1))) (nI (100 * j + (p + 1 + f p))) τ = _ from e) ?_
    refine rel_rn o4 ?_
    refine rel_r (mP28 hm) ?_
    refine rel_r (mr_at hM o3) ?_
    rw [e4]
    refine rel_rp (by rw [nI_leI (by omega) (by omega)]; omega) ?_
    refine rel_r (mK hm) ?_
    refine rel_r (show m_Md_strip c (nI (100 * j + (p + 1))) (nI (100 * j + (p + 1 + f p))) (nI k) τ = _ from spm_eq hM (e := p + 1 + f p) (by omega) 1000 k (p + 1) hk5 (by omega) (by omega)) ?_
    refine rel_rn (by decide) ?_
    generalize hsg : spL f 1000 (p + 1 + f p) k (p + 1) = s at hsp2 ⊢
    by_cases q2 : p + 1 + f p ≤ s
    · refine rel_lp (by rw [nI_leI (by omega) (by omega)]; exact q2) ?_
      refine rel_rp (by rw [nI_leI (by omega) (by omega)]; omega) ?_
      refine rel_l (ee_eq hC (by omega) o3) ?_
      rw [nI_1]
      exact ih (nx f p) (seen + 1) nf σ τ hill2.2 hs hR hC hM hF (by omega) (by omega) o5 (by omega)
    · refine rel_ln (by rw [nI_leI (by omega) (by omega)]; exact q2) ?_
      refine rel_rn (by rw [nI_leI (by omega) (by omega)]; omega) ?_
      obtain ⟨σ', τ', nf', E, E', hn', hs', hR', hC', hM', hF', -⟩ := r_put (s := s) (e := p + 1 + f p) hs hR hC hM hF (by omega) o3 (by omega)
      refine rel_l (oK_k hT.2.1) ?_
      refine rel_l E ?_
      refine rel_l (ee_eq hC' (by omega) o3) ?_
      refine rel_r (mK hm) ?_
      refine rel_r E' ?_
      rw [nI_1]
      exact ih (nx f p) (seen + 1) nf' σ' τ' hill2.2 hs' hR' hC' hM' hF' (by omega) (by omega) o5 (by omega)
theorem r_unpack {b c : Nat} {σ τ : fr_S} (h : RR b c σ τ) (x y : Int32) : rel (m_FR_unpack b x y σ) (m_Md_unpack c x y τ) (fun q q' => q.1 = q'.1 ∧ RR b c q.2 q'.2) := by
  obtain ⟨h1, h2, np, nw, nk, nt, nl, nf, hR⟩ := id h
  refine RS_end ?_ (x_unpack h1 x y) (md_unpack h2 x y)
  have hs := h1.1
  have hm : Sm c (pI τ 1 c 0) := h2.1
  have hR : RN b c np nw nk nt nl nf σ (pI τ 1 c 0) := hR
  have hnw := hR.1.2.1
  have fin : RE b c σ (pI τ 1 c 0) := ⟨np, nw, nk, nt, nl, nf, hR⟩
  unfold m_FR_unpack m_Md_unpack
  refine rel_r (mSI h2.1) ?_
  generalize pI τ 1 c 0 = τ1 at hm hR hnw fin ⊢
  refine rel_l (xK hs) ?_
  refine rel_r (mK hm) ?_
  refine rel_b (r_isWant hs hm hR x) (fun r r' hr => ?_)
  rcases hr with ⟨rfl, rfl⟩ | ⟨rfl, rfl, j, hj, rfl⟩
  · exact rel_lp rfl (rel_rp rfl (rel_some ⟨rfl, fin⟩))
  refine rel_ln (by decide) (rel_rn (by decide) ?_)
  have hj10 : j < 10 := by omega
  have hk := wt_k hs hj10
  obtain ⟨w1, w2, w3, w4, w5, w6, w7, w8⟩ := hR.2.2.2.2.2.1 j hj10
  refine rel_l (xp69 hs) ?_
  refine rel_l (xW hs hj10) ?_
  refine rel_l ((oI_k hk).trans (congrArg some w3)) ?_
  refine rel_r (mP25 hm) ?_
  refine rel_r (mV17 hm hj10) ?_
  refine rel_ii (fun hst => ?_) (fun _ => rel_some ⟨rfl, fin⟩)
  refine rel_ii (fun _ => rel_some ⟨rfl, fin⟩) (fun y0 => ?_)
  refine rel_ii (fun y5 => ?_) (fun _ => rel_some ⟨rfl, fin⟩)
  obtain ⟨k, -, hk5, rfl⟩ := nI_rng (x := y) (lo := 0) (hi := 5) (by rw [nI_0]; exact y0) (by rw [← nI_lit5]; exact y5) (by decide) (by decide)
  have w8 := w8 (by rw [hst]; decide)
  obtain ⟨hrow, ⟨len, hlen, hl⟩, hby⟩ := XI_row h1 (pr_w hj10)
  have h19 : gV τ1 (c + 19) j = nI len := w8.1.symm.trans hl
  have hC : CR σ (b + 87 + 4 * j) (b + 88 + 4 * j) len (fun q => (gV σ (b + 88 + 4 * j) q).toNatClampNeg) := by
    refine ⟨hrow, hl, hlen, fun q hq => ?_⟩
    obtain ⟨v, hv, ev⟩ := hby q (by omega)
    have e : (gV σ (b + 88 + 4 * j) q).toNatClampNeg = v := by rw [ev]; exact nI_clamp (by omega)
    show (gV σ (b + 88 + 4 * j) q).toNatClampNeg < 256 ∧ gV σ (b + 88 + 4 * j) q = nI (gV σ (b + 88 + 4 * j) q).toNatClampNeg
    rw [e]
    exact ⟨hv, ev⟩
  have hM : MR c j τ1 len (fun q => (gV σ (b + 88 + 4 * j) q).toNatClampNeg) := ⟨hm, hj10, hlen, fun q hq => ⟨(hC.2.2.2 q hq).1, (w8.2 len q h19 hlen hq).symm.trans (hC.2.2.2 q hq).2⟩⟩
  generalize (fun q => (gV σ (b + 88 + 4 * j) q).toNatClampNeg) = f at hC hM
  have F1 := fi_eq hC 1000 0 0 (by omega) (by omega) (by omega)
  rw [nI_0] at F1
  have F2 := rd_eq hM h19 hk5 1000 0 (by omega) (by omega)
  have rd : ∀ (τ' : fr_S) (z : Int32), Sm c τ' → gV τ' (c + 19) j = nI len → m_Md_read c (nI j) (nI k) z τ' = m_Md_read_L21 1000 c (nI j) (nI k) z (nI (100 * j)) (nI (100 * j + len)) (nI (100 * j + 0)) τ' := by
    intro τ' z hm' h19'
    unfold m_Md_read
    rw [nI_100w]
    refine obs (mP27 hm') (obs ((mV19 hm' hj10).trans (congrArg some h19')) ?_)
    rw [nI_add, Nat.add_zero]
  refine rel_l (xp69 hs) ?_
  refine rel_l (xW hs hj10) ?_
  refine rel_l (wt_r hs hj10) ?_
  refine rel_l (show m_Archive_findIll (b + 87 + 4 * j) σ = _ from F1) ?_
  refine rel_r (mK hm) ?_
  refine rel_r ((rd τ1 0 hm h19).trans F2) ?_
  refine rel_ii (fun hill => ?_) (fun _ => rel_some ⟨rfl, fin⟩)
  have hT := hs.1.2.2.2.2.2.2.2.2
  refine rel_l (xp75 hs) ?_
  refine rel_l (oK_k hT.2.1) ?_
  refine rel_r (mSI hm) ?_
  have hm2 : Sm c (pI τ1 39 c 0) := hm
  have hs2 : Sx b (pI σ 132 (b + 33) 0) := hs
  have hR2 : RN b c np nw nk nt nl 0 (pI σ 132 (b + 33) 0) (pI τ1 39 c 0) := RN_fi hR (fun g a hg => gI_pIf hg) (fun _ _ => rfl) (fun g hg => gI_pIf hg) (fun _ _ => rfl) ⟨by omega, by rw [gI_pIs, nI_0], by rw [gI_pIs, nI_0]⟩ (fun i hi => absurd hi (by omega))
  have hC2 : CR (pI σ 132 (b + 33) 0) (b + 87 + 4 * j) (b + 88 + 4 * j) len f := CR_mk hC hC.1 (gI_pIf (by decide)) rfl
  have hM2 : MR c j (pI τ1 39 c 0) len f := MR_mk hM hm2 rfl
  have key := r_fill_L hk5 1000 0 0 0 (pI σ 132 (b + 33) 0) (pI τ1 39 c 0) hill hs2 hR2 hC2 hM2 (fun i hi => absurd hi (by omega)) (by omega) (by omega) (by omega) (by omega)
  rw [nI_0] at key
  obtain ⟨σ3, q3, E, E', nf3, hR3, hs3, hm3⟩ := key
  refine rel_l (a := σ3) (show m_Files_fill (b + 33) (b + 87 + 4 * j) (nI k) σ = some σ3 from obs (sI_k hT.2.1) E) ?_
  refine rel_r (mK hm2) ?_
  refine rel_r ((rd (pI τ1 39 c 0) 1 hm2 h19).trans E') ?_
  refine rel_l (xp75 hs3) ?_
  refine rel_l ((oI_k hs3.1.2.2.2.2.2.2.2.2.2.1).trans (congrArg some hR3.1.2.2.2.2.2.2.1)) ?_
  refine rel_r ((mI hm3).trans (congrArg some hR3.1.2.2.2.2.2.2.2)) ?_
  exact rel_some ⟨rfl, np, nw, nk, nt, nl, nf3, hR3⟩
/-! AS THEY ARE MADE: all is 0 but the retries, the rates and where an empty place leads -/
def al {α : Type} (o : Option α) (P : α → Prop) : Prop := ∀ a, o = some a → P a
theorem al_b {α β : Type} {o : Option α} {f : α → Option β} {P : α → Prop} {Q : β → Prop} (h : al o P) (h2 : ∀ a, P a → al (f a) Q) : al (o.bind f) Q := by
  intro z hz
  cases o with
  | none => cases hz
  | some a => exact h2 a (h a rfl) z hz
theorem al_s {α β : Type} {o : Option α} {f : α → Option β} {Q : β → Prop} (h2 : ∀ a, al (f a) Q) : al (o.bind f) Q := al_b (P := fun _ => True) (fun _ _ => trivial) (fun a _ => h2 a)
theorem al_some {α : Type} {a : α} {P : α → Prop} (h : P a) : al (some a) P := by
  intro z hz
  cases hz
  exact h
theorem al_if {α : Type} {c : Prop} {hd : Decidable c} {x y : Option α} {P : α → Prop} (h1 : c → al x P) (h2 : ¬ c → al y P) : al (if c then x else y) P := by
  by_cases h : c
  · rw [if_pos h]; exact h1 h
  · rw [if_neg h]; exact h2 h
def ZX (σ : fr_S) : Prop := (∀ f a, f ≠ 0 → f ≠ 64 → f ≠ 194 → f ≠ 195 → gI σ f a = 0) ∧ ∀ a k, gV σ a k = 0
theorem ZX_pI {σ : fr_S} {f a : Nat} {v : Int32} (h : ZX σ) (hv : v = 0 ∨ f = 0 ∨ f = 64 ∨ f = 194 ∨ f = 195) : ZX (pI σ f a v) := by
  refine ⟨fun g b h0 h1 h2 h3 => ?_, h.2⟩
  rw [gI_pIx]
  by_cases e : g = f ∧ b = a
  · rw [if_pos e]
    rcases hv with hv | hv | hv | hv | hv
    · exact hv
    · exact absurd (e.1.trans hv) h0
    · exact absurd (e.1.trans hv) h1
    · exact absurd (e.1.trans hv) h2
    · exact absurd (e.1.trans hv) h3
  · rw [if_neg e]
    exact h.1 g b h0 h1 h2 h3
theorem ZX_pN {σ : fr_S} {a : Nat} {k : fr_K} (h : ZX σ) : ZX (pN σ a k) := by
  refine ⟨fun g b h0 h1 h2 h3 => ?_, fun b i => ?_⟩
  · rw [z_gI_pN]
    by_cases e : b = a
    · rw [if_pos e]
    · rw [if_neg e]
      exact h.1 g b h0 h1 h2 h3
  · rw [z_gV_pN]
    by_cases e : b = a
    · rw [if_pos e]
    · rw [if_neg e]
      exact h.2 b i
theorem zI {σ : fr_S} {ci f a : Nat} {v : Int32} (h : ZX σ) (hv : v = 0 ∨ f = 0 ∨ f = 64 ∨ f = 194 ∨ f = 195) : al (sI σ ci f a v) ZX := by
  unfold sI
  exact al_if (fun _ => al_some (ZX_pI h hv)) (fun _ z hz => by cases hz)
theorem zZ {σ : fr_S} {ci f a : Nat} {v : Int32} (h : ZX σ) (hv : v = 0 ∨ f = 0 ∨ f = 64 ∨ f = 194 ∨ f = 195) : al (sZ σ ci f a v) ZX := by
  unfold sZ
  exact al_if (fun _ => al_some (ZX_pI h hv)) (fun _ z hz => by cases hz)
theorem zP {σ : fr_S} {ci f a r : Nat} (h : ZX σ) : al (sP σ ci f a r) ZX := by
  unfold sP
  exact al_if (fun _ => al_some h) (fun _ z hz => by cases hz)
theorem zN {σ : fr_S} {a : Nat} {k : fr_K} (h : ZX σ) : al (nC σ a k) ZX := al_some (ZX_pN h)
theorem zQ {σ : fr_S} {t ci a : Nat} {i : Int32} {r : Nat} (h : ZX σ) : al (sQ σ t ci a i r) ZX := by
  intro z hz
  unfold sQ at hz
  split at hz
  · split at hz
    · cases hz
      exact h
    · cases hz
  · cases hz
theorem z_row {h0 : Nat} {σ : fr_S} {nx : Nat} (h : ZX σ) : al (m_Row_init h0 σ nx) (fun q => ZX q.1) := by
  unfold m_Row_init
  refine al_b (zN h) (fun _ h => ?_)
  refine al_b (zP h) (fun _ h => ?_)
  refine al_b (zI h (by simp)) (fun _ h => ?_)
  exact al_some h
theorem z_store_L {b0 : Nat} : ∀ (n : Nat) {y : Int32} {σ : fr_S} {nx cl sl : Nat}, ZX σ → al (m_Store_init_L28 n b0 y σ nx cl sl) (fun q => ZX q.1) := by
  intro n
  induction n with
  | zero => intro y σ nx cl sl h z hz; cases hz
  | succ n ih =>
    intro y σ nx cl sl h
    unfold m_Store_init_L28
    refine al_if (fun _ => ?_) (fun _ => ?_)
    · skip
      refine al_s (fun _ => ?_)
      exact al_some h
    · skip
      refine al_s (fun _ => ?_)
      refine al_s (fun _ => ?_)
      refine al_b (zN h) (fun _ h => ?_)
      refine al_s (fun _ => ?_)
      refine al_b (z_row h) (fun _ h => ?_)
      refine al_b (zQ h) (fun _ h => ?_)
      exact ih h
theorem z_store {h0 : Nat} {σ : fr_S} {nx : Nat} (h : ZX σ) : al (m_Store_init h0 σ nx) (fun q => ZX q.1) := by
  unfold m_Store_init
  refine al_b (zN h) (fun _ h => ?_)
  refine al_b (zP h) (fun _ h => ?_)
  refine al_b (zN h) (fun _ h => ?_)
  refine al_b (zP h) (fun _ h => ?_)
  refine al_b (zI h (by simp)) (fun _ h => ?_)
  exact z_store_L 1000 h
theorem z_tell {h0 : Nat} {σ : fr_S} {nx : Nat} (h : ZX σ) : al (m_Tellings_init h0 σ nx) (fun q => ZX q.1) := by
  unfold m_Tellings_init
  refine al_b (zN h) (fun _ h => ?_)
  refine al_b (zP h) (fun _ h => ?_)
  refine al_b (zN h) (fun _ h => ?_)
  refine al_b (zP h) (fun _ h => ?_)
  refine al_b (zN h) (fun _ h => ?_)
  refine al_b (zP h) (fun _ h => ?_)
  refine al_b (zI h (by simp)) (fun _ h => ?_)
  exact al_some h
theorem z_files {h0 : Nat} {σ : fr_S} {nx : Nat} (h : ZX σ) : al (m_Files_init h0 σ nx) (fun q => ZX q.1) := by
  unfold m_Files_init
  refine al_b (zN h) (fun _ h => ?_)
  refine al_b (zP h) (fun _ h => ?_)
  refine al_b (zN h) (fun _ h => ?_)
  refine al_b (zP h) (fun _ h => ?_)
  refine al_b (zN h) (fun _ h => ?_)
  refine al_b (zP h) (fun _ h => ?_)
  refine al_b (zN h) (fun _ h => ?_)
  refine al_b (zP h) (fun _ h => ?_)
  refine al_b (zI h (by simp)) (fun _ h => ?_)
  exact al_some h
theorem z_place {h0 : Nat} {σ : fr_S} {nx : Nat} (h : ZX σ) : al (m_Place_init h0 σ nx) (fun q => ZX q.1) := by
  unfold m_Place_init
  refine al_b (zN h) (fun _ h => ?_)
  refine al_b (z_row h) (fun _ h => ?_)
  refine al_b (zP h) (fun _ h => ?_)
  refine al_b (zI h (by simp)) (fun _ h => ?_)
  refine al_b (zI h (by simp)) (fun _ h => ?_)
  refine al_b (zI h (by simp)) (fun _ h => ?_)
  refine al_b (zI h (by simp)) (fun _ h => ?_)
  refine al_b (zI h (by simp)) (fun _ h => ?_)
  refine al_b (zZ h (by simp)) (fun _ h => ?_)
  refine al_b (zZ h (by simp)) (fun _ h => ?_)
  refine al_b (zZ h (by simp)) (fun _ h => ?_)
  refine al_b (zZ h (by simp)) (fun _ h => ?_)
  exact al_some h
theorem z_want {h0 : Nat} {σ : fr_S} {nx : Nat} (h : ZX σ) : al (m_Want_init h0 σ nx) (fun q => ZX q.1) := by
  unfold m_Want_init
  refine al_b (zN h) (fun _ h => ?_)
  refine al_b (z_row h) (fun _ h => ?_)
  refine al_b (zP h) (fun _ h => ?_)
  refine al_b (zN h) (fun _ h => ?_)
  refine al_b (zP h) (fun _ h => ?_)
  refine al_b (zI h (by simp)) (fun _ h => ?_)
  refine al_b (zI h (by simp)) (fun _ h => ?_)
  refine al_b (zI h (by simp)) (fun _ h => ?_)
  refine al_b (zI h (by simp)) (fun _ h => ?_)
  refine al_b (zI h (by simp)) (fun _ h => ?_)
  refine al_b (zI h (by simp)) (fun _ h => ?_)
  refine al_b (zI h (by simp)) (fun _ h => ?_)
  exact al_some h
theorem z_wants {b0 : Nat} : ∀ (n : Nat) {y : Int32} {σ : fr_S} {nx cl sl : Nat}, ZX σ → al (m_FR_init_L146 n b0 y σ nx cl sl) (fun q => ZX q.1) := by
  intro n
  induction n with
  | zero => intro y σ nx cl sl h z hz; cases hz
  | succ n ih =>
    intro y σ nx cl sl h
    unfold m_FR_init_L146
    refine al_if (fun _ => ?_) (fun _ => ?_)
    · skip
      refine al_s (fun _ => ?_)
      exact al_some h
    · skip
      refine al_s (fun _ => ?_)
      refine al_s (fun _ => ?_)
      refine al_b (zN h) (fun _ h => ?_)
      refine al_s (fun _ => ?_)
      refine al_b (z_want h) (fun _ h => ?_)
      refine al_b (zQ h) (fun _ h => ?_)
      exact ih h
theorem z_places {b0 : Nat} : ∀ (n : Nat) {y : Int32} {σ : fr_S} {nx cl sl : Nat}, ZX σ → al (m_FR_init_L119 n b0 y σ nx cl sl) (fun q => ZX q.1) := by
  intro n
  induction n with
  | zero => intro y σ nx cl sl h z hz; cases hz
  | succ n ih =>
    intro y σ nx cl sl h
    unfold m_FR_init_L119
    refine al_if (fun _ => ?_) (fun _ => ?_)
    · skip
      exact z_wants 1000 h
    · skip
      refine al_s (fun _ => ?_)
      refine al_s (fun _ => ?_)
      refine al_b (zN h) (fun _ h => ?_)
      refine al_s (fun _ => ?_)
      refine al_b (z_place h) (fun _ h => ?_)
      refine al_b (zQ h) (fun _ h => ?_)
      exact ih h
theorem z_FR {h0 : Nat} {x : Int32} {σ : fr_S} {nx : Nat} (h : ZX σ) : al (m_FR_init h0 x σ nx) (fun q => ZX q.1) := by
  unfold m_FR_init
  refine al_b (zN h) (fun _ h => ?_)
  refine al_b (zP h) (fun _ h => ?_)
  refine al_b (zN h) (fun _ h => ?_)
  refine al_b (zP h) (fun _ h => ?_)
  refine al_b (zN h) (fun _ h => ?_)
  refine al_b (zP h) (fun _ h => ?_)
  refine al_b (zI h (by simp)) (fun _ h => ?_)
  refine al_b (zN h) (fun _ h => ?_)
  refine al_b (zP h) (fun _ h => ?_)
  refine al_b (zI h (by simp)) (fun _ h => ?_)
  refine al_b (zN h) (fun _ h => ?_)
  refine al_b (z_store h) (fun _ h => ?_)
  refine al_b (zP h) (fun _ h => ?_)
  refine al_b (zN h) (fun _ h => ?_)
  refine al_b (z_tell h) (fun _ h => ?_)
  refine al_b (zP h) (fun _ h => ?_)
  refine al_b (zN h) (fun _ h => ?_)
  refine al_b (zP h) (fun _ h => ?_)
  refine al_b (zI h (by simp)) (fun _ h => ?_)
  refine al_b (zN h) (fun _ h => ?_)
  refine al_b (z_files h) (fun _ h => ?_)
  refine al_b (zP h) (fun _ h => ?_)
  refine al_b (zZ h (by simp)) (fun _ h => ?_)
  refine al_b (zI h (by simp)) (fun _ h => ?_)
  refine al_b (zI h (by simp)) (fun _ h => ?_)
  exact z_places 1000 h
theorem zI0 {σ : fr_S} {ci a : Nat} {v : Int32} (h : ZX σ) : al (sI σ ci 0 a v) (fun q => ZX q ∧ gI q 0 a = v) := by
  unfold sI
  exact al_if (fun _ => al_some ⟨ZX_pI h (by simp), gI_pIs⟩) (fun _ z hz => by cases hz)
theorem z_Md {h0 : Nat} {x : Int32} {σ : fr_S} {nx : Nat} (h : ZX σ) : al (m_Md_init h0 x σ nx) (fun q => ZX q.1 ∧ gI q.1 0 h0 = if 0 ≤ x then (if x ≤ 5 then x else 5) else 0) := by
  unfold m_Md_init
  refine al_b (zN h) (fun _ h => ?_)
  refine al_b (zP h) (fun _ h => ?_)
  refine al_b (zN h) (fun _ h => ?_)
  refine al_b (zP h) (fun _ h => ?_)
  refine al_b (zN h) (fun _ h => ?_)
  refine al_b (zP h) (fun _ h => ?_)
  refine al_b (zN h) (fun _ h => ?_)
  refine al_b (zP h) (fun _ h => ?_)
  refine al_b (zN h) (fun _ h => ?_)
  refine al_b (zP h) (fun _ h => ?_)
  refine al_b (zN h) (fun _ h => ?_)
  refine al_b (zP h) (fun _ h => ?_)
  refine al_b (zN h) (fun _ h => ?_)
  refine al_b (zP h) (fun _ h => ?_)
  refine al_b (zN h) (fun _ h => ?_)
  refine al_b (zP h) (fun _ h => ?_)
  refine al_b (zN h) (fun _ h => ?_)
  refine al_b (zP h) (fun _ h => ?_)
  refine al_b (zN h) (fun _ h => ?_)
  refine al_b (zP h) (fun _ h => ?_)
  refine al_b (zN h) (fun _ h => ?_)
  refine al_b (zP h) (fun _ h => ?_)
  refine al_b (zN h) (fun _ h => ?_)
  refine al_b (zP h) (fun _ h => ?_)
  refine al_b (zN h) (fun _ h => ?_)
  refine al_b (zP h) (fun _ h => ?_)
  refine al_b (zN h) (fun _ h => ?_)
  refine al_b (zP h) (fun _ h => ?_)
  refine al_b (zN h) (fun _ h => ?_)
  refine al_b (zP h) (fun _ h => ?_)
  refine al_b (zN h) (fun _ h => ?_)
  refine al_b (zP h) (fun _ h => ?_)
  refine al_b (zN h) (fun _ h => ?_)
  refine al_b (zP h) (fun _ h => ?_)
  refine al_b (zN h) (fun _ h => ?_)
  refine al_b (zP h) (fun _ h => ?_)
  refine al_b (zN h) (fun _ h => ?_)
  refine al_b (zP h) (fun _ h => ?_)
  refine al_b (zN h) (fun _ h => ?_)
  refine al_b (zP h) (fun _ h => ?_)
  refine al_b (zN h) (fun _ h => ?_)
  refine al_b (zP h) (fun _ h => ?_)
  refine al_b (zN h) (fun _ h => ?_)
  refine al_b (zP h) (fun _ h => ?_)
  refine al_b (zN h) (fun _ h => ?_)
  refine al_b (zP h) (fun _ h => ?_)
  refine al_b (zN h) (fun _ h => ?_)
  refine al_b (zP h) (fun _ h => ?_)
  refine al_b (zN h) (fun _ h => ?_)
  refine al_b (zP h) (fun _ h => ?_)
  refine al_b (zN h) (fun _ h => ?_)
  refine al_b (zP h) (fun _ h => ?_)
  refine al_b (zN h) (fun _ h => ?_)
  refine al_b (zP h) (fun _ h => ?_)
  refine al_b (zN h) (fun _ h => ?_)
  refine al_b (zP h) (fun _ h => ?_)
  refine al_b (zN h) (fun _ h => ?_)
  refine al_b (zP h) (fun _ h => ?_)
  refine al_b (zN h) (fun _ h => ?_)
  refine al_b (zP h) (fun _ h => ?_)
  refine al_b (zN h) (fun _ h => ?_)
  refine al_b (zP h) (fun _ h => ?_)
  refine al_b (zN h) (fun _ h => ?_)
  refine al_b (zP h) (fun _ h => ?_)
  refine al_b (zN h) (fun _ h => ?_)
  refine al_b (zP h) (fun _ h => ?_)
  refine al_b (zN h) (fun _ h => ?_)
  refine al_b (zP h) (fun _ h => ?_)
  refine al_if (fun c1 => ?_) (fun c1 => ?_)
  · rw [if_pos c1]
    refine al_if (fun c2 => ?_) (fun c2 => ?_)
    · rw [if_pos c2]
      exact al_b (zI0 h) (fun _ h => al_some h)
    · rw [if_neg c2]
      exact al_b (zI0 h) (fun _ h => al_some h)
  · rw [if_neg c1]
    exact al_b (zI0 h) (fun _ h => al_some h)
theorem cl_eq (x : Int32) : (if 0 < (if x < 5 then x else 5) then (if x < 5 then x else 5) else 0) = (if 0 ≤ x then (if x ≤ 5 then x else 5) else 0) := by
  by_cases c1 : 0 ≤ x
  · rw [if_pos c1]
    by_cases c2 : x ≤ 5
    · rw [if_pos c2]
      obtain ⟨q, -, hq, rfl⟩ := nI_rng (x := x) (lo := 0) (hi := 5) (by rw [nI_0]; exact Int32.not_lt.mpr c1) (by rw [← nI_lit5]; exact c2) (by decide) (by decide)
      have : q = 0 ∨ q = 1 ∨ q = 2 ∨ q = 3 ∨ q = 4 ∨ q = 5 := by omega
      rcases this with rfl | rfl | rfl | rfl | rfl | rfl <;> decide +kernel
    · rw [if_neg c2]
      have h5 : ¬ x < 5 := fun z => c2 (Int32.le_of_lt z)
      rw [if_neg h5]
      decide
  · rw [if_neg c1]
    have h0 : x < 0 := Int32.not_le.mp c1
    have h5 : x < 5 := Int32.lt_of_lt_of_le h0 (by decide)
    rw [if_pos h5, if_neg (fun z => c1 (Int32.le_of_lt z))]
theorem ZX_e {a : Nat} {k : fr_K} : ZX (pN fl_e a k) := ZX_pN ⟨fun _ _ _ _ _ _ => rfl, fun _ _ => rfl⟩
theorem RN_0 {b c : Nat} {σ τ : fr_S} {x : Int32} (hx : ZX σ) (h2 : X2 b x σ) (hm : ZX τ) (h0 : gI τ 0 c = x) : RN b c 0 0 0 0 0 0 σ τ := by
  have i : ∀ f a, f ≠ 0 → f ≠ 64 → f ≠ 194 → f ≠ 195 → gI σ f a = 0 := hx.1
  have v := hx.2
  have j : ∀ f a, f ≠ 0 → f ≠ 64 → f ≠ 194 → f ≠ 195 → gI τ f a = 0 := hm.1
  have u := hm.2
  refine ⟨⟨⟨by omega, ?_, ?_⟩, ⟨by omega, ?_, ?_⟩, ⟨by omega, ?_, ?_⟩, ⟨by omega, ?_, ?_⟩, ⟨by omega, ?_, ?_⟩, ⟨by omega, ?_, ?_⟩⟩, ⟨?_, ?_, ?_⟩, ⟨fun h hh => ?_, fun h hh => ?_⟩, fun q hq => ?_, fun q hq => ⟨?_, fun m k e hm hk => ?_⟩, fun q hq => ⟨?_, ?_, ?_, ?_, fun m k e hm hk => ?_, fun z => ?_, fun z => ?_, fun z => ⟨?_, fun m k e hm hk => ?_⟩⟩, fun q hq => absurd hq (by omega), fun q hq => absurd hq (by omega), fun q hq => absurd hq (by omega), fun q hq => absurd hq (by omega)⟩
  · rw [nI_0]; exact i _ _ (by decide) (by decide) (by decide) (by decide)
  · rw [nI_0]; exact j _ _ (by decide) (by decide) (by decide) (by decide)
  · rw [nI_0]; exact i _ _ (by decide) (by decide) (by decide) (by decide)
  · rw [nI_0]; exact j _ _ (by decide) (by decide) (by decide) (by decide)
  · rw [nI_0]; exact i _ _ (by decide) (by decide) (by decide) (by decide)
  · rw [nI_0]; exact j _ _ (by decide) (by decide) (by decide) (by decide)
  · rw [nI_0]; exact i _ _ (by decide) (by decide) (by decide) (by decide)
  · rw [nI_0]; exact j _ _ (by decide) (by decide) (by decide) (by decide)
  · rw [nI_0]; exact i _ _ (by decide) (by decide) (by decide) (by decide)
  · rw [nI_0]; exact j _ _ (by decide) (by decide) (by decide) (by decide)
  · rw [nI_0]; exact i _ _ (by decide) (by decide) (by decide) (by decide)
  · rw [nI_0]; exact j _ _ (by decide) (by decide) (by decide) (by decide)
  · exact h2.2.trans h0.symm
  · rw [i _ _ (by decide) (by decide) (by decide) (by decide), j _ _ (by decide) (by decide) (by decide) (by decide)]
  · rw [i _ _ (by decide) (by decide) (by decide) (by decide), j _ _ (by decide) (by decide) (by decide) (by decide)]
  · rw [v, u]
  · rw [v, u]
  · rw [i 193 _ (by decide) (by decide) (by decide) (by decide), i 196 _ (by decide) (by decide) (by decide) (by decide), i 197 _ (by decide) (by decide) (by decide) (by decide), i 198 _ (by decide) (by decide) (by decide) (by decide), i 199 _ (by decide) (by decide) (by decide) (by decide), i 200 _ (by decide) (by decide) (by decide) (by decide), i 201 _ (by decide) (by decide) (by decide) (by decide), u, u, u, u, u, u, u]
    exact ⟨rfl, rfl, rfl, rfl, rfl, rfl, rfl, fun z => absurd z (by omega), fun z => absurd z (by omega), fun _ => h2.1 q hq⟩
  · rw [i 257 _ (by decide) (by decide) (by decide) (by decide), u]
  · rw [v, u]
  · rw [i 451 _ (by decide) (by decide) (by decide) (by decide), u]
  · rw [i 450 _ (by decide) (by decide) (by decide) (by decide), u]
  · rw [i 452 _ (by decide) (by decide) (by decide) (by decide), u]
  · rw [i 456 _ (by decide) (by decide) (by decide) (by decide), u]
  · rw [v, u]
  · rw [u] at z
    exact absurd z (by decide)
  · rw [u] at z
    exact absurd z (by decide)
  · rw [i 257 _ (by decide) (by decide) (by decide) (by decide), u]
  · rw [v, u]
/-- both made: they stand in the relation -/
theorem r_init (b : Nat) (x : Int32) : ∃ σ nx τ nx2, m_FR_init b x (pN fl_e b (.inl 1)) (b + 1) = some (σ, nx) ∧ m_Md_init nx x (pN fl_e nx (.inl 0)) (nx + 1) = some (τ, nx2) ∧ RR b nx σ τ := by
  obtain ⟨⟨σ, nx⟩, e1, ⟨h1, h2⟩, h3⟩ := x_initL b x
  obtain ⟨⟨τ, nx2⟩, e2, g1⟩ := md_init nx x
  have z1 : ZX σ := z_FR ZX_e _ e1
  have z2 := z_Md ZX_e _ e2
  rw [← cl_eq] at z2
  exact ⟨σ, nx, τ, nx2, e1, e2, h1, g1, 0, 0, 0, 0, 0, 0, RN_0 z1 h2 z2.1 z2.2⟩
