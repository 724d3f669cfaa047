/-! reading a row as an archive: both sides against one function of its bytes -/
/-- a row of the class, a row of the reference, that hold the bytes f -/
def CR (σ : fr_S) (r v len : Nat) (f : Nat → Nat) : Prop := RowAt σ r v ∧ gI σ 257 r = nI len ∧ len ≤ 100 ∧ ∀ k, k < len → f k < 256 ∧ gV σ v k = nI (f k)
def MR (c j : Nat) (τ : fr_S) (len : Nat) (f : Nat → Nat) : Prop := Sm c τ ∧ j < 10 ∧ len ≤ 100 ∧ ∀ k, k < len → f k < 256 ∧ gV τ (c + 20) (100 * j + k) = nI (f k)
theorem cr_at {σ : fr_S} {r v len k : Nat} {f : Nat → Nat} (h : CR σ r v len f) (hk : k < len) : m_Row_at r (nI k) σ = some (nI (f k)) := by
  obtain ⟨⟨k1, k2, k3⟩, hl, hn, hv⟩ := h
  unfold m_Row_at
  refine oif_n (nI_pos (by omega)) ?_
  refine obs ((oI_k k1).trans (congrArg some hl)) ?_
  refine oif_n (fun z => ?_) ?_
  · rw [nI_leI (by omega) (by omega)] at z
    omega
  refine obs (oP_g k1 k2) ?_
  exact obs ((oV_nI k3 (by omega) (by decide)).trans (congrArg some (hv k hk).2)) rfl
theorem mr_at {c j len k : Nat} {τ : fr_S} {f : Nat → Nat} (h : MR c j τ len f) (hk : k < len) : oV τ 0 (c + 20) (nI (100 * j + k)) = some (nI (f k)) := by
  obtain ⟨hm, hj, hl, hv⟩ := h
  exact (mV20 hm (by omega)).trans (congrArg some (hv k hk).2)
/-- a segment, as the class looks at it -/
def sgOk (f : Nat → Nat) (s e : Nat) : Int32 := if e ≤ s then 0 else if 2 < e - s then 1 else if f s = 46 ∧ f (e - 1) = 46 then 0 else 1
theorem sg_eq {σ : fr_S} {r v len s e : Nat} {f : Nat → Nat} (h : CR σ r v len f) (hse : s ≤ e) (he : e ≤ len) : m_Archive_isRightSegment r (nI s) (nI e) σ = some (sgOk f s e) := by
  have hk := h.1.1
  have hl := h.2.2.1
  unfold m_Archive_isRightSegment sgOk
  rw [pk_sub hse]
  by_cases e0 : e ≤ s
  · rw [if_pos e0]
    refine oif_n ?_ rfl
    rw [← nI_0, nI_ltI (by omega) (by omega)]
    omega
  · rw [if_neg e0]
    refine oif_p (by rw [← nI_0, nI_ltI (by omega) (by omega)]; omega) ?_
    by_cases e2 : 2 < e - s
    · rw [if_pos e2]
      exact oif_p (by rw [← nI_v2, nI_ltI (by omega) (by omega)]; exact e2) rfl
    · rw [if_neg e2]
      refine oif_n (by rw [← nI_v2, nI_ltI (by omega) (by omega)]; exact e2) ?_
      refine obs (oK_k hk) (obs (cr_at h (by omega)) ?_)
      have b1 := (h.2.2.2 s (by omega)).1
      have b2 := (h.2.2.2 (e - 1) (by omega)).1
      have l46 : (46 : Int32) = nI 46 := by decide +kernel
      by_cases q1 : f s = 46
      · refine oif_p (by rw [q1, l46]) ?_
        rw [nI_sm (by omega)]
        refine obs (oK_k hk) (obs (cr_at h (by omega)) ?_)
        by_cases q2 : f (e - 1) = 46
        · rw [if_pos (show f s = 46 ∧ f (e - 1) = 46 from ⟨q1, q2⟩)]
          exact oif_p (by rw [q2, l46]) rfl
        · rw [if_neg (show ¬ (f s = 46 ∧ f (e - 1) = 46) from fun z => q2 z.2)]
          refine oif_n (fun z => ?_) rfl
          rw [l46] at z
          exact q2 (nI_inj (by omega) (by omega) z)
      · rw [if_neg (show ¬ (f s = 46 ∧ f (e - 1) = 46) from fun z => q1 z.1)]
        refine oif_n (fun z => ?_) rfl
        rw [l46] at z
        exact q1 (nI_inj (by omega) (by omega) z)
/-- a sign of a path that isn't a slash -/
def chOk (x : Nat) : Bool := (Nat.ble 97 x && Nat.ble x 122) || (Nat.ble 48 x && Nat.ble x 57) || Nat.beq x 46
def S0 : fr_S := (fun _ => none, fun _ _ => 0, fun _ _ => none, fun _ _ => 0, fun _ _ => none)
theorem ch_all : ∀ x, x < 256 → m_Archive_isPathCharacter (nI x) S0 = some (if chOk x then 1 else 0) := by decide +kernel
theorem sn_all : ∀ x, x < 256 → m_Md_isSign (nI x) S0 = some (if chOk x ∨ x = 47 then 1 else 0) := by decide +kernel
theorem ch_eq {x : Nat} (hx : x < 256) (σ : fr_S) : m_Archive_isPathCharacter (nI x) σ = some (if chOk x then 1 else 0) := ch_all x hx
theorem sn_eq {x : Nat} (hx : x < 256) (σ : fr_S) : m_Md_isSign (nI x) σ = some (if chOk x ∨ x = 47 then 1 else 0) := sn_all x hx
theorem sg01 (f : Nat → Nat) (s e : Nat) : sgOk f s e = 0 ∨ sgOk f s e = 1 := by
  unfold sgOk
  by_cases h1 : e ≤ s
  · rw [if_pos h1]; exact Or.inl rfl
  · rw [if_neg h1]
    by_cases h2 : 2 < e - s
    · rw [if_pos h2]; exact Or.inr rfl
    · rw [if_neg h2]
      by_cases h3 : f s = 46 ∧ f (e - 1) = 46
      · rw [if_pos h3]; exact Or.inl rfl
      · rw [if_neg h3]; exact Or.inr rfl
/-- a path, as the class looks at it -/
def rgL (f : Nat → Nat) : Nat → Nat → Nat → Nat → Int32
  | 0, _, _, _ => 0
  | n + 1, e, s, i => if e ≤ i then sgOk f s e else if f i = 47 then (if sgOk f s i = 0 then 0 else rgL f n e (i + 1) (i + 1)) else if chOk (f i) then rgL f n e s (i + 1) else 0
theorem nI_lit47 : (47 : Int32) = nI 47 := by decide +kernel
theorem nI_lit46 : (46 : Int32) = nI 46 := by decide +kernel
theorem rp_eq {σ : fr_S} {r v len e : Nat} {f : Nat → Nat} (h : CR σ r v len f) (he : e ≤ len) : ∀ (n s i : Nat), s ≤ i → i ≤ e → e - i < n → m_Archive_isRightPath_L5 n r (nI e) (nI s) (nI i) σ = some (rgL f n e s i) := by
  have hk := h.1.1
  have hl := h.2.2.1
  intro n
  induction n with
  | zero => intro s i _ _ h; omega
  | succ n ih =>
    intro s i hsi hie hn
    unfold m_Archive_isRightPath_L5 rgL
    by_cases ee : e ≤ i
    · have : i = e := by omega
      subst this
      rw [if_pos ee]
      refine oif_p (by rw [nI_leI (by omega) (by omega)]; exact ee) (obs (sg_eq h hsi he) ?_)
      exact obs (show oZ (sgOk f s i) = some () from if_pos (sg01 f s i)) rfl
    · rw [if_neg ee]
      refine oif_n (by rw [nI_leI (by omega) (by omega)]; exact ee) (obs (oK_k hk) (obs (cr_at h (by omega)) ?_))
      have b1 := (h.2.2.2 i (by omega)).1
      by_cases q : f i = 47
      · rw [if_pos q]
        refine oif_p (by rw [q, nI_lit47]) (obs (sg_eq h hsi (by omega)) ?_)
        by_cases q0 : sgOk f s i = 0
        · refine oif_p q0 ?_
          rw [if_pos q0]
        · refine oif_n q0 ?_
          rw [if_neg q0, nI_1]
          exact ih (i + 1) (i + 1) (by omega) (by omega) (by omega)
      · rw [if_neg q]
        refine oif_n (fun z => ?_) (obs (ch_eq b1 σ) ?_)
        · rw [nI_lit47] at z
          exact q (nI_inj (by omega) (by omega) z)
        by_cases q1 : chOk (f i)
        · rw [if_pos q1, if_pos q1]
          refine oif_n (by decide) ?_
          rw [nI_1]
          exact ih s (i + 1) (by omega) (by omega) (by omega)
        · rw [if_neg q1, if_neg q1]
          exact oif_p rfl rfl
/-- the points of a segment so far -/
def cnt (f : Nat → Nat) (s : Nat) : Nat → Nat
  | 0 => 0
  | l + 1 => cnt f s l + (if f (s + l) = 46 then 1 else 0)
theorem cnt_le (f : Nat → Nat) (s : Nat) : ∀ l, cnt f s l ≤ l := by
  intro l
  induction l with
  | zero => exact Nat.le_refl 0
  | succ l ih =>
    show cnt f s l + (if f (s + l) = 46 then 1 else 0) ≤ l + 1
    by_cases e : f (s + l) = 46
    · rw [if_pos e]; omega
    · rw [if_neg e]; omega
theorem sg_ref {f : Nat → Nat} {s l : Nat} (hl : l ≤ 100) (R : Option Int32) : (if nI l = 0 then some 0 else if nI l = nI (cnt f s l) then (if 3 ≤ nI l then R else some 0) else R) = (if sgOk f s (s + l) = 0 then some 0 else R) := by
  have hc := cnt_le f s l
  have i3 : (3 : Int32) = nI 3 := nI_v3.symm
  unfold sgOk
  by_cases l0 : l = 0
  · subst l0
    rw [if_pos nI_0, if_pos (show s + 0 ≤ s by omega), if_pos rfl]
  · rw [if_neg (show ¬ nI l = 0 from fun z => l0 (nI_inj (by omega) (by omega) (z.trans nI_0.symm))), if_neg (show ¬ s + l ≤ s by omega)]
    have e1 : s + l - s = l := by omega
    rw [e1]
    by_cases l2 : 2 < l
    · rw [if_pos l2, if_neg (show ¬ (1 : Int32) = 0 by decide)]
      by_cases q : nI l = nI (cnt f s l)
      · rw [if_pos q, if_pos (show 3 ≤ nI l by rw [i3, nI_leI (by omega) (by omega)]; omega)]
      · rw [if_neg q]
    · rw [if_neg l2]
      have n3 : ¬ 3 ≤ nI l := by rw [i3, nI_leI (by omega) (by omega)]; omega
      have key : cnt f s l = l ↔ (f s = 46 ∧ f (s + l - 1) = 46) := by
        have : l = 1 ∨ l = 2 := by omega
        rcases this with rfl | rfl
        · show 0 + (if f (s + 0) = 46 then 1 else 0) = 1 ↔ (f s = 46 ∧ f (s + 1 - 1) = 46)
          have e2 : s + 1 - 1 = s := by omega
          rw [e2, Nat.add_zero]
          by_cases q : f s = 46
          · rw [if_pos q]; exact ⟨fun _ => ⟨q, q⟩, fun _ => rfl⟩
          · rw [if_neg q]; exact ⟨fun z => absurd z (by decide), fun z => absurd z.1 q⟩
        · show 0 + (if f (s + 0) = 46 then 1 else 0) + (if f (s + 1) = 46 then 1 else 0) = 2 ↔ (f s = 46 ∧ f (s + 2 - 1) = 46)
          have e2 : s + 2 - 1 = s + 1 := by omega
          rw [e2, Nat.add_zero]
          by_cases q : f s = 46 <;> by_cases q2 : f (s + 1) = 46
          · rw [if_pos q, if_pos q2]; exact ⟨fun _ => ⟨q, q2⟩, fun _ => rfl⟩
          · rw [if_pos q, if_neg q2]; exact ⟨fun z => absurd z (by decide), fun z => absurd z.2 q2⟩
          · rw [if_neg q, if_pos q2]; exact ⟨fun z => absurd z (by decide), fun z => absurd z.1 q⟩
          · rw [if_neg q, if_neg q2]; exact ⟨fun z => absurd z (by decide), fun z => absurd z.1 q⟩
      by_cases q : f s = 46 ∧ f (s + l - 1) = 46
      · rw [if_pos (show nI l = nI (cnt f s l) by rw [key.mpr q]), if_neg n3, if_pos q, if_pos rfl]
      · rw [if_neg (show ¬ nI l = nI (cnt f s l) from fun z => q (key.mp (nI_inj (by omega) (by omega) z).symm)), if_neg q, if_neg (show ¬ (1 : Int32) = 0 by decide)]
theorem rm_eq {c j len e : Nat} {τ : fr_S} {f : Nat → Nat} (h : MR c j τ len f) (he : e ≤ len) : ∀ (n s l : Nat), s + l ≤ e → e - (s + l) + 1 < n → m_Md_isRight_L8 n c (nI (100 * j + e)) (nI l) (nI (cnt f s l)) (nI (100 * j + (s + l))) τ = some (rgL f n e s (s + l)) := by
  have hm := h.1
  have hj := h.2.1
  have hl := h.2.2.1
  intro n
  induction n with
  | zero => intro s l _ h; omega
  | succ n ih =>
    intro s l hsl hn
    unfold m_Md_isRight_L8 rgL
    refine oif_n (by rw [nI_ltI (by omega) (by omega)]; omega) ?_
    by_cases ee : e ≤ s + l
    · have ee2 : s + l = e := by omega
      rw [if_pos ee]
      refine oif_p (by rw [nI_leI (by omega) (by omega)]; omega) (obs (show m_Md_isSign 47 τ = some 1 from sn_eq (x := 47) (by decide) τ) (oif_n (by decide) ?_))
      rw [sg_ref (by omega), nI_1]
      have last : m_Md_isRight_L8 n c (nI (100 * j + e)) 0 0 (nI (100 * j + (s + l) + 1)) τ = some 1 := by
        obtain ⟨n', rfl⟩ : ∃ n', n = n' + 1 := ⟨n - 1, by omega⟩
        unfold m_Md_isRight_L8
        exact oif_p (by rw [nI_ltI (by omega) (by omega)]; omega) rfl
      rw [last, ee2]
      rcases sg01 f s e with q | q
      · rw [q, if_pos rfl]
      · rw [q, if_neg (by decide)]
    · rw [if_neg ee]
      refine oif_n (by rw [nI_leI (by omega) (by omega)]; omega) (obs (mP28 hm) (obs (mr_at h (by omega)) ?_))
      have b1 := (h.2.2.2 (s + l) (by omega)).1
      refine obs (sn_eq b1 τ) ?_
      by_cases q : f (s + l) = 47
      · rw [if_pos (Or.inr q), if_pos q]
        refine oif_n (by decide) (oif_p (by rw [q, nI_lit47]) ?_)
        rw [sg_ref (by omega), nI_1]
        have key := ih (s + l + 1) 0 (by omega) (by omega)
        have e1 : 100 * j + (s + l + 1 + 0) = 100 * j + (s + l) + 1 := by omega
        have e2 : s + l + 1 + 0 = s + l + 1 := by omega
        rw [e1, e2, show cnt f (s + l + 1) 0 = 0 from rfl, nI_0] at key
        rw [key]
        by_cases q0 : sgOk f s (s + l) = 0
        · rw [if_pos q0, if_pos q0]
        · rw [if_neg q0, if_neg q0]
      · rw [if_neg q]
        by_cases q1 : chOk (f (s + l))
        · rw [if_pos (Or.inl q1), if_pos q1]
          refine oif_n (by decide) (oif_n (fun z => ?_) ?_)
          · rw [nI_lit47] at z
            exact q (nI_inj (by omega) (by omega) z)
          have key := ih s (l + 1) (by omega) (by omega)
          have e1 : 100 * j + (s + (l + 1)) = 100 * j + (s + l) + 1 := by omega
          have e2 : s + (l + 1) = s + l + 1 := by omega
          rw [e1, e2, show cnt f s (l + 1) = cnt f s l + (if f (s + l) = 46 then 1 else 0) from rfl] at key
          rw [nI_1, nI_1]
          by_cases p : f (s + l) = 46
          · rw [if_pos p] at key
            refine oif_p (by rw [p, nI_lit46]) ?_
            rw [nI_1]
            exact key
          · rw [if_neg p] at key
            refine oif_n (fun z => ?_) ?_
            · rw [nI_lit46] at z
              exact p (nI_inj (by omega) (by omega) z)
            rw [Nat.add_zero] at key
            rw [Int32.add_zero, nI_1]
            exact key
        · rw [if_neg (show ¬ (chOk (f (s + l)) = true ∨ f (s + l) = 47) from fun z => z.elim q1 q), if_neg q1]
          exact oif_p rfl rfl
/-- a path without its first segments -/
def spL (f : Nat → Nat) : Nat → Nat → Nat → Nat → Nat
  | 0, e, _, _ => e
  | n + 1, e, l, i => if l = 0 then i else if e ≤ i then e else if f i = 47 then spL f n e (l - 1) (i + 1) else spL f n e l (i + 1)
theorem spL_le (f : Nat → Nat) {e : Nat} : ∀ (n l i : Nat), i ≤ e → i ≤ spL f n e l i ∧ spL f n e l i ≤ e := by
  intro n
  induction n with
  | zero => intro l i hi; exact ⟨hi, Nat.le_refl e⟩
  | succ n ih =>
    intro l i hi
    unfold spL
    by_cases l0 : l = 0
    · rw [if_pos l0]; exact ⟨Nat.le_refl i, hi⟩
    · rw [if_neg l0]
      by_cases ee : e ≤ i
      · rw [if_pos ee]; exact ⟨hi, Nat.le_refl e⟩
      · rw [if_neg ee]
        by_cases q : f i = 47
        · rw [if_pos q]
          have := ih (l - 1) (i + 1) (by omega)
          omega
        · rw [if_neg q]
          have := ih l (i + 1) (by omega)
          omega
theorem spc_eq {σ : fr_S} {r v len e : Nat} {f : Nat → Nat} (h : CR σ r v len f) (he : e ≤ len) : ∀ (n g l i : Nat), l ≤ 5 → (l = 0 → g = i) → i ≤ e → e - i < n → m_Archive_strippedStart_L9 n r (nI e) (nI g) (nI l) (nI i) σ = some (nI (spL f n e l i)) := by
  have hk := h.1.1
  have hl := h.2.2.1
  intro n
  induction n with
  | zero => intro g l i _ _ _ h; omega
  | succ n ih =>
    intro g l i hl5 hg hie hn
    unfold m_Archive_strippedStart_L9 spL
    by_cases l0 : l = 0
    · have := hg l0
      subst this
      rw [if_pos l0]
      have z : nI l ≤ 0 := by rw [l0, nI_0]; exact Int32.le_refl 0
      by_cases ee : e ≤ g
      · exact oif_p (by rw [nI_leI (by omega) (by omega)]; exact ee) (oif_p z rfl)
      · exact oif_n (by rw [nI_leI (by omega) (by omega)]; exact ee) (oif_p z (oif_p z rfl))
    · have z : ¬ nI l ≤ 0 := by rw [← nI_0, nI_leI (by omega) (by omega)]; omega
      rw [if_neg l0]
      by_cases ee : e ≤ i
      · rw [if_pos ee]
        exact oif_p (by rw [nI_leI (by omega) (by omega)]; exact ee) (oif_n z rfl)
      · rw [if_neg ee]
        refine oif_n (by rw [nI_leI (by omega) (by omega)]; exact ee) (oif_n z (obs (oK_k hk) (obs (cr_at h (by omega)) ?_)))
        have b1 := (h.2.2.2 i (by omega)).1
        by_cases q : f i = 47
        · rw [if_pos q]
          refine oif_p (by rw [q, nI_lit47]) ?_
          rw [nI_1, nI_r (by omega)]
          exact ih (i + 1) (l - 1) (i + 1) (by omega) (fun _ => rfl) (by omega) (by omega)
        · rw [if_neg q]
          refine oif_n (fun z => ?_) ?_
          · rw [nI_lit47] at z
            exact q (nI_inj (by omega) (by omega) z)
          rw [nI_1]
          exact ih g l (i + 1) hl5 (fun z => absurd z l0) (by omega) (by omega)
theorem spm_eq {c j len e : Nat} {τ : fr_S} {f : Nat → Nat} (h : MR c j τ len f) (he : e ≤ len) : ∀ (n l i : Nat), l ≤ 5 → i ≤ e → e - i < n → m_Md_strip_L6 n c (nI (100 * j + e)) (nI l) (nI (100 * j + i)) τ = some (nI (100 * j + spL f n e l i)) := by
  have hm := h.1
  have hj := h.2.1
  have hl := h.2.2.1
  intro n
  induction n with
  | zero => intro l i _ _ h; omega
  | succ n ih =>
    intro l i hl5 hie hn
    unfold m_Md_strip_L6 spL
    by_cases l0 : l = 0
    · rw [if_pos l0]
      have z : nI l ≤ 0 := by rw [l0, nI_0]; exact Int32.le_refl 0
      exact oif_p z (oif_p z rfl)
    · have z : ¬ nI l ≤ 0 := by rw [← nI_0, nI_leI (by omega) (by omega)]; omega
      rw [if_neg l0]
      refine oif_n z ?_
      by_cases ee : e ≤ i
      · rw [if_pos ee]
        exact oif_p (by rw [nI_leI (by omega) (by omega)]; omega) (oif_n z rfl)
      · rw [if_neg ee]
        refine oif_n (by rw [nI_leI (by omega) (by omega)]; omega) (obs (mP28 hm) (obs (mr_at h (by omega)) ?_))
        have b1 := (h.2.2.2 i (by omega)).1
        have e1 : 100 * j + i + 1 = 100 * j + (i + 1) := by omega
        by_cases q : f i = 47
        · rw [if_pos q]
          refine oif_p (by rw [q, nI_lit47]) ?_
          rw [nI_1, nI_sm (by omega), e1]
          exact ih (l - 1) (i + 1) (by omega) (by omega) (by omega)
        · rw [if_neg q]
          refine oif_n (fun z => ?_) ?_
          · rw [nI_lit47] at z
            exact q (nI_inj (by omega) (by omega) z)
          rw [nI_1, nI_s0, e1]
          exact ih l (i + 1) hl5 (by omega) (by omega)
