/-! a turn: the bytes that a place gives -/
theorem obs {α β : Type} {o : Option α} {a : α} {f : α → Option β} {r : Option β} (h : o = some a) (h2 : f a = r) : o.bind f = r := by
  subst h
  exact h2
theorem oif_p {α : Type} {c : Prop} {hd : Decidable c} {x y r : α} (hc : c) (h : x = r) : (if c then x else y) = r := by rw [if_pos hc]; exact h
theorem oif_n {α : Type} {c : Prop} {hd : Decidable c} {x y r : α} (hc : ¬ c) (h : y = r) : (if c then x else y) = r := by rw [if_neg hc]; exact h
theorem at_eq {b r v k n : Nat} {σ : fr_S} (h : XI b σ) (hp : pr b r v) (hl : gI σ 257 r = nI n) (hn : n ≤ 100) (hk : k < n) : m_Row_at r (nI k) σ = some (gV σ v k) := by
  obtain ⟨⟨k1, k2, k3⟩, -, -⟩ := XI_row h hp
  unfold m_Row_at
  refine oif_n (nI_pos (by omega)) ?_
  refine obs ((oI_k k1).trans (congrArg some hl)) ?_
  refine oif_n (fun z => ?_) ?_
  · rw [nI_leI (by omega) (by omega)] at z
    omega
  refine obs (oP_g k1 k2) ?_
  exact obs (oV_nI k3 (by omega) (by decide)) rfl
theorem append_eq {b r v n : Nat} {σ : fr_S} (h : XI b σ) (hp : pr b r v) (hl : gI σ 257 r = nI n) (hn : n < 100) (x : Int32) : m_Row_append r x σ = some (pA (pI σ 257 r (nI (n + 1))) v (upd (gV σ v) n x)) := by
  obtain ⟨⟨k1, k2, k3⟩, -, -⟩ := XI_row h hp
  unfold m_Row_append
  refine obs ((oI_k k1).trans (congrArg some hl)) ?_
  refine oif_n (fun z => ?_) ?_
  · rw [nI_lit100, nI_leI (by omega) (by omega)] at z
    omega
  refine obs (oP_g k1 k2) ?_
  refine obs ((oI_k k1).trans (congrArg some hl)) ?_
  refine obs (sI_k k1) ?_
  rw [nI_1]
  exact obs (sV_nI (n := 100) (show gK (pI σ 257 r (nI (n + 1))) v = some (.inr (0, 100)) from k3) (by omega) (by decide)) rfl
def gvn (z : Nat) (l x : Int32) : Int32 := if z = 0 ∧ l ≠ 0 then x ^^^ 1 else x
theorem given_eq {b i k n : Nat} {σ : fr_S} (h : XI b σ) (hi : i < 16) (hl : gI σ 257 (b + 39 + 3 * i) = nI n) (hn : n ≤ 100) (hk : k < n) : m_Place_givenByte (b + 38 + 3 * i) (nI k) σ = some (gvn k (gI σ 200 (b + 38 + 3 * i)) (gV σ (b + 40 + 3 * i) k)) := by
  have hs := h.1
  have hr := row_k h (pr_p hi)
  have e := at_eq h (pr_p hi) hl hn hk
  unfold m_Place_givenByte gvn
  by_cases z : k = 0
  · refine oif_p (by rw [z, nI_0]) ?_
    refine obs (oI_k (pl_k hs hi)) ?_
    by_cases l : gI σ 200 (b + 38 + 3 * i) = 0
    · refine oif_p l ?_
      rw [if_neg (fun q => q.2 l)]
      exact obs (pl_r hs hi) (obs (oK_k hr) (obs e rfl))
    · refine oif_n l ?_
      rw [if_pos ⟨z, l⟩]
      exact obs (pl_r hs hi) (obs (oK_k hr) (obs e rfl))
  · refine oif_n (fun q => ?_) ?_
    · rw [← nI_0] at q
      exact z (nI_inj (by omega) (by omega) q)
    rw [if_neg (fun q => z q.1)]
    exact obs (pl_r hs hi) (obs (oK_k hr) (obs e rfl))
/-- what the reference does behind the bytes -/
def mT (c i j : Nat) (y : Int32) (τ : fr_S) : Option fr_S := if gV τ (c + 19) j < gV τ (c + 5) i then (if y = 0 then some τ else (oK τ 0 c).bind fun _ => (m_Md_falter c (nI j) τ).bind fun s => some s) else (oK τ 0 c).bind fun _ => (m_Md_judge c (nI j) τ).bind fun s => some s
/-- a byte more in a want's row -/
theorem RN_byte {b c np nw nk nt nl nf j z : Nat} {σ τ : fr_S} {v : Int32} (hj : j < 10) (hb : gV τ (c + 17) j = 1) (hz : z < 100) (h19 : gV τ (c + 19) j = nI z) (hR : RN b c np nw nk nt nl nf σ τ) : RN b c np nw nk nt nl nf (pA (pI σ 257 (b + 87 + 4 * j) (nI (z + 1))) (b + 88 + 4 * j) (upd (gV σ (b + 88 + 4 * j)) z v)) (pA (pA τ (c + 20) (upd (gV τ (c + 20)) (100 * j + z) v)) (c + 19) (upd (gV τ (c + 19)) j (nI (z + 1)))) := by
  obtain ⟨w1, w2, w3, w4, w5, w6, w7, w8⟩ := hR.2.2.2.2.2.1 j hj
  have w8 := w8 (by rw [hb]; decide)
  have e19 : gV (pA τ (c + 20) (upd (gV τ (c + 20)) (100 * j + z) v)) (c + 19) = gV τ (c + 19) := gV_pAn (by omega)
  have hD : DM c j τ (pA (pA τ (c + 20) (upd (gV τ (c + 20)) (100 * j + z) v)) (c + 19) (upd (gV (pA τ (c + 20) (upd (gV τ (c + 20)) (100 * j + z) v)) (c + 19)) j (nI (z + 1)))) := DM_a (x := 19) (by decide) (DM_b (by omega) DM_rf)
  rw [e19] at hD
  refine RN_want hj hR (DX_v (DX_r DX_rf)) hD ?_
  refine ⟨?_, ?_, ?_, ?_, fun m' k em h6 hk' => ?_, fun y => ?_, fun y => ?_, fun y => ⟨?_, fun m' k em h6 hk' => ?_⟩⟩
  · rw [gI_pA, gI_pIf (by decide), gV_pAn (by omega), gV_pAn (by omega)]; exact w1
  · rw [gI_pA, gI_pIf (by decide), gV_pAn (by omega), gV_pAn (by omega)]; exact w2
  · rw [gI_pA, gI_pIf (by decide), gV_pAn (by omega), gV_pAn (by omega)]; exact w3
  · rw [gI_pA, gI_pIf (by decide), gV_pAn (by omega), gV_pAn (by omega)]; exact w4
  · rw [gV_pAn (by omega), gV_pAn (by omega)] at em
    rw [gV_pAn (by omega), gV_pI, gV_pAn (by omega), gV_pAn (by omega)]
    exact w5 m' k em h6 hk'
  · rw [gI_pA, gI_pIf (by decide), gI_pA, gI_pIf (by decide), gV_pAn (by omega), gV_pAn (by omega), gV_pAn (by omega), gV_pAn (by omega)]; exact w6 (Or.inl hb)
  · rw [gV_pAn (by omega), gV_pAn (by omega), hb] at y
    exact absurd y (by decide)
  · rw [gI_pA, gI_pIs, gV_pAs, upd_s]
  · rw [gV_pAs, upd_s] at em
    have e2 : z + 1 = m' := nI_inj (by omega) (by omega) em
    rw [gV_pAs, gV_pAn (by omega), gV_pAs]
    by_cases ek : k = z
    · rw [ek, upd_s, upd_s]
    · rw [upd_n ek, upd_n (by omega)]
      exact w8.2 z k h19 (by omega) (by omega)
theorem r_give_L {b c np nw nk nt nl nf i j q sz k0 e : Nat} (hi : i < 16) (hj : j < 10) (hsz : sz ≤ 100) (hq : q ≤ 100) (y : Int32) (hy : y = 0 ∨ y = 1) (he : e = min sz (k0 + q)) : ∀ (n t : Nat) (σ τ : fr_S), XI b σ → MI c τ → RN b c np nw nk nt nl nf σ τ → gV τ (c + 17) j = 1 → gV τ (c + 5) i = nI sz → gV τ (c + 19) j = nI (k0 + t) → k0 + t ≤ 100 → t ≤ q → q - t < n → ∃ σ' τ', m_Place_giveTo_L65 n (b + 38 + 3 * i) (b + 87 + 4 * j) y (nI e) (nI (k0 + t)) σ = some (y, σ') ∧ m_Md_turn_L122 n c (nI j) (nI i) y (nI q) (nI t) τ = mT c i j y τ' ∧ RN b c np nw nk nt nl nf σ' τ' ∧ XI b σ' ∧ MI c τ' ∧ gV τ' (c + 17) j = 1 := by
  intro n
  induction n with
  | zero => intro t σ τ _ _ _ _ _ _ _ _ h; omega
  | succ n ih =>
    intro t σ τ h1 h2 hR hb h5 h19 h100 htq hn
    have hs := h1.1
    have hm := h2.1
    by_cases hx : q ≤ t ∨ sz ≤ k0 + t
    · refine ⟨σ, τ, ?_, ?_, hR, h1, h2, hb⟩
      · unfold m_Place_giveTo_L65
        exact oif_p (by rw [nI_leI (by omega) (by omega)]; omega) (obs (show oZ y = some () from if_pos hy) rfl)
      · unfold m_Md_turn_L122 mT
        rw [h19, h5]
        by_cases hqt : q ≤ t
        · refine oif_p (by rw [nI_leI (by omega) (by omega)]; omega) ?_
          refine obs (mP27 hm) (obs ((mV19 hm hj).trans (congrArg some h19)) (obs (mP13 hm) (obs ((mV5 hm hi).trans (congrArg some h5)) ?_)))
          rfl
        · refine oif_n (by rw [nI_leI (by omega) (by omega)]; omega) ?_
          refine obs (mP27 hm) (obs ((mV19 hm hj).trans (congrArg some h19)) (obs (mP13 hm) (obs ((mV5 hm hi).trans (congrArg some h5)) ?_)))
          refine oif_p (by rw [nI_leI (by omega) (by omega)]; omega) ?_
          refine obs (mP27 hm) (obs ((mV19 hm hj).trans (congrArg some h19)) (obs (mP13 hm) (obs ((mV5 hm hi).trans (congrArg some h5)) ?_)))
          rfl
    · have hqt : t < q := by omega
      have hks : k0 + t < sz := by omega
      obtain ⟨-, np', nw', nk', nt', nl', nf', re, a1, a2, a3, a4, a5, a6, a7, a8, a9, a10, -⟩ := id h2
      have hl : gI σ 257 (b + 39 + 3 * i) = nI sz := (hR.2.2.2.2.1 i hi).1.trans h5
      have hg := given_eq h1 hi hl hsz hks
      obtain ⟨-, -, -, -, -, p200, -⟩ := hR.2.2.2.1 i hi
      rw [p200, (hR.2.2.2.2.1 i hi).2 sz (k0 + t) h5 hsz hks] at hg
      obtain ⟨x, hx, hxe⟩ := a10 (100 * i + (k0 + t)) (by omega)
      have hv : ∃ y, y < 256 ∧ gvn (k0 + t) (gV τ (c + 12) i) (gV τ (c + 9) (100 * i + (k0 + t))) = nI y := by
        unfold gvn
        rw [hxe]
        by_cases z : k0 + t = 0 ∧ gV τ (c + 12) i ≠ 0
        · rw [if_pos z]; exact xor1 hx
        · rw [if_neg z]; exact ⟨x, hx, rfl⟩
      obtain ⟨v, hv1, hv2⟩ := hv
      have hl2 : gI σ 257 (b + 87 + 4 * j) = nI (k0 + t) := ((hR.2.2.2.2.2.1 j hj).2.2.2.2.2.2.2 (by rw [hb]; decide)).1.trans h19
      have ha := append_eq h1 (pr_w hj) hl2 (by omega) (nI v)
      have hR1 := RN_byte (v := nI v) hj hb (by omega) h19 hR
      have h11 : XI b (pA (pI σ 257 (b + 87 + 4 * j) (nI (k0 + t + 1))) (b + 88 + 4 * j) (upd (gV σ (b + 88 + 4 * j)) (k0 + t) (nI v))) := XI_val (σ := pI σ 257 (b + 87 + 4 * j) (nI (k0 + t + 1))) (XI_len h1 (by omega)) (pr_ne (pr_w hj)) hv1
      have h21 : MI c (pA (pA τ (c + 20) (upd (gV τ (c + 20)) (100 * j + (k0 + t)) (nI v))) (c + 19) (upd (gV (pA τ (c + 20) (upd (gV τ (c + 20)) (100 * j + (k0 + t)) (nI v))) (c + 19)) j (nI (k0 + t + 1)))) := MI_ha (w := j) (n := k0 + t + 1) (MI_row (k := 100 * j + (k0 + t)) h2 hv1) (by omega)
      have e19 : gV (pA τ (c + 20) (upd (gV τ (c + 20)) (100 * j + (k0 + t)) (nI v))) (c + 19) = gV τ (c + 19) := gV_pAn (by omega)
      rw [e19] at h21
      obtain ⟨σ', τ', E, E', rest⟩ := ih (t + 1) _ _ h11 h21 hR1 (by rw [gV_pAn (by omega), gV_pAn (by omega)]; exact hb) (by rw [gV_pAn (by omega), gV_pAn (by omega)]; exact h5) (by rw [gV_pAs, upd_s]; rfl) (by omega) (by omega) (by omega)
      refine ⟨σ', τ', ?_, ?_, rest⟩
      · unfold m_Place_giveTo_L65
        refine oif_n (by rw [nI_leI (by omega) (by omega)]; omega) ?_
        refine obs (oK_k (pl_k hs hi)) (obs (hg.trans (congrArg some hv2)) (obs (oK_k (row_k h1 (pr_w hj))) (obs ha ?_)))
        rw [nI_1]
        exact E
      · have go : ((sV τ 0 (c + 20) (nI (100 * j + (k0 + t))) (nI v)).bind fun σ_86 => (oP σ_86 0 27 c).bind fun q87 => (oV σ_86 0 q87 (nI j)).bind fun v88 => (sV σ_86 0 q87 (nI j) (v88 + 1)).bind fun σ_89 => m_Md_turn_L122 n c (nI j) (nI i) y (nI q) (nI t + 1) σ_89) = mT c i j y τ' := by
          refine obs (mS20 hm (by omega)) ?_
          have hm1 : Sm c (pA τ (c + 20) (upd (gV τ (c + 20)) (100 * j + (k0 + t)) (nI v))) := hm
          refine obs (mP27 hm1) (obs (Eq.trans (mV19 hm1 hj) (congrArg some (show _ = nI (k0 + t) by rw [e19]; exact h19))) (obs (mS19 hm1 hj) ?_))
          rw [nI_1, nI_1, e19]
          exact E'
        unfold m_Md_turn_L122
        refine oif_n (by rw [nI_leI (by omega) (by omega)]; omega) ?_
        refine obs (mP27 hm) (obs ((mV19 hm hj).trans (congrArg some h19)) (obs (mP13 hm) (obs ((mV5 hm hi).trans (congrArg some h5)) ?_)))
        refine oif_n (by rw [nI_leI (by omega) (by omega)]; omega) ?_
        refine obs (mP17 hm) (obs (mP27 hm) (obs ((mV19 hm hj).trans (congrArg some h19)) ?_))
        rw [nI_100]
        refine obs (mV9 hm (by omega)) (obs (mP28 hm) (obs (mP27 hm) (obs ((mV19 hm hj).trans (congrArg some h19)) (obs (mP27 hm) (obs ((mV19 hm hj).trans (congrArg some h19)) ?_)))))
        rw [nI_100]
        unfold gvn at hv2
        by_cases z : k0 + t = 0
        · refine oif_p (by rw [z, nI_0]) ?_
          refine obs (mP20 hm) (obs (mV12 hm hi) ?_)
          by_cases l : gV τ (c + 12) i = 0
          · refine oif_p l ?_
            rw [if_neg (fun q => q.2 l)] at hv2
            rw [hv2]
            exact go
          · refine oif_n l ?_
            rw [if_pos ⟨z, l⟩] at hv2
            rw [hv2]
            exact go
        · refine oif_n (fun q => ?_) ?_
          · rw [← nI_0] at q
            exact z (nI_inj (by omega) (by omega) q)
          rw [if_neg (fun q => z q.1)] at hv2
          rw [hv2]
          exact go
