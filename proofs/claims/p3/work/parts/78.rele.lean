theorem gives_eq {p : Nat} {σ : fr_S} {y : Int32} (hk : gK σ p = some (.inl 3)) : m_Place_gives p y σ = some (if gI σ 198 p = 0 ∧ gI σ 195 p = -1 ∧ (y = 0 → gI σ 199 p = 0) then 1 else 0) := by
  unfold m_Place_gives
  rw [oI_k hk, oI_k hk, oI_k hk]
  show (if gI σ 198 p = 0 then (if gI σ 195 p = (-1) then (if y = 0 then (if gI σ 199 p = 0 then some (1 : Int32) else some 0) else some 1) else some 0) else some 0) = _
  by_cases e1 : gI σ 198 p = 0 <;> by_cases e2 : gI σ 195 p = -1 <;> by_cases e3 : y = 0 <;> by_cases e4 : gI σ 199 p = 0 <;> simp [e1, e2, e3, e4]
theorem leads_eq {p : Nat} {σ : fr_S} (hk : gK σ p = some (.inl 3)) : m_Place_leadsOn p σ = some (if gI σ 198 p = 0 ∧ gI σ 195 p ≠ -1 then 1 else 0) := by
  unfold m_Place_leadsOn
  rw [oI_k hk, oI_k hk]
  show (if gI σ 198 p = 0 then (if gI σ 195 p = (-1) then some (0 : Int32) else some 1) else some 0) = _
  by_cases e1 : gI σ 198 p = 0 <;> by_cases e2 : gI σ 195 p = -1 <;> simp [e1, e2]
