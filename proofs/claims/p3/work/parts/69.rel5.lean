theorem b255_32 : ∀ k, k < 32 → (255#32).getLsbD k = decide (k < 8) := by decide
theorem b255_64 : ∀ k, k < 32 → (255#64).getLsbD k = decide (k < 8) := by decide
theorem byte_bv (w : BitVec 64) {s : Nat} (hs : s ≤ 56) : ((w >>> s).signExtend 32 &&& 255#32) = ((w.sshiftRight s) &&& 255#64).signExtend 32 := by
  apply BitVec.eq_of_getLsbD_eq
  intro k hk
  rw [BitVec.getLsbD_and, b255_32 k hk, BitVec.getLsbD_signExtend, BitVec.getLsbD_signExtend, BitVec.getLsbD_and, b255_64 k hk, BitVec.getLsbD_ushiftRight, BitVec.getLsbD_sshiftRight]
  have h1 : k < 64 := by omega
  by_cases h8 : k < 8
  · have h2 : s + k < 64 := by omega
    have h3 : ¬ 64 ≤ k := by omega
    simp [hk, h1, h8, h2, h3]
  · simp [h8, h1]
theorem byte_eq (w : Int64) {q : Nat} (hq : q < 8) : ((fr_lushr w (8 * nI q)).toInt32 &&& 255) = ((w >>> ((8 * nI q).toInt64 &&& 63)) &&& (255)).toInt32 := by
  have : q = 0 ∨ q = 1 ∨ q = 2 ∨ q = 3 ∨ q = 4 ∨ q = 5 ∨ q = 6 ∨ q = 7 := by omega
  apply Int32.toBitVec_inj.mp
  rcases this with rfl | rfl | rfl | rfl | rfl | rfl | rfl | rfl
  · exact byte_bv w.toBitVec (s := 0) (by omega)
  · exact byte_bv w.toBitVec (s := 8) (by omega)
  · exact byte_bv w.toBitVec (s := 16) (by omega)
  · exact byte_bv w.toBitVec (s := 24) (by omega)
  · exact byte_bv w.toBitVec (s := 32) (by omega)
  · exact byte_bv w.toBitVec (s := 40) (by omega)
  · exact byte_bv w.toBitVec (s := 48) (by omega)
  · exact byte_bv w.toBitVec (s := 56) (by omega)
