set_option maxHeartbeats 4000000 in
set_option maxRecDepth 100000 in
theorem w_law_C0 {p : Program} {l : Launch} {e : Env} {s : State} {m : MethodId} {below : List Frame} {meth : Method} {c : Code} {D : va_G} {T : Nat → ClassId} {Ax Am : Nat → Prop} {b L bx bm : Nat} {xs : Nat → Int32} {Q : State → Prop} (C0 : fl_At p s m meth c b L xs D T Ax Am) (i : Int32) (σ τ : fr_S) (z : fr_S × fr_S) (h : m_law_C0 xs L bx bm i σ τ = some z) (H : Heap) (locs : List Loc) (hHx : fr_H D T Ax σ H) (hHm : fr_H D T Am τ H) (hS : va_S (fun q => s.heap.size ≤ q) s.heap H locs) (ls : Array Slot) (hl : lv_has ls 4 [(0, .ref b), (1, .ref bx), (2, .ref bm), (3, .int i)])
    (kx : ∀ (H : Heap) (locs : List Loc) (ls : Array Slot), fr_H D T Ax z.1 H → fr_H D T Am z.2 H → va_S (fun q => s.heap.size ≤ q) s.heap H locs → lv_has ls 4 [(0, .ref b), (1, .ref bx), (2, .ref bm), (3, .int i)] → W p l e room_1 s m #[Value.ref b] below meth c H locs 161 9742 Q (F0 m 769 ls [])) : W p l e room_1 s m #[Value.ref b] below meth c H locs 161 9742 Q (F0 m 132 ls []) := by
  obtain ⟨hx, hb, hml, hown, hts, hX, hbl, hbA, hK, hXs, hXA, hMA, hdx, hdm⟩ := C0
  unfold m_law_C0 at h
  refine lv_aload_n hx hb d_law_132 rfl (lv_at hl 1 rfl) ?_
  refine lv_aload_n hx hb d_law_133 rfl (lv_at hl 0 rfl) ?_
  refine lv_iload_n hx hb d_law_134 rfl (lv_at hl 3 rfl) ?_
  refine lv_iconst (v := 1) hx hb d_law_135 (by decide) ?_
  refine lv_iadd hx hb d_law_136 ?_
  obtain ⟨v1, e1, h⟩ := fr_bind h
  refine fl_sld hx hb hX hbl hbA hS e1 d_law_137 ?_
  refine lv_aload_n hx hb d_law_138 rfl (lv_at hl 0 rfl) ?_
  refine lv_iload_n hx hb d_law_139 rfl (lv_at hl 3 rfl) ?_
  refine lv_iconst (v := 2) hx hb d_law_140 (by decide) ?_
  refine lv_iadd hx hb d_law_141 ?_
  obtain ⟨v2, e2, h⟩ := fr_bind h
  refine fl_sld hx hb hX hbl hbA hS e2 d_law_142 ?_
  refine lv_if_eq (tgt := 150) hx hb d_law_143 (by decide) (fun c3 => ?_) (fun c3 => ?_)
  · replace h := fr_ift c3 h
    refine lv_iconst (v := 0) hx hb d_law_150 (by decide) ?_
    obtain ⟨u4, e4, h⟩ := fr_bind h
    obtain ⟨w5, e5, h⟩ := fr_bind h
    refine fl_calli (fr_V (As := [.int v1, .int 0]) (rest := []) ⟨hx, hb, hml, hown, hts⟩ (c_FR_credential l D T Ax σ bx v1 0 w5.1 w5.2 e5) k_282 mv_FR_credential rfl rfl ⟨Nat.le_of_ble_eq_true rfl, Nat.le_of_ble_eq_true rfl⟩ (fr_preV hK hXs hHx e4 rfl _) rfl hl.1 rfl (Nat.le_of_ble_eq_true rfl) d_law_151 ⟨Nat.le_of_ble_eq_true rfl, Nat.le_of_ble_eq_true rfl⟩) hS hXA hHm hdx (fun H locs hHx hHm hS => ?_)
    refine lv_pop hx hb d_law_154 rfl ?_
    refine lv_aload_n hx hb d_law_155 rfl (lv_at hl 2 rfl) ?_
    refine lv_aload_n hx hb d_law_156 rfl (lv_at hl 0 rfl) ?_
    refine lv_iload_n hx hb d_law_157 rfl (lv_at hl 3 rfl) ?_
    refine lv_iconst (v := 1) hx hb d_law_158 (by decide) ?_
    refine lv_iadd hx hb d_law_159 ?_
    obtain ⟨v6, e6, h⟩ := fr_bind h
    refine fl_sld hx hb hX hbl hbA hS e6 d_law_160 ?_
    refine lv_aload_n hx hb d_law_161 rfl (lv_at hl 0 rfl) ?_
    refine lv_iload_n hx hb d_law_162 rfl (lv_at hl 3 rfl) ?_
    refine lv_iconst (v := 2) hx hb d_law_163 (by decide) ?_
    refine lv_iadd hx hb d_law_164 ?_
    obtain ⟨v7, e7, h⟩ := fr_bind h
    refine fl_sld hx hb hX hbl hbA hS e7 d_law_165 ?_
    refine lv_if_eq (tgt := 173) hx hb d_law_166 (by decide) (fun c8 => ?_) (fun c8 => ?_)
    · replace h := fr_ift c8 h
      refine lv_iconst (v := 0) hx hb d_law_173 (by decide) ?_
      obtain ⟨u9, e9, h⟩ := fr_bind h
      obtain ⟨w10, e10, h⟩ := fr_bind h
      refine fl_calli (fr_V (As := [.int v6, .int 0]) (rest := []) ⟨hx, hb, hml, hown, hts⟩ (c_Md_credential l D T Am τ bm v6 0 w10.1 w10.2 e10) k_673 mv_Md_credential rfl rfl ⟨Nat.le_of_ble_eq_true rfl, Nat.le_of_ble_eq_true rfl⟩ (fr_preV hK hXs hHm e9 rfl _) rfl hl.1 rfl (Nat.le_of_ble_eq_true rfl) d_law_174 ⟨Nat.le_of_ble_eq_true rfl, Nat.le_of_ble_eq_true rfl⟩) hS hMA hHx hdm (fun H locs hHm hHx hS => ?_)
      refine lv_pop hx hb d_law_177 rfl ?_
      refine lv_goto (tgt := 769) hx hb d_law_178 (by decide) ?_
      cases h
      exact kx _ _ _ hHx hHm hS hl
    · replace h := fr_iff c8 h
      refine lv_iconst (v := 1) hx hb d_law_169 (by decide) ?_
      refine lv_goto (tgt := 174) hx hb d_law_170 (by decide) ?_
      obtain ⟨u11, e11, h⟩ := fr_bind h
      obtain ⟨w12, e12, h⟩ := fr_bind h
      refine fl_calli (fr_V (As := [.int v6, .int 1]) (rest := []) ⟨hx, hb, hml, hown, hts⟩ (c_Md_credential l D T Am τ bm v6 1 w12.1 w12.2 e12) k_673 mv_Md_credential rfl rfl ⟨Nat.le_of_ble_eq_true rfl, Nat.le_of_ble_eq_true rfl⟩ (fr_preV hK hXs hHm e11 rfl _) rfl hl.1 rfl (Nat.le_of_ble_eq_true rfl) d_law_174 ⟨Nat.le_of_ble_eq_true rfl, Nat.le_of_ble_eq_true rfl⟩) hS hMA hHx hdm (fun H locs hHm hHx hS => ?_)
      refine lv_pop hx hb d_law_177 rfl ?_
      refine lv_goto (tgt := 769) hx hb d_law_178 (by decide) ?_
      cases h
      exact kx _ _ _ hHx hHm hS hl
  · replace h := fr_iff c3 h
    refine lv_iconst (v := 1) hx hb d_law_146 (by decide) ?_
    refine lv_goto (tgt := 151) hx hb d_law_147 (by decide) ?_
    obtain ⟨u13, e13, h⟩ := fr_bind h
    obtain ⟨w14, e14, h⟩ := fr_bind h
    refine fl_calli (fr_V (As := [.int v1, .int 1]) (rest := []) ⟨hx, hb, hml, hown, hts⟩ (c_FR_credential l D T Ax σ bx v1 1 w14.1 w14.2 e14) k_282 mv_FR_credential rfl rfl ⟨Nat.le_of_ble_eq_true rfl, Nat.le_of_ble_eq_true rfl⟩ (fr_preV hK hXs hHx e13 rfl _) rfl hl.1 rfl (Nat.le_of_ble_eq_true rfl) d_law_151 ⟨Nat.le_of_ble_eq_true rfl, Nat.le_of_ble_eq_true rfl⟩) hS hXA hHm hdx (fun H locs hHx hHm hS => ?_)
    refine lv_pop hx hb d_law_154 rfl ?_
    refine lv_aload_n hx hb d_law_155 rfl (lv_at hl 2 rfl) ?_
    refine lv_aload_n hx hb d_law_156 rfl (lv_at hl 0 rfl) ?_
    refine lv_iload_n hx hb d_law_157 rfl (lv_at hl 3 rfl) ?_
    refine lv_iconst (v := 1) hx hb d_law_158 (by decide) ?_
    refine lv_iadd hx hb d_law_159 ?_
    obtain ⟨v15, e15, h⟩ := fr_bind h
    refine fl_sld hx hb hX hbl hbA hS e15 d_law_160 ?_
    refine lv_aload_n hx hb d_law_161 rfl (lv_at hl 0 rfl) ?_
    refine lv_iload_n hx hb d_law_162 rfl (lv_at hl 3 rfl) ?_
    refine lv_iconst (v := 2) hx hb d_law_163 (by decide) ?_
    refine lv_iadd hx hb d_law_164 ?_
    obtain ⟨v16, e16, h⟩ := fr_bind h
    refine fl_sld hx hb hX hbl hbA hS e16 d_law_165 ?_
    refine lv_if_eq (tgt := 173) hx hb d_law_166 (by decide) (fun c17 => ?_) (fun c17 => ?_)
    · replace h := fr_ift c17 h
      refine lv_iconst (v := 0) hx hb d_law_173 (by decide) ?_
      obtain ⟨u18, e18, h⟩ := fr_bind h
      obtain ⟨w19, e19, h⟩ := fr_bind h
      refine fl_calli (fr_V (As := [.int v15, .int 0]) (rest := []) ⟨hx, hb, hml, hown, hts⟩ (c_Md_credential l D T Am τ bm v15 0 w19.1 w19.2 e19) k_673 mv_Md_credential rfl rfl ⟨Nat.le_of_ble_eq_true rfl, Nat.le_of_ble_eq_true rfl⟩ (fr_preV hK hXs hHm e18 rfl _) rfl hl.1 rfl (Nat.le_of_ble_eq_true rfl) d_law_174 ⟨Nat.le_of_ble_eq_true rfl, Nat.le_of_ble_eq_true rfl⟩) hS hMA hHx hdm (fun H locs hHm hHx hS => ?_)
      refine lv_pop hx hb d_law_177 rfl ?_
      refine lv_goto (tgt := 769) hx hb d_law_178 (by decide) ?_
      cases h
      exact kx _ _ _ hHx hHm hS hl
    · replace h := fr_iff c17 h
      refine lv_iconst (v := 1) hx hb d_law_169 (by decide) ?_
      refine lv_goto (tgt := 174) hx hb d_law_170 (by decide) ?_
      obtain ⟨u20, e20, h⟩ := fr_bind h
      obtain ⟨w21, e21, h⟩ := fr_bind h
      refine fl_calli (fr_V (As := [.int v15, .int 1]) (rest := []) ⟨hx, hb, hml, hown, hts⟩ (c_Md_credential l D T Am τ bm v15 1 w21.1 w21.2 e21) k_673 mv_Md_credential rfl rfl ⟨Nat.le_of_ble_eq_true rfl, Nat.le_of_ble_eq_true rfl⟩ (fr_preV hK hXs hHm e20 rfl _) rfl hl.1 rfl (Nat.le_of_ble_eq_true rfl) d_law_174 ⟨Nat.le_of_ble_eq_true rfl, Nat.le_of_ble_eq_true rfl⟩) hS hMA hHx hdm (fun H locs hHm hHx hS => ?_)
      refine lv_pop hx hb d_law_177 rfl ?_
      refine lv_goto (tgt := 769) hx hb d_law_178 (by decide) ?_
      cases h
      exact kx _ _ _ hHx hHm hS hl
set_option maxHeartbeats 4000000 in
set_option maxRecDepth 100000 in
theorem w_law_C1 {p : Program} {l : Launch} {e : Env} {s : State} {m : MethodId} {below : List Frame} {meth : Method} {c : Code} {D : va_G} {T : Nat → ClassId} {Ax Am : Nat → Prop} {b L bx bm : Nat} {xs : Nat → Int32} {Q : State → Prop} (C0 : fl_At p s m meth c b L xs D T Ax Am) (i : Int32) (σ τ : fr_S) (z : fr_S × fr_S) (h : m_law_C1 xs L bx bm i σ τ = some z) (H : Heap) (locs : List Loc) (hHx : fr_H D T Ax σ H) (hHm : fr_H D T Am τ H) (hS : va_S (fun q => s.heap.size ≤ q) s.heap H locs) (ls : Array Slot) (hl : lv_has ls 4 [(0, .ref b), (1, .ref bx), (2, .ref bm), (3, .int i)])
    (kx : ∀ (H : Heap) (locs : List Loc) (ls : Array Slot), fr_H D T Ax z.1 H → fr_H D T Am z.2 H → va_S (fun q => s.heap.size ≤ q) s.heap H locs → lv_has ls 4 [(0, .ref b), (1, .ref bx), (2, .ref bm), (3, .int i)] → W p l e room_1 s m #[Value.ref b] below meth c H locs 161 9742 Q (F0 m 769 ls [])) : W p l e room_1 s m #[Value.ref b] below meth c H locs 161 9742 Q (F0 m 181 ls []) := by
  obtain ⟨hx, hb, hml, hown, hts, hX, hbl, hbA, hK, hXs, hXA, hMA, hdx, hdm⟩ := C0
  unfold m_law_C1 at h
  refine lv_aload_n hx hb d_law_181 rfl (lv_at hl 1 rfl) ?_
  refine lv_aload_n hx hb d_law_182 rfl (lv_at hl 0 rfl) ?_
  refine lv_iload_n hx hb d_law_183 rfl (lv_at hl 3 rfl) ?_
  refine lv_iconst (v := 1) hx hb d_law_184 (by decide) ?_
  refine lv_iadd hx hb d_law_185 ?_
  obtain ⟨v1, e1, h⟩ := fr_bind h
  refine fl_sld hx hb hX hbl hbA hS e1 d_law_186 ?_
  refine lv_aload_n hx hb d_law_187 rfl (lv_at hl 0 rfl) ?_
  refine lv_iload_n hx hb d_law_188 rfl (lv_at hl 3 rfl) ?_
  refine lv_iconst (v := 2) hx hb d_law_189 (by decide) ?_
  refine lv_iadd hx hb d_law_190 ?_
  obtain ⟨v2, e2, h⟩ := fr_bind h
  refine fl_sld hx hb hX hbl hbA hS e2 d_law_191 ?_
  obtain ⟨u3, e3, h⟩ := fr_bind h
  obtain ⟨w4, e4, h⟩ := fr_bind h
  refine fl_calli (fr_V (As := [.int v1, .int v2]) (rest := []) ⟨hx, hb, hml, hown, hts⟩ (c_FR_place l D T Ax σ bx v1 v2 w4.1 w4.2 e4) k_289 mv_FR_place rfl rfl ⟨Nat.le_of_ble_eq_true rfl, Nat.le_of_ble_eq_true rfl⟩ (fr_preV hK hXs hHx e3 rfl _) rfl hl.1 rfl (Nat.le_of_ble_eq_true rfl) d_law_192 ⟨Nat.le_of_ble_eq_true rfl, Nat.le_of_ble_eq_true rfl⟩) hS hXA hHm hdx (fun H locs hHx hHm hS => ?_)
  refine lv_pop hx hb d_law_195 rfl ?_
  refine lv_aload_n hx hb d_law_196 rfl (lv_at hl 2 rfl) ?_
  refine lv_aload_n hx hb d_law_197 rfl (lv_at hl 0 rfl) ?_
  refine lv_iload_n hx hb d_law_198 rfl (lv_at hl 3 rfl) ?_
  refine lv_iconst (v := 1) hx hb d_law_199 (by decide) ?_
  refine lv_iadd hx hb d_law_200 ?_
  obtain ⟨v5, e5, h⟩ := fr_bind h
  refine fl_sld hx hb hX hbl hbA hS e5 d_law_201 ?_
  refine lv_aload_n hx hb d_law_202 rfl (lv_at hl 0 rfl) ?_
  refine lv_iload_n hx hb d_law_203 rfl (lv_at hl 3 rfl) ?_
  refine lv_iconst (v := 2) hx hb d_law_204 (by decide) ?_
  refine lv_iadd hx hb d_law_205 ?_
  obtain ⟨v6, e6, h⟩ := fr_bind h
  refine fl_sld hx hb hX hbl hbA hS e6 d_law_206 ?_
  obtain ⟨u7, e7, h⟩ := fr_bind h
  obtain ⟨w8, e8, h⟩ := fr_bind h
  refine fl_calli (fr_V (As := [.int v5, .int v6]) (rest := []) ⟨hx, hb, hml, hown, hts⟩ (c_Md_place l D T Am τ bm v5 v6 w8.1 w8.2 e8) k_677 mv_Md_place rfl rfl ⟨Nat.le_of_ble_eq_true rfl, Nat.le_of_ble_eq_true rfl⟩ (fr_preV hK hXs hHm e7 rfl _) rfl hl.1 rfl (Nat.le_of_ble_eq_true rfl) d_law_207 ⟨Nat.le_of_ble_eq_true rfl, Nat.le_of_ble_eq_true rfl⟩) hS hMA hHx hdm (fun H locs hHm hHx hS => ?_)
  refine lv_pop hx hb d_law_210 rfl ?_
  refine lv_goto (tgt := 769) hx hb d_law_211 (by decide) ?_
  cases h
  exact kx _ _ _ hHx hHm hS hl
set_option maxHeartbeats 4000000 in
set_option maxRecDepth 100000 in
theorem w_law_C2 {p : Program} {l : Launch} {e : Env} {s : State} {m : MethodId} {below : List Frame} {meth : Method} {c : Code} {D : va_G} {T : Nat → ClassId} {Ax Am : Nat → Prop} {b L bx bm : Nat} {xs : Nat → Int32} {Q : State → Prop} (C0 : fl_At p s m meth c b L xs D T Ax Am) (i : Int32) (σ τ : fr_S) (z : fr_S × fr_S) (h : m_law_C2 xs L bx bm i σ τ = some z) (H : Heap) (locs : List Loc) (hHx : fr_H D T Ax σ H) (hHm : fr_H D T Am τ H) (hS : va_S (fun q => s.heap.size ≤ q) s.heap H locs) (ls : Array Slot) (hl : lv_has ls 4 [(0, .ref b), (1, .ref bx), (2, .ref bm), (3, .int i)])
    (kx : ∀ (H : Heap) (locs : List Loc) (ls : Array Slot), fr_H D T Ax z.1 H → fr_H D T Am z.2 H → va_S (fun q => s.heap.size ≤ q) s.heap H locs → lv_has ls 4 [(0, .ref b), (1, .ref bx), (2, .ref bm), (3, .int i)] → W p l e room_1 s m #[Value.ref b] below meth c H locs 161 9742 Q (F0 m 769 ls [])) : W p l e room_1 s m #[Value.ref b] below meth c H locs 161 9742 Q (F0 m 214 ls []) := by
  obtain ⟨hx, hb, hml, hown, hts, hX, hbl, hbA, hK, hXs, hXA, hMA, hdx, hdm⟩ := C0
  unfold m_law_C2 at h
  refine lv_aload_n hx hb d_law_214 rfl (lv_at hl 1 rfl) ?_
  refine lv_aload_n hx hb d_law_215 rfl (lv_at hl 0 rfl) ?_
  refine lv_iload_n hx hb d_law_216 rfl (lv_at hl 3 rfl) ?_
  refine lv_iconst (v := 1) hx hb d_law_217 (by decide) ?_
  refine lv_iadd hx hb d_law_218 ?_
  obtain ⟨v1, e1, h⟩ := fr_bind h
  refine fl_sld hx hb hX hbl hbA hS e1 d_law_219 ?_
  refine lv_aload_n hx hb d_law_220 rfl (lv_at hl 0 rfl) ?_
  refine lv_iload_n hx hb d_law_221 rfl (lv_at hl 3 rfl) ?_
  refine lv_iconst (v := 2) hx hb d_law_222 (by decide) ?_
  refine lv_iadd hx hb d_law_223 ?_
  obtain ⟨v2, e2, h⟩ := fr_bind h
  refine fl_sld hx hb hX hbl hbA hS e2 d_law_224 ?_
  refine lv_i2l (v := (v2).toInt64) hx hb d_law_225 rfl ?_
  refine lv_bipush (v := 32) hx hb d_law_226 (by decide) ?_
  refine lv_lshl (v := ((v2).toInt64 <<< ((32 : Int32).toInt64 &&& 63))) hx hb d_law_228 rfl ?_
  refine lv_aload_n hx hb d_law_229 rfl (lv_at hl 0 rfl) ?_
  refine lv_iload_n hx hb d_law_230 rfl (lv_at hl 3 rfl) ?_
  refine lv_iconst (v := 3) hx hb d_law_231 (by decide) ?_
  refine lv_iadd hx hb d_law_232 ?_
  obtain ⟨v3, e3, h⟩ := fr_bind h
  refine fl_sld hx hb hX hbl hbA hS e3 d_law_233 ?_
  refine lv_i2l (v := (v3).toInt64) hx hb d_law_234 rfl ?_
  refine lv_ldc2 (v := (4294967295)) hx hb hown (hts _ k_817) d_law_235 ?_
  refine lv_land hx hb d_law_238 ?_
  refine lv_lor hx hb d_law_239 ?_
  refine lv_aload_n hx hb d_law_240 rfl (lv_at hl 0 rfl) ?_
  refine lv_iload_n hx hb d_law_241 rfl (lv_at hl 3 rfl) ?_
  refine lv_iconst (v := 4) hx hb d_law_242 (by decide) ?_
  refine lv_iadd hx hb d_law_243 ?_
  obtain ⟨v4, e4, h⟩ := fr_bind h
  refine fl_sld hx hb hX hbl hbA hS e4 d_law_244 ?_
  obtain ⟨u5, e5, h⟩ := fr_bind h
  obtain ⟨w6, e6, h⟩ := fr_bind h
  refine fl_calli (fr_V (As := [.int v1, .long (((v2).toInt64 <<< ((32 : Int32).toInt64 &&& 63)) ||| ((v3).toInt64 &&& (4294967295))), .int v4]) (rest := []) ⟨hx, hb, hml, hown, hts⟩ (c_FR_content l D T Ax σ bx v1 ((((v2).toInt64 <<< ((32 : Int32).toInt64 &&& 63)) ||| ((v3).toInt64 &&& (4294967295)))) v4 w6.1 w6.2 e6) k_293 mv_FR_content rfl rfl ⟨Nat.le_of_ble_eq_true rfl, Nat.le_of_ble_eq_true rfl⟩ (fr_preV hK hXs hHx e5 rfl _) rfl hl.1 rfl (Nat.le_of_ble_eq_true rfl) d_law_245 ⟨Nat.le_of_ble_eq_true rfl, Nat.le_of_ble_eq_true rfl⟩) hS hXA hHm hdx (fun H locs hHx hHm hS => ?_)
  refine lv_pop hx hb d_law_248 rfl ?_
  refine lv_aload_n hx hb d_law_249 rfl (lv_at hl 2 rfl) ?_
  refine lv_aload_n hx hb d_law_250 rfl (lv_at hl 0 rfl) ?_
  refine lv_iload_n hx hb d_law_251 rfl (lv_at hl 3 rfl) ?_
  refine lv_iconst (v := 1) hx hb d_law_252 (by decide) ?_
  refine lv_iadd hx hb d_law_253 ?_
  obtain ⟨v7, e7, h⟩ := fr_bind h
  refine fl_sld hx hb hX hbl hbA hS e7 d_law_254 ?_
  refine lv_aload_n hx hb d_law_255 rfl (lv_at hl 0 rfl) ?_
  refine lv_iload_n hx hb d_law_256 rfl (lv_at hl 3 rfl) ?_
  refine lv_iconst (v := 2) hx hb d_law_257 (by decide) ?_
  refine lv_iadd hx hb d_law_258 ?_
  obtain ⟨v8, e8, h⟩ := fr_bind h
  refine fl_sld hx hb hX hbl hbA hS e8 d_law_259 ?_
  refine lv_i2l (v := (v8).toInt64) hx hb d_law_260 rfl ?_
  refine lv_bipush (v := 32) hx hb d_law_261 (by decide) ?_
  refine lv_lshl (v := ((v8).toInt64 <<< ((32 : Int32).toInt64 &&& 63))) hx hb d_law_263 rfl ?_
  refine lv_aload_n hx hb d_law_264 rfl (lv_at hl 0 rfl) ?_
  refine lv_iload_n hx hb d_law_265 rfl (lv_at hl 3 rfl) ?_
  refine lv_iconst (v := 3) hx hb d_law_266 (by decide) ?_
  refine lv_iadd hx hb d_law_267 ?_
  obtain ⟨v9, e9, h⟩ := fr_bind h
  refine fl_sld hx hb hX hbl hbA hS e9 d_law_268 ?_
  refine lv_i2l (v := (v9).toInt64) hx hb d_law_269 rfl ?_
  refine lv_ldc2 (v := (4294967295)) hx hb hown (hts _ k_817) d_law_270 ?_
  refine lv_land hx hb d_law_273 ?_
  refine lv_lor hx hb d_law_274 ?_
  refine lv_aload_n hx hb d_law_275 rfl (lv_at hl 0 rfl) ?_
  refine lv_iload_n hx hb d_law_276 rfl (lv_at hl 3 rfl) ?_
  refine lv_iconst (v := 4) hx hb d_law_277 (by decide) ?_
  refine lv_iadd hx hb d_law_278 ?_
  obtain ⟨v10, e10, h⟩ := fr_bind h
  refine fl_sld hx hb hX hbl hbA hS e10 d_law_279 ?_
  obtain ⟨u11, e11, h⟩ := fr_bind h
  obtain ⟨w12, e12, h⟩ := fr_bind h
  refine fl_calli (fr_V (As := [.int v7, .long (((v8).toInt64 <<< ((32 : Int32).toInt64 &&& 63)) ||| ((v9).toInt64 &&& (4294967295))), .int v10]) (rest := []) ⟨hx, hb, hml, hown, hts⟩ (c_Md_content l D T Am τ bm v7 ((((v8).toInt64 <<< ((32 : Int32).toInt64 &&& 63)) ||| ((v9).toInt64 &&& (4294967295)))) v10 w12.1 w12.2 e12) k_681 mv_Md_content rfl rfl ⟨Nat.le_of_ble_eq_true rfl, Nat.le_of_ble_eq_true rfl⟩ (fr_preV hK hXs hHm e11 rfl _) rfl hl.1 rfl (Nat.le_of_ble_eq_true rfl) d_law_280 ⟨Nat.le_of_ble_eq_true rfl, Nat.le_of_ble_eq_true rfl⟩) hS hMA hHx hdm (fun H locs hHm hHx hS => ?_)
  refine lv_pop hx hb d_law_283 rfl ?_
  refine lv_goto (tgt := 769) hx hb d_law_284 (by decide) ?_
  cases h
  exact kx _ _ _ hHx hHm hS hl
set_option maxHeartbeats 4000000 in
set_option maxRecDepth 100000 in
theorem w_law_C3 {p : Program} {l : Launch} {e : Env} {s : State} {m : MethodId} {below : List Frame} {meth : Method} {c : Code} {D : va_G} {T : Nat → ClassId} {Ax Am : Nat → Prop} {b L bx bm : Nat} {xs : Nat → Int32} {Q : State → Prop} (C0 : fl_At p s m meth c b L xs D T Ax Am) (i : Int32) (σ τ : fr_S) (z : fr_S × fr_S) (h : m_law_C3 xs L bx bm i σ τ = some z) (H : Heap) (locs : List Loc) (hHx : fr_H D T Ax σ H) (hHm : fr_H D T Am τ H) (hS : va_S (fun q => s.heap.size ≤ q) s.heap H locs) (ls : Array Slot) (hl : lv_has ls 4 [(0, .ref b), (1, .ref bx), (2, .ref bm), (3, .int i)])
    (kx : ∀ (H : Heap) (locs : List Loc) (ls : Array Slot), fr_H D T Ax z.1 H → fr_H D T Am z.2 H → va_S (fun q => s.heap.size ≤ q) s.heap H locs → lv_has ls 4 [(0, .ref b), (1, .ref bx), (2, .ref bm), (3, .int i)] → W p l e room_1 s m #[Value.ref b] below meth c H locs 161 9742 Q (F0 m 769 ls [])) : W p l e room_1 s m #[Value.ref b] below meth c H locs 161 9742 Q (F0 m 287 ls []) := by
  obtain ⟨hx, hb, hml, hown, hts, hX, hbl, hbA, hK, hXs, hXA, hMA, hdx, hdm⟩ := C0
  unfold m_law_C3 at h
  refine lv_aload_n hx hb d_law_287 rfl (lv_at hl 1 rfl) ?_
  refine lv_aload_n hx hb d_law_288 rfl (lv_at hl 0 rfl) ?_
  refine lv_iload_n hx hb d_law_289 rfl (lv_at hl 3 rfl) ?_
  refine lv_iconst (v := 1) hx hb d_law_290 (by decide) ?_
  refine lv_iadd hx hb d_law_291 ?_
  obtain ⟨v1, e1, h⟩ := fr_bind h
  refine fl_sld hx hb hX hbl hbA hS e1 d_law_292 ?_
  refine lv_aload_n hx hb d_law_293 rfl (lv_at hl 0 rfl) ?_
  refine lv_iload_n hx hb d_law_294 rfl (lv_at hl 3 rfl) ?_
  refine lv_iconst (v := 2) hx hb d_law_295 (by decide) ?_
  refine lv_iadd hx hb d_law_296 ?_
  obtain ⟨v2, e2, h⟩ := fr_bind h
  refine fl_sld hx hb hX hbl hbA hS e2 d_law_297 ?_
  refine lv_aload_n hx hb d_law_298 rfl (lv_at hl 0 rfl) ?_
  refine lv_iload_n hx hb d_law_299 rfl (lv_at hl 3 rfl) ?_
  refine lv_iconst (v := 3) hx hb d_law_300 (by decide) ?_
  refine lv_iadd hx hb d_law_301 ?_
  obtain ⟨v3, e3, h⟩ := fr_bind h
  refine fl_sld hx hb hX hbl hbA hS e3 d_law_302 ?_
  obtain ⟨u4, e4, h⟩ := fr_bind h
  obtain ⟨w5, e5, h⟩ := fr_bind h
  refine fl_calli (fr_V (As := [.int v1, .int v2, .int v3]) (rest := []) ⟨hx, hb, hml, hown, hts⟩ (c_FR_does l D T Ax σ bx v1 v2 v3 w5.1 w5.2 e5) k_305 mv_FR_does rfl rfl ⟨Nat.le_of_ble_eq_true rfl, Nat.le_of_ble_eq_true rfl⟩ (fr_preV hK hXs hHx e4 rfl _) rfl hl.1 rfl (Nat.le_of_ble_eq_true rfl) d_law_303 ⟨Nat.le_of_ble_eq_true rfl, Nat.le_of_ble_eq_true rfl⟩) hS hXA hHm hdx (fun H locs hHx hHm hS => ?_)
  refine lv_pop hx hb d_law_306 rfl ?_
  refine lv_aload_n hx hb d_law_307 rfl (lv_at hl 2 rfl) ?_
  refine lv_aload_n hx hb d_law_308 rfl (lv_at hl 0 rfl) ?_
  refine lv_iload_n hx hb d_law_309 rfl (lv_at hl 3 rfl) ?_
  refine lv_iconst (v := 1) hx hb d_law_310 (by decide) ?_
  refine lv_iadd hx hb d_law_311 ?_
  obtain ⟨v6, e6, h⟩ := fr_bind h
  refine fl_sld hx hb hX hbl hbA hS e6 d_law_312 ?_
  refine lv_aload_n hx hb d_law_313 rfl (lv_at hl 0 rfl) ?_
  refine lv_iload_n hx hb d_law_314 rfl (lv_at hl 3 rfl) ?_
  refine lv_iconst (v := 2) hx hb d_law_315 (by decide) ?_
  refine lv_iadd hx hb d_law_316 ?_
  obtain ⟨v7, e7, h⟩ := fr_bind h
  refine fl_sld hx hb hX hbl hbA hS e7 d_law_317 ?_
  refine lv_aload_n hx hb d_law_318 rfl (lv_at hl 0 rfl) ?_
  refine lv_iload_n hx hb d_law_319 rfl (lv_at hl 3 rfl) ?_
  refine lv_iconst (v := 3) hx hb d_law_320 (by decide) ?_
  refine lv_iadd hx hb d_law_321 ?_
  obtain ⟨v8, e8, h⟩ := fr_bind h
  refine fl_sld hx hb hX hbl hbA hS e8 d_law_322 ?_
  obtain ⟨u9, e9, h⟩ := fr_bind h
  obtain ⟨w10, e10, h⟩ := fr_bind h
  refine fl_calli (fr_V (As := [.int v6, .int v7, .int v8]) (rest := []) ⟨hx, hb, hml, hown, hts⟩ (c_Md_does l D T Am τ bm v6 v7 v8 w10.1 w10.2 e10) k_690 mv_Md_does rfl rfl ⟨Nat.le_of_ble_eq_true rfl, Nat.le_of_ble_eq_true rfl⟩ (fr_preV hK hXs hHm e9 rfl _) rfl hl.1 rfl (Nat.le_of_ble_eq_true rfl) d_law_323 ⟨Nat.le_of_ble_eq_true rfl, Nat.le_of_ble_eq_true rfl⟩) hS hMA hHx hdm (fun H locs hHm hHx hS => ?_)
  refine lv_pop hx hb d_law_326 rfl ?_
  refine lv_goto (tgt := 769) hx hb d_law_327 (by decide) ?_
  cases h
  exact kx _ _ _ hHx hHm hS hl
