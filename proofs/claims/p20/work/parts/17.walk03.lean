set_option maxHeartbeats 4000000 in
set_option maxRecDepth 100000 in
theorem w_Md_turn_L122 {p : Program} {l : Launch} {e : Env} {s : State} {m : MethodId} {args : Array Value} {below : List Frame} {meth : Method} {c : Code} {D : va_G} {T : Nat → ClassId} {A : Nat → Prop} (C0 : fr_At p s m args meth c "FetchRulesModel" b_Md_turn 7 none) (hK : va_K D vwCl (fr_tys T) s) (hX : fr_X s) :
    ∀ (n : Nat) (b0 : Nat) (y1 : Int32) (y2 : Int32) (y3 : Int32) (y4 : Int32) (y5 : Int32) (σ : fr_S) (σ1 : fr_S), m_Md_turn_L122 n b0 y1 y2 y3 y4 y5 σ = some σ1 → ∀ (H : Heap) (locs : List Loc), fr_H D T A σ H → va_S A s.heap H locs → ∀ (ls : Array Slot), lv_has ls 7 [(0, .ref b0), (1, .int y1), (2, .int y2), (3, .int y3), (4, .int y4), (5, .int y5)] → W p l e (headSpec (Cond.code y_Md_turn b_Md_turn 7 none :: fr_W) ({ frames := 3, cells := 0, slots := 0, locals := 68 } : Room)).room s m args below meth c H locs 0 0 (MQ below (fr_Qv D T A σ1) args s 0 0 A) (F0 m 122 ls []) := by
  obtain ⟨hx, hb, hr, hml, hown, hts, hlocks⟩ := id C0
  intro n
  induction n with
  | zero => intro b0 y1 y2 y3 y4 y5 σ σ1 h; cases h
  | succ n ih =>
    intro b0 y1 y2 y3 y4 y5 σ σ1 h H locs hH hS ls hl
    unfold m_Md_turn_L122 at h
    refine lv_iload hx hb d_Md_turn_122 (lv_at hl 5 rfl) ?_
    refine lv_iload hx hb d_Md_turn_124 (lv_at hl 4 rfl) ?_
    refine lv_icmp_ge (tgt := 221) hx hb d_Md_turn_126 (by decide) (fun c43 => ?_) (fun c43 => ?_)
    · replace h := fr_ift c43 h
      refine lv_aload_n hx hb d_Md_turn_221 rfl (lv_at hl 0 rfl) ?_
      obtain ⟨q44, e44, h⟩ := fr_bind h
      refine fr_gP hx hb hts in_Md hown hK hH e44 rfl 27 (by decide) (hts _ k_567) (fun _ h9 => h9) rfl d_Md_turn_222 ?_
      refine lv_iload_n hx hb d_Md_turn_225 rfl (lv_at hl 1 rfl) ?_
      obtain ⟨v45, e45, h⟩ := fr_bind h
      refine fr_ild hx hb hK hH e45 d_Md_turn_226 ?_
      refine lv_aload_n hx hb d_Md_turn_227 rfl (lv_at hl 0 rfl) ?_
      obtain ⟨q46, e46, h⟩ := fr_bind h
      refine fr_gP hx hb hts in_Md hown hK hH e46 rfl 13 (by decide) (hts _ k_553) (fun _ h9 => h9) rfl d_Md_turn_228 ?_
      refine lv_iload_n hx hb d_Md_turn_231 rfl (lv_at hl 2 rfl) ?_
      obtain ⟨v47, e47, h⟩ := fr_bind h
      refine fr_ild hx hb hK hH e47 d_Md_turn_232 ?_
      refine lv_icmp_lt (tgt := 244) hx hb d_Md_turn_233 (by decide) (fun c48 => ?_) (fun c48 => ?_)
      · replace h := fr_ift c48 h
        refine lv_iload_n hx hb d_Md_turn_244 rfl (lv_at hl 3 rfl) ?_
        refine lv_if_eq (tgt := 253) hx hb d_Md_turn_245 (by decide) (fun c49 => ?_) (fun c49 => ?_)
        · replace h := fr_ift c49 h
          exact fr_vret hx hb hr hlocks h hH hK hX hS d_Md_turn_253
        · replace h := fr_iff c49 h
          refine lv_aload_n hx hb d_Md_turn_248 rfl (lv_at hl 0 rfl) ?_
          refine lv_iload_n hx hb d_Md_turn_249 rfl (lv_at hl 1 rfl) ?_
          obtain ⟨u50, e50, h⟩ := fr_bind h
          obtain ⟨σ_51, e51, h⟩ := fr_bind h
          refine fr_callv (fr_V (As := [.int y1]) (rest := []) ⟨hx, hb, hml, hown, hts⟩ (c_Md_falter l D T A σ b0 y1 σ_51 e51) k_758 mv_Md_falter rfl rfl ⟨Nat.le_of_ble_eq_true rfl, Nat.le_of_ble_eq_true rfl⟩ (fr_preV hK hX hH e50 rfl _) rfl hl.1 rfl (Nat.le_of_ble_eq_true rfl) d_Md_turn_250 ⟨Nat.zero_le _, Nat.zero_le _⟩) hS (fun H locs hH hS => ?_)
          exact fr_vret hx hb hr hlocks h hH hK hX hS d_Md_turn_253
      · replace h := fr_iff c48 h
        refine lv_aload_n hx hb d_Md_turn_236 rfl (lv_at hl 0 rfl) ?_
        refine lv_iload_n hx hb d_Md_turn_237 rfl (lv_at hl 1 rfl) ?_
        obtain ⟨u52, e52, h⟩ := fr_bind h
        obtain ⟨σ_53, e53, h⟩ := fr_bind h
        refine fr_callv (fr_V (As := [.int y1]) (rest := []) ⟨hx, hb, hml, hown, hts⟩ (c_Md_judge l D T A σ b0 y1 σ_53 e53) k_750 mv_Md_judge rfl rfl ⟨Nat.le_of_ble_eq_true rfl, Nat.le_of_ble_eq_true rfl⟩ (fr_preV hK hX hH e52 rfl _) rfl hl.1 rfl (Nat.le_of_ble_eq_true rfl) d_Md_turn_238 ⟨Nat.zero_le _, Nat.zero_le _⟩) hS (fun H locs hH hS => ?_)
        refine lv_goto (tgt := 253) hx hb d_Md_turn_241 (by decide) ?_
        exact fr_vret hx hb hr hlocks h hH hK hX hS d_Md_turn_253
    · replace h := fr_iff c43 h
      refine lv_aload_n hx hb d_Md_turn_129 rfl (lv_at hl 0 rfl) ?_
      obtain ⟨q54, e54, h⟩ := fr_bind h
      refine fr_gP hx hb hts in_Md hown hK hH e54 rfl 27 (by decide) (hts _ k_567) (fun _ h9 => h9) rfl d_Md_turn_130 ?_
      refine lv_iload_n hx hb d_Md_turn_133 rfl (lv_at hl 1 rfl) ?_
      obtain ⟨v55, e55, h⟩ := fr_bind h
      refine fr_ild hx hb hK hH e55 d_Md_turn_134 ?_
      refine lv_aload_n hx hb d_Md_turn_135 rfl (lv_at hl 0 rfl) ?_
      obtain ⟨q56, e56, h⟩ := fr_bind h
      refine fr_gP hx hb hts in_Md hown hK hH e56 rfl 13 (by decide) (hts _ k_553) (fun _ h9 => h9) rfl d_Md_turn_136 ?_
      refine lv_iload_n hx hb d_Md_turn_139 rfl (lv_at hl 2 rfl) ?_
      obtain ⟨v57, e57, h⟩ := fr_bind h
      refine fr_ild hx hb hK hH e57 d_Md_turn_140 ?_
      refine lv_icmp_ge (tgt := 221) hx hb d_Md_turn_141 (by decide) (fun c58 => ?_) (fun c58 => ?_)
      · replace h := fr_ift c58 h
        refine lv_aload_n hx hb d_Md_turn_221 rfl (lv_at hl 0 rfl) ?_
        obtain ⟨q59, e59, h⟩ := fr_bind h
        refine fr_gP hx hb hts in_Md hown hK hH e59 rfl 27 (by decide) (hts _ k_567) (fun _ h9 => h9) rfl d_Md_turn_222 ?_
        refine lv_iload_n hx hb d_Md_turn_225 rfl (lv_at hl 1 rfl) ?_
        obtain ⟨v60, e60, h⟩ := fr_bind h
        refine fr_ild hx hb hK hH e60 d_Md_turn_226 ?_
        refine lv_aload_n hx hb d_Md_turn_227 rfl (lv_at hl 0 rfl) ?_
        obtain ⟨q61, e61, h⟩ := fr_bind h
        refine fr_gP hx hb hts in_Md hown hK hH e61 rfl 13 (by decide) (hts _ k_553) (fun _ h9 => h9) rfl d_Md_turn_228 ?_
        refine lv_iload_n hx hb d_Md_turn_231 rfl (lv_at hl 2 rfl) ?_
        obtain ⟨v62, e62, h⟩ := fr_bind h
        refine fr_ild hx hb hK hH e62 d_Md_turn_232 ?_
        refine lv_icmp_lt (tgt := 244) hx hb d_Md_turn_233 (by decide) (fun c63 => ?_) (fun c63 => ?_)
        · replace h := fr_ift c63 h
          refine lv_iload_n hx hb d_Md_turn_244 rfl (lv_at hl 3 rfl) ?_
          refine lv_if_eq (tgt := 253) hx hb d_Md_turn_245 (by decide) (fun c64 => ?_) (fun c64 => ?_)
          · replace h := fr_ift c64 h
            exact fr_vret hx hb hr hlocks h hH hK hX hS d_Md_turn_253
          · replace h := fr_iff c64 h
            refine lv_aload_n hx hb d_Md_turn_248 rfl (lv_at hl 0 rfl) ?_
            refine lv_iload_n hx hb d_Md_turn_249 rfl (lv_at hl 1 rfl) ?_
            obtain ⟨u65, e65, h⟩ := fr_bind h
            obtain ⟨σ_66, e66, h⟩ := fr_bind h
            refine fr_callv (fr_V (As := [.int y1]) (rest := []) ⟨hx, hb, hml, hown, hts⟩ (c_Md_falter l D T A σ b0 y1 σ_66 e66) k_758 mv_Md_falter rfl rfl ⟨Nat.le_of_ble_eq_true rfl, Nat.le_of_ble_eq_true rfl⟩ (fr_preV hK hX hH e65 rfl _) rfl hl.1 rfl (Nat.le_of_ble_eq_true rfl) d_Md_turn_250 ⟨Nat.zero_le _, Nat.zero_le _⟩) hS (fun H locs hH hS => ?_)
            exact fr_vret hx hb hr hlocks h hH hK hX hS d_Md_turn_253
        · replace h := fr_iff c63 h
          refine lv_aload_n hx hb d_Md_turn_236 rfl (lv_at hl 0 rfl) ?_
          refine lv_iload_n hx hb d_Md_turn_237 rfl (lv_at hl 1 rfl) ?_
          obtain ⟨u67, e67, h⟩ := fr_bind h
          obtain ⟨σ_68, e68, h⟩ := fr_bind h
          refine fr_callv (fr_V (As := [.int y1]) (rest := []) ⟨hx, hb, hml, hown, hts⟩ (c_Md_judge l D T A σ b0 y1 σ_68 e68) k_750 mv_Md_judge rfl rfl ⟨Nat.le_of_ble_eq_true rfl, Nat.le_of_ble_eq_true rfl⟩ (fr_preV hK hX hH e67 rfl _) rfl hl.1 rfl (Nat.le_of_ble_eq_true rfl) d_Md_turn_238 ⟨Nat.zero_le _, Nat.zero_le _⟩) hS (fun H locs hH hS => ?_)
          refine lv_goto (tgt := 253) hx hb d_Md_turn_241 (by decide) ?_
          exact fr_vret hx hb hr hlocks h hH hK hX hS d_Md_turn_253
      · replace h := fr_iff c58 h
        refine lv_aload_n hx hb d_Md_turn_144 rfl (lv_at hl 0 rfl) ?_
        obtain ⟨q69, e69, h⟩ := fr_bind h
        refine fr_gP hx hb hts in_Md hown hK hH e69 rfl 17 (by decide) (hts _ k_557) (fun _ h9 => h9) rfl d_Md_turn_145 ?_
        refine lv_bipush (v := 100) hx hb d_Md_turn_148 (by decide) ?_
        refine lv_iload_n hx hb d_Md_turn_150 rfl (lv_at hl 2 rfl) ?_
        refine lv_imul hx hb d_Md_turn_151 ?_
        refine lv_aload_n hx hb d_Md_turn_152 rfl (lv_at hl 0 rfl) ?_
        obtain ⟨q70, e70, h⟩ := fr_bind h
        refine fr_gP hx hb hts in_Md hown hK hH e70 rfl 27 (by decide) (hts _ k_567) (fun _ h9 => h9) rfl d_Md_turn_153 ?_
        refine lv_iload_n hx hb d_Md_turn_156 rfl (lv_at hl 1 rfl) ?_
        obtain ⟨v71, e71, h⟩ := fr_bind h
        refine fr_ild hx hb hK hH e71 d_Md_turn_157 ?_
        refine lv_iadd hx hb d_Md_turn_158 ?_
        obtain ⟨v72, e72, h⟩ := fr_bind h
        refine fr_ild hx hb hK hH e72 d_Md_turn_159 ?_
        refine lv_istore (lv' := [(6, .int v72), (0, .ref b0), (1, .int y1), (2, .int y2), (3, .int y3), (4, .int y4), (5, .int y5)]) hx hb d_Md_turn_160 hl (by decide) rfl (fun ls hl => ?_)
        refine lv_aload_n hx hb d_Md_turn_162 rfl (lv_at hl 1 rfl) ?_
        obtain ⟨q73, e73, h⟩ := fr_bind h
        refine fr_gP hx hb hts in_Md hown hK hH e73 rfl 28 (by decide) (hts _ k_568) (fun _ h9 => h9) rfl d_Md_turn_163 ?_
        refine lv_bipush (v := 100) hx hb d_Md_turn_166 (by decide) ?_
        refine lv_iload_n hx hb d_Md_turn_168 rfl (lv_at hl 2 rfl) ?_
        refine lv_imul hx hb d_Md_turn_169 ?_
        refine lv_aload_n hx hb d_Md_turn_170 rfl (lv_at hl 1 rfl) ?_
        obtain ⟨q74, e74, h⟩ := fr_bind h
        refine fr_gP hx hb hts in_Md hown hK hH e74 rfl 27 (by decide) (hts _ k_567) (fun _ h9 => h9) rfl d_Md_turn_171 ?_
        refine lv_iload_n hx hb d_Md_turn_174 rfl (lv_at hl 2 rfl) ?_
        obtain ⟨v75, e75, h⟩ := fr_bind h
        refine fr_ild hx hb hK hH e75 d_Md_turn_175 ?_
        refine lv_iadd hx hb d_Md_turn_176 ?_
        refine lv_aload_n hx hb d_Md_turn_177 rfl (lv_at hl 1 rfl) ?_
        obtain ⟨q76, e76, h⟩ := fr_bind h
        refine fr_gP hx hb hts in_Md hown hK hH e76 rfl 27 (by decide) (hts _ k_567) (fun _ h9 => h9) rfl d_Md_turn_178 ?_
        refine lv_iload_n hx hb d_Md_turn_181 rfl (lv_at hl 2 rfl) ?_
        obtain ⟨v77, e77, h⟩ := fr_bind h
        refine fr_ild hx hb hK hH e77 d_Md_turn_182 ?_
        refine lv_if_ne (tgt := 202) hx hb d_Md_turn_183 (by decide) (fun c78 => ?_) (fun c78 => ?_)
        · replace h := fr_iff c78 h
          refine lv_iload hx hb d_Md_turn_202 (lv_at hl 0 rfl) ?_
          obtain ⟨σ_79, e79, h⟩ := fr_bind h
          refine fr_ist hx hb hK hH hS e79 d_Md_turn_204 (fun H locs hH hS => ?_)
          refine lv_aload_n hx hb d_Md_turn_205 rfl (lv_at hl 1 rfl) ?_
          obtain ⟨q80, e80, h⟩ := fr_bind h
          refine fr_gP hx hb hts in_Md hown hK hH e80 rfl 27 (by decide) (hts _ k_567) (fun _ h9 => h9) rfl d_Md_turn_206 ?_
          refine lv_iload_n hx hb d_Md_turn_209 rfl (lv_at hl 2 rfl) ?_
          refine lv_dup2_11 hx hb d_Md_turn_210 rfl rfl ?_
          obtain ⟨v81, e81, h⟩ := fr_bind h
          refine fr_ild hx hb hK hH e81 d_Md_turn_211 ?_
          refine lv_iconst (v := 1) hx hb d_Md_turn_212 (by decide) ?_
          refine lv_iadd hx hb d_Md_turn_213 ?_
          obtain ⟨σ_82, e82, h⟩ := fr_bind h
          refine fr_ist hx hb hK hH hS e82 d_Md_turn_214 (fun H locs hH hS => ?_)
          refine lv_iinc (v := (y5 + 1)) (lv' := [(5, .int (y5 + 1)), (6, .int v72), (0, .ref b0), (1, .int y1), (2, .int y2), (3, .int y3), (4, .int y4)]) hx hb d_Md_turn_215 hl (k := 6) rfl rfl (by decide) rfl (fun ls hl => ?_)
          refine lv_goto (tgt := 122) hx hb d_Md_turn_218 (by decide) ?_
          exact ih b0 y1 y2 y3 y4 (y5 + 1) σ_82 σ1 h _ _ hH hS ls (lv_sub hl [2, 3, 4, 5, 6, 0] rfl)
        · replace h := fr_ift c78 h
          refine lv_aload_n hx hb d_Md_turn_186 rfl (lv_at hl 1 rfl) ?_
          obtain ⟨q83, e83, h⟩ := fr_bind h
          refine fr_gP hx hb hts in_Md hown hK hH e83 rfl 20 (by decide) (hts _ k_560) (fun _ h9 => h9) rfl d_Md_turn_187 ?_
          refine lv_iload_n hx hb d_Md_turn_190 rfl (lv_at hl 3 rfl) ?_
          obtain ⟨v84, e84, h⟩ := fr_bind h
          refine fr_zld hx hb hK hH e84 d_Md_turn_191 ?_
          refine lv_if_eq (tgt := 202) hx hb d_Md_turn_192 (by decide) (fun c85 => ?_) (fun c85 => ?_)
          · replace h := fr_ift c85 h
            refine lv_iload hx hb d_Md_turn_202 (lv_at hl 0 rfl) ?_
            obtain ⟨σ_86, e86, h⟩ := fr_bind h
            refine fr_ist hx hb hK hH hS e86 d_Md_turn_204 (fun H locs hH hS => ?_)
            refine lv_aload_n hx hb d_Md_turn_205 rfl (lv_at hl 1 rfl) ?_
            obtain ⟨q87, e87, h⟩ := fr_bind h
            refine fr_gP hx hb hts in_Md hown hK hH e87 rfl 27 (by decide) (hts _ k_567) (fun _ h9 => h9) rfl d_Md_turn_206 ?_
            refine lv_iload_n hx hb d_Md_turn_209 rfl (lv_at hl 2 rfl) ?_
            refine lv_dup2_11 hx hb d_Md_turn_210 rfl rfl ?_
            obtain ⟨v88, e88, h⟩ := fr_bind h
            refine fr_ild hx hb hK hH e88 d_Md_turn_211 ?_
            refine lv_iconst (v := 1) hx hb d_Md_turn_212 (by decide) ?_
            refine lv_iadd hx hb d_Md_turn_213 ?_
            obtain ⟨σ_89, e89, h⟩ := fr_bind h
            refine fr_ist hx hb hK hH hS e89 d_Md_turn_214 (fun H locs hH hS => ?_)
            refine lv_iinc (v := (y5 + 1)) (lv' := [(5, .int (y5 + 1)), (6, .int v72), (0, .ref b0), (1, .int y1), (2, .int y2), (3, .int y3), (4, .int y4)]) hx hb d_Md_turn_215 hl (k := 6) rfl rfl (by decide) rfl (fun ls hl => ?_)
            refine lv_goto (tgt := 122) hx hb d_Md_turn_218 (by decide) ?_
            exact ih b0 y1 y2 y3 y4 (y5 + 1) σ_89 σ1 h _ _ hH hS ls (lv_sub hl [2, 3, 4, 5, 6, 0] rfl)
          · replace h := fr_iff c85 h
            refine lv_iload hx hb d_Md_turn_195 (lv_at hl 0 rfl) ?_
            refine lv_iconst (v := 1) hx hb d_Md_turn_197 (by decide) ?_
            refine lv_ixor hx hb d_Md_turn_198 ?_
            refine lv_goto (tgt := 204) hx hb d_Md_turn_199 (by decide) ?_
            obtain ⟨σ_90, e90, h⟩ := fr_bind h
            refine fr_ist hx hb hK hH hS e90 d_Md_turn_204 (fun H locs hH hS => ?_)
            refine lv_aload_n hx hb d_Md_turn_205 rfl (lv_at hl 1 rfl) ?_
            obtain ⟨q91, e91, h⟩ := fr_bind h
            refine fr_gP hx hb hts in_Md hown hK hH e91 rfl 27 (by decide) (hts _ k_567) (fun _ h9 => h9) rfl d_Md_turn_206 ?_
            refine lv_iload_n hx hb d_Md_turn_209 rfl (lv_at hl 2 rfl) ?_
            refine lv_dup2_11 hx hb d_Md_turn_210 rfl rfl ?_
            obtain ⟨v92, e92, h⟩ := fr_bind h
            refine fr_ild hx hb hK hH e92 d_Md_turn_211 ?_
            refine lv_iconst (v := 1) hx hb d_Md_turn_212 (by decide) ?_
            refine lv_iadd hx hb d_Md_turn_213 ?_
            obtain ⟨σ_93, e93, h⟩ := fr_bind h
            refine fr_ist hx hb hK hH hS e93 d_Md_turn_214 (fun H locs hH hS => ?_)
            refine lv_iinc (v := (y5 + 1)) (lv' := [(5, .int (y5 + 1)), (6, .int v72), (0, .ref b0), (1, .int y1), (2, .int y2), (3, .int y3), (4, .int y4)]) hx hb d_Md_turn_215 hl (k := 6) rfl rfl (by decide) rfl (fun ls hl => ?_)
            refine lv_goto (tgt := 122) hx hb d_Md_turn_218 (by decide) ?_
            exact ih b0 y1 y2 y3 y4 (y5 + 1) σ_93 σ1 h _ _ hH hS ls (lv_sub hl [2, 3, 4, 5, 6, 0] rfl)
set_option maxHeartbeats 4000000 in
set_option maxRecDepth 100000 in
theorem c_Md_turn (l : Launch) (D : va_G) (T : Nat → ClassId) (A : Nat → Prop) (σ : fr_S) (h0 : Nat) (x1 : Int32) (σ1 : fr_S) (h : m_Md_turn h0 x1 σ = some σ1) : Met l y_Md_turn (Cond.code y_Md_turn b_Md_turn 7 none :: fr_W) ({ frames := 3, cells := 0, slots := 0, locals := 68 } : Room) (va_Pc [.ref h0, .int x1] (fr_B D T A σ)) (fr_Qv D T A σ1) 0 0 A := by
  refine Met.ofW (cc := b_Md_turn) (maxL := 7) (ret := none) (by decide) rfl ?_
  intro p e s m args below meth c s₁ B hml hv
  obtain ⟨rfl, hH, hK, hX⟩ := hv
  have C0 : fr_At p s m _ meth c "FetchRulesModel" b_Md_turn 7 none := fr_at B hml
  obtain ⟨hx, hb, hr, hml, hown, hts, hlocks⟩ := id C0
  have hS : va_S A s.heap s.heap [] := va_S.rf
  have hl := lv_entry ([.ref h0, .int x1]) (n := 7) (Nat.le_of_ble_eq_true rfl)
  rw [lg_entry_eq]
  generalize (lg_sl ([.ref h0, .int x1]) ++ List.replicate (7 - (lg_sl ([.ref h0, .int x1])).length) Slot.unset).toArray = ls at hl ⊢
  have hl : lv_has ls 7 [(0, .ref h0), (1, .int x1)] := hl
  unfold m_Md_turn at h
  refine lv_aload_n hx hb d_Md_turn_0 rfl (lv_at hl 0 rfl) ?_
  obtain ⟨q1, e1, h⟩ := fr_bind h
  refine fr_gP hx hb hts in_Md hown hK hH e1 rfl 30 (by decide) (hts _ k_570) (fun _ h9 => h9) rfl d_Md_turn_1 ?_
  refine lv_iload_n hx hb d_Md_turn_4 rfl (lv_at hl 1 rfl) ?_
  refine lv_dup2_11 hx hb d_Md_turn_5 rfl rfl ?_
  obtain ⟨v2, e2, h⟩ := fr_bind h
  refine fr_ild hx hb hK hH e2 d_Md_turn_6 ?_
  refine lv_iconst (v := 1) hx hb d_Md_turn_7 (by decide) ?_
  refine lv_iadd hx hb d_Md_turn_8 ?_
  obtain ⟨σ_3, e3, h⟩ := fr_bind h
  refine fr_ist hx hb hK hH hS e3 d_Md_turn_9 (fun H locs hH hS => ?_)
  refine lv_aload_n hx hb d_Md_turn_10 rfl (lv_at hl 0 rfl) ?_
  refine lv_aload_n hx hb d_Md_turn_11 rfl (lv_at hl 0 rfl) ?_
  obtain ⟨q4, e4, h⟩ := fr_bind h
  refine fr_gP hx hb hts in_Md hown hK hH e4 rfl 24 (by decide) (hts _ k_564) (fun _ h9 => h9) rfl d_Md_turn_12 ?_
  refine lv_bipush (v := 6) hx hb d_Md_turn_15 (by decide) ?_
  refine lv_iload_n hx hb d_Md_turn_17 rfl (lv_at hl 1 rfl) ?_
  refine lv_imul hx hb d_Md_turn_18 ?_
  refine lv_aload_n hx hb d_Md_turn_19 rfl (lv_at hl 0 rfl) ?_
  obtain ⟨q5, e5, h⟩ := fr_bind h
  refine fr_gP hx hb hts in_Md hown hK hH e5 rfl 26 (by decide) (hts _ k_566) (fun _ h9 => h9) rfl d_Md_turn_20 ?_
  refine lv_iload_n hx hb d_Md_turn_23 rfl (lv_at hl 1 rfl) ?_
  obtain ⟨v6, e6, h⟩ := fr_bind h
  refine fr_ild hx hb hK hH e6 d_Md_turn_24 ?_
  refine lv_iadd hx hb d_Md_turn_25 ?_
  obtain ⟨v7, e7, h⟩ := fr_bind h
  refine fr_ild hx hb hK hH e7 d_Md_turn_26 ?_
  obtain ⟨u8, e8, h⟩ := fr_bind h
  obtain ⟨w9, e9, h⟩ := fr_bind h
  refine fr_calli (fr_V (As := [.int v7]) (rest := []) ⟨hx, hb, hml, hown, hts⟩ (c_Md_ask l D T A σ_3 h0 v7 w9.1 w9.2 e9) k_746 mv_Md_ask rfl rfl ⟨Nat.le_of_ble_eq_true rfl, Nat.le_of_ble_eq_true rfl⟩ (fr_preV hK hX hH e8 rfl _) rfl hl.1 rfl (Nat.le_of_ble_eq_true rfl) d_Md_turn_27 ⟨Nat.zero_le _, Nat.zero_le _⟩) hS (fun H locs hH hS => ?_)
  refine lv_istore_n (lv' := [(2, .int w9.1), (0, .ref h0), (1, .int x1)]) hx hb d_Md_turn_30 rfl hl (by decide) rfl (fun ls hl => ?_)
  refine lv_iload_n hx hb d_Md_turn_31 rfl (lv_at hl 0 rfl) ?_
  refine lv_iconst (v := (-1)) hx hb d_Md_turn_32 (by decide) ?_
  refine lv_icmp_ne (tgt := 50) hx hb d_Md_turn_33 (by decide) (fun c10 => ?_) (fun c10 => ?_)
  · replace h := fr_iff c10 h
    refine lv_aload_n hx hb d_Md_turn_50 rfl (lv_at hl 1 rfl) ?_
    obtain ⟨q11, e11, h⟩ := fr_bind h
    refine fr_gP hx hb hts in_Md hown hK hH e11 rfl 15 (by decide) (hts _ k_555) (fun _ h9 => h9) rfl d_Md_turn_51 ?_
    refine lv_iload_n hx hb d_Md_turn_54 rfl (lv_at hl 0 rfl) ?_
    obtain ⟨v12, e12, h⟩ := fr_bind h
    refine fr_ild hx hb hK hH e12 d_Md_turn_55 ?_
    refine lv_if_le (tgt := 63) hx hb d_Md_turn_56 (by decide) (fun c13 => ?_) (fun c13 => ?_)
    · replace h := fr_ift c13 h
      refine lv_iconst (v := 0) hx hb d_Md_turn_63 (by decide) ?_
      refine lv_istore_n (lv' := [(3, .int 0), (2, .int w9.1), (0, .ref h0), (1, .int x1)]) hx hb d_Md_turn_64 rfl hl (by decide) rfl (fun ls hl => ?_)
      refine lv_iload_n hx hb d_Md_turn_65 rfl (lv_at hl 0 rfl) ?_
      refine lv_if_eq (tgt := 93) hx hb d_Md_turn_66 (by decide) (fun c14 => ?_) (fun c14 => ?_)
      · refine lv_aload_n hx hb d_Md_turn_93 rfl (lv_at hl 2 rfl) ?_
        obtain ⟨q15, e15, h⟩ := fr_bind h
        refine fr_gP hx hb hts in_Md hown hK hH e15 rfl 12 (by decide) (hts _ k_552) (fun _ h9 => h9) rfl d_Md_turn_94 ?_
        refine lv_iload_n hx hb d_Md_turn_97 rfl (lv_at hl 1 rfl) ?_
        obtain ⟨v16, e16, h⟩ := fr_bind h
        refine fr_ild hx hb hK hH e16 d_Md_turn_98 ?_
        refine lv_istore (lv' := [(4, .int v16), (3, .int 0), (2, .int w9.1), (0, .ref h0), (1, .int x1)]) hx hb d_Md_turn_99 hl (by decide) rfl (fun ls hl => ?_)
        refine lv_aload_n hx hb d_Md_turn_101 rfl (lv_at hl 3 rfl) ?_
        obtain ⟨q17, e17, h⟩ := fr_bind h
        refine fr_gP hx hb hts in_Md hown hK hH e17 rfl 15 (by decide) (hts _ k_555) (fun _ h9 => h9) rfl d_Md_turn_102 ?_
        refine lv_iload_n hx hb d_Md_turn_105 rfl (lv_at hl 2 rfl) ?_
        refine lv_dup2_11 hx hb d_Md_turn_106 rfl rfl ?_
        obtain ⟨v18, e18, h⟩ := fr_bind h
        refine fr_ild hx hb hK hH e18 d_Md_turn_107 ?_
        refine lv_iload_n hx hb d_Md_turn_108 rfl (lv_at hl 1 rfl) ?_
        refine lv_if_eq (tgt := 116) hx hb d_Md_turn_109 (by decide) (fun c19 => ?_) (fun c19 => ?_)
        · refine lv_iconst (v := 0) hx hb d_Md_turn_116 (by decide) ?_
          refine lv_isub hx hb d_Md_turn_117 ?_
          obtain ⟨σ_20, e20, h⟩ := fr_bind h
          refine fr_ist hx hb hK hH hS e20 d_Md_turn_118 (fun H locs hH hS => ?_)
          refine lv_iconst (v := 0) hx hb d_Md_turn_119 (by decide) ?_
          refine lv_istore (lv' := [(5, .int 0), (4, .int v16), (3, .int 0), (2, .int w9.1), (0, .ref h0), (1, .int x1)]) hx hb d_Md_turn_120 hl (by decide) rfl (fun ls hl => ?_)
          exact w_Md_turn_L122 C0 hK hX 1000 h0 x1 w9.1 0 v16 0 σ_20 σ1 h _ _ hH hS ls (lv_sub hl [4, 5, 3, 2, 1, 0] rfl)
        · exact absurd (by decide) c19
      · exact absurd (by decide) c14
    · replace h := fr_iff c13 h
      refine lv_iconst (v := 1) hx hb d_Md_turn_59 (by decide) ?_
      refine lv_goto (tgt := 64) hx hb d_Md_turn_60 (by decide) ?_
      refine lv_istore_n (lv' := [(3, .int 1), (2, .int w9.1), (0, .ref h0), (1, .int x1)]) hx hb d_Md_turn_64 rfl hl (by decide) rfl (fun ls hl => ?_)
      refine lv_iload_n hx hb d_Md_turn_65 rfl (lv_at hl 0 rfl) ?_
      refine lv_if_eq (tgt := 93) hx hb d_Md_turn_66 (by decide) (fun c21 => ?_) (fun c21 => ?_)
      · exact absurd c21 (by decide)
      · refine lv_aload_n hx hb d_Md_turn_69 rfl (lv_at hl 2 rfl) ?_
        obtain ⟨q22, e22, h⟩ := fr_bind h
        refine fr_gP hx hb hts in_Md hown hK hH e22 rfl 16 (by decide) (hts _ k_556) (fun _ h9 => h9) rfl d_Md_turn_70 ?_
        refine lv_iload_n hx hb d_Md_turn_73 rfl (lv_at hl 1 rfl) ?_
        obtain ⟨v23, e23, h⟩ := fr_bind h
        refine fr_ild hx hb hK hH e23 d_Md_turn_74 ?_
        refine lv_aload_n hx hb d_Md_turn_75 rfl (lv_at hl 2 rfl) ?_
        obtain ⟨q24, e24, h⟩ := fr_bind h
        refine fr_gP hx hb hts in_Md hown hK hH e24 rfl 12 (by decide) (hts _ k_552) (fun _ h9 => h9) rfl d_Md_turn_76 ?_
        refine lv_iload_n hx hb d_Md_turn_79 rfl (lv_at hl 1 rfl) ?_
        obtain ⟨v25, e25, h⟩ := fr_bind h
        refine fr_ild hx hb hK hH e25 d_Md_turn_80 ?_
        refine lv_icmp_ge (tgt := 93) hx hb d_Md_turn_81 (by decide) (fun c26 => ?_) (fun c26 => ?_)
        · replace h := fr_ift c26 h
          refine lv_aload_n hx hb d_Md_turn_93 rfl (lv_at hl 2 rfl) ?_
          obtain ⟨q27, e27, h⟩ := fr_bind h
          refine fr_gP hx hb hts in_Md hown hK hH e27 rfl 12 (by decide) (hts _ k_552) (fun _ h9 => h9) rfl d_Md_turn_94 ?_
          refine lv_iload_n hx hb d_Md_turn_97 rfl (lv_at hl 1 rfl) ?_
          obtain ⟨v28, e28, h⟩ := fr_bind h
          refine fr_ild hx hb hK hH e28 d_Md_turn_98 ?_
          refine lv_istore (lv' := [(4, .int v28), (3, .int 1), (2, .int w9.1), (0, .ref h0), (1, .int x1)]) hx hb d_Md_turn_99 hl (by decide) rfl (fun ls hl => ?_)
          refine lv_aload_n hx hb d_Md_turn_101 rfl (lv_at hl 3 rfl) ?_
          obtain ⟨q29, e29, h⟩ := fr_bind h
          refine fr_gP hx hb hts in_Md hown hK hH e29 rfl 15 (by decide) (hts _ k_555) (fun _ h9 => h9) rfl d_Md_turn_102 ?_
          refine lv_iload_n hx hb d_Md_turn_105 rfl (lv_at hl 2 rfl) ?_
          refine lv_dup2_11 hx hb d_Md_turn_106 rfl rfl ?_
          obtain ⟨v30, e30, h⟩ := fr_bind h
          refine fr_ild hx hb hK hH e30 d_Md_turn_107 ?_
          refine lv_iload_n hx hb d_Md_turn_108 rfl (lv_at hl 1 rfl) ?_
          refine lv_if_eq (tgt := 116) hx hb d_Md_turn_109 (by decide) (fun c31 => ?_) (fun c31 => ?_)
          · exact absurd c31 (by decide)
          · refine lv_iconst (v := 1) hx hb d_Md_turn_112 (by decide) ?_
            refine lv_goto (tgt := 117) hx hb d_Md_turn_113 (by decide) ?_
            refine lv_isub hx hb d_Md_turn_117 ?_
            obtain ⟨σ_32, e32, h⟩ := fr_bind h
            refine fr_ist hx hb hK hH hS e32 d_Md_turn_118 (fun H locs hH hS => ?_)
            refine lv_iconst (v := 0) hx hb d_Md_turn_119 (by decide) ?_
            refine lv_istore (lv' := [(5, .int 0), (4, .int v28), (3, .int 1), (2, .int w9.1), (0, .ref h0), (1, .int x1)]) hx hb d_Md_turn_120 hl (by decide) rfl (fun ls hl => ?_)
            exact w_Md_turn_L122 C0 hK hX 1000 h0 x1 w9.1 1 v28 0 σ_32 σ1 h _ _ hH hS ls (lv_sub hl [4, 5, 3, 2, 1, 0] rfl)
        · replace h := fr_iff c26 h
          refine lv_aload_n hx hb d_Md_turn_84 rfl (lv_at hl 2 rfl) ?_
          obtain ⟨q33, e33, h⟩ := fr_bind h
          refine fr_gP hx hb hts in_Md hown hK hH e33 rfl 16 (by decide) (hts _ k_556) (fun _ h9 => h9) rfl d_Md_turn_85 ?_
          refine lv_iload_n hx hb d_Md_turn_88 rfl (lv_at hl 1 rfl) ?_
          obtain ⟨v34, e34, h⟩ := fr_bind h
          refine fr_ild hx hb hK hH e34 d_Md_turn_89 ?_
          refine lv_goto (tgt := 99) hx hb d_Md_turn_90 (by decide) ?_
          refine lv_istore (lv' := [(4, .int v34), (3, .int 1), (2, .int w9.1), (0, .ref h0), (1, .int x1)]) hx hb d_Md_turn_99 hl (by decide) rfl (fun ls hl => ?_)
          refine lv_aload_n hx hb d_Md_turn_101 rfl (lv_at hl 3 rfl) ?_
          obtain ⟨q35, e35, h⟩ := fr_bind h
          refine fr_gP hx hb hts in_Md hown hK hH e35 rfl 15 (by decide) (hts _ k_555) (fun _ h9 => h9) rfl d_Md_turn_102 ?_
          refine lv_iload_n hx hb d_Md_turn_105 rfl (lv_at hl 2 rfl) ?_
          refine lv_dup2_11 hx hb d_Md_turn_106 rfl rfl ?_
          obtain ⟨v36, e36, h⟩ := fr_bind h
          refine fr_ild hx hb hK hH e36 d_Md_turn_107 ?_
          refine lv_iload_n hx hb d_Md_turn_108 rfl (lv_at hl 1 rfl) ?_
          refine lv_if_eq (tgt := 116) hx hb d_Md_turn_109 (by decide) (fun c37 => ?_) (fun c37 => ?_)
          · exact absurd c37 (by decide)
          · refine lv_iconst (v := 1) hx hb d_Md_turn_112 (by decide) ?_
            refine lv_goto (tgt := 117) hx hb d_Md_turn_113 (by decide) ?_
            refine lv_isub hx hb d_Md_turn_117 ?_
            obtain ⟨σ_38, e38, h⟩ := fr_bind h
            refine fr_ist hx hb hK hH hS e38 d_Md_turn_118 (fun H locs hH hS => ?_)
            refine lv_iconst (v := 0) hx hb d_Md_turn_119 (by decide) ?_
            refine lv_istore (lv' := [(5, .int 0), (4, .int v34), (3, .int 1), (2, .int w9.1), (0, .ref h0), (1, .int x1)]) hx hb d_Md_turn_120 hl (by decide) rfl (fun ls hl => ?_)
            exact w_Md_turn_L122 C0 hK hX 1000 h0 x1 w9.1 1 v34 0 σ_38 σ1 h _ _ hH hS ls (lv_sub hl [4, 5, 3, 2, 1, 0] rfl)
  · replace h := fr_ift c10 h
    refine lv_aload_n hx hb d_Md_turn_36 rfl (lv_at hl 1 rfl) ?_
    refine lv_iload_n hx hb d_Md_turn_37 rfl (lv_at hl 2 rfl) ?_
    refine lv_aload_n hx hb d_Md_turn_38 rfl (lv_at hl 1 rfl) ?_
    obtain ⟨q39, e39, h⟩ := fr_bind h
    refine fr_gP hx hb hts in_Md hown hK hH e39 rfl 26 (by decide) (hts _ k_566) (fun _ h9 => h9) rfl d_Md_turn_39 ?_
    refine lv_iload_n hx hb d_Md_turn_42 rfl (lv_at hl 2 rfl) ?_
    obtain ⟨v40, e40, h⟩ := fr_bind h
    refine fr_ild hx hb hK hH e40 d_Md_turn_43 ?_
    refine lv_iconst (v := 1) hx hb d_Md_turn_44 (by decide) ?_
    refine lv_iadd hx hb d_Md_turn_45 ?_
    obtain ⟨u41, e41, h⟩ := fr_bind h
    obtain ⟨σ_42, e42, h⟩ := fr_bind h
    refine fr_callv (fr_V (As := [.int x1, .int (v40 + 1)]) (rest := []) ⟨hx, hb, hml, hown, hts⟩ (c_Md_goOn l D T A w9.2 h0 x1 ((v40 + 1)) σ_42 e42) k_734 mv_Md_goOn rfl rfl ⟨Nat.le_of_ble_eq_true rfl, Nat.le_of_ble_eq_true rfl⟩ (fr_preV hK hX hH e41 rfl _) rfl hl.1 rfl (Nat.le_of_ble_eq_true rfl) d_Md_turn_46 ⟨Nat.zero_le _, Nat.zero_le _⟩) hS (fun H locs hH hS => ?_)
    exact fr_vret hx hb hr hlocks h hH hK hX hS d_Md_turn_49
set_option maxHeartbeats 4000000 in
set_option maxRecDepth 100000 in
theorem w_Md_tick_L36 {p : Program} {l : Launch} {e : Env} {s : State} {m : MethodId} {args : Array Value} {below : List Frame} {meth : Method} {c : Code} {D : va_G} {T : Nat → ClassId} {A : Nat → Prop} {Q : State → Prop} (C0 : fr_At p s m args meth c "FetchRulesModel" b_Md_tick 4 (some .int)) (hK : va_K D vwCl (fr_tys T) s) (hX : fr_X s) : ∀ (n : Nat) (b0 : Nat) (y1 : Int32) (y2 : Int32) (y3 : Int32) (σ : fr_S) (σ1 : fr_S), m_Md_tick_L36 n b0 y1 y2 y3 σ = some σ1 → ∀ (H : Heap) (locs : List Loc), fr_H D T A σ H → va_S A s.heap H locs → ∀ (ls : Array Slot), lv_has ls 4 [(0, .ref b0), (1, .int y1), (2, .int y2), (3, .int y3)] → (∀ (H : Heap) (locs : List Loc) (ls : Array Slot), fr_H D T A σ1 H → va_S A s.heap H locs → lv_has ls 4 [(0, .ref b0), (1, .int y1), (2, .int y2)] → W p l e (headSpec (Cond.code y_Md_tick b_Md_tick 4 (some .int) :: fr_W) ({ frames := 4, cells := 0, slots := 0, locals := 94 } : Room)).room s m args below meth c H locs 0 0 Q (F0 m 95 ls [])) → W p l e (headSpec (Cond.code y_Md_tick b_Md_tick 4 (some .int) :: fr_W) ({ frames := 4, cells := 0, slots := 0, locals := 94 } : Room)).room s m args below meth c H locs 0 0 Q (F0 m 36 ls []) := by
  obtain ⟨hx, hb, hr, hml, hown, hts, hlocks⟩ := id C0
  intro n
  induction n with
  | zero => intro b0 y1 y2 y3 σ σ1 h; cases h
  | succ n ih =>
    intro b0 y1 y2 y3 σ σ1 h H locs hH hS ls hl kx
    unfold m_Md_tick_L36 at h
    refine lv_iload_n hx hb d_Md_tick_36 rfl (lv_at hl 3 rfl) ?_
    refine lv_aload_n hx hb d_Md_tick_37 rfl (lv_at hl 0 rfl) ?_
    obtain ⟨v16, e16, h⟩ := fr_bind h
    refine fr_gI hx hb hts in_Md hown hK hH e16 rfl 7 (by decide) (hts _ k_547) (fun _ h9 => h9) rfl d_Md_tick_38 ?_
    refine lv_icmp_ge (tgt := 95) hx hb d_Md_tick_41 (by decide) (fun c17 => ?_) (fun c17 => ?_)
    · replace h := fr_ift c17 h
      cases h
      exact kx _ _ _ hH hS (lv_sub hl [0, 1, 2] rfl)
    · replace h := fr_iff c17 h
      refine lv_aload_n hx hb d_Md_tick_44 rfl (lv_at hl 0 rfl) ?_
      obtain ⟨q18, e18, h⟩ := fr_bind h
      refine fr_gP hx hb hts in_Md hown hK hH e18 rfl 25 (by decide) (hts _ k_565) (fun _ h9 => h9) rfl d_Md_tick_45 ?_
      refine lv_iload_n hx hb d_Md_tick_48 rfl (lv_at hl 3 rfl) ?_
      obtain ⟨v19, e19, h⟩ := fr_bind h
      refine fr_ild hx hb hK hH e19 d_Md_tick_49 ?_
      refine lv_iconst (v := 2) hx hb d_Md_tick_50 (by decide) ?_
      refine lv_icmp_ne (tgt := 74) hx hb d_Md_tick_51 (by decide) (fun c20 => ?_) (fun c20 => ?_)
      · replace h := fr_iff c20 h
        refine lv_aload_n hx hb d_Md_tick_74 rfl (lv_at hl 0 rfl) ?_
        obtain ⟨q21, e21, h⟩ := fr_bind h
        refine fr_gP hx hb hts in_Md hown hK hH e21 rfl 25 (by decide) (hts _ k_565) (fun _ h9 => h9) rfl d_Md_tick_75 ?_
        refine lv_iload_n hx hb d_Md_tick_78 rfl (lv_at hl 3 rfl) ?_
        obtain ⟨v22, e22, h⟩ := fr_bind h
        refine fr_ild hx hb hK hH e22 d_Md_tick_79 ?_
        refine lv_iconst (v := 1) hx hb d_Md_tick_80 (by decide) ?_
        refine lv_icmp_ne (tgt := 89) hx hb d_Md_tick_81 (by decide) (fun c23 => ?_) (fun c23 => ?_)
        · replace h := fr_iff c23 h
          refine lv_iinc (v := (y3 + 1)) (lv' := [(3, .int (y3 + 1)), (0, .ref b0), (1, .int y1), (2, .int y2)]) hx hb d_Md_tick_89 hl (k := 3) rfl rfl (by decide) rfl (fun ls hl => ?_)
          refine lv_goto (tgt := 36) hx hb d_Md_tick_92 (by decide) ?_
          exact ih b0 y1 y2 (y3 + 1) σ σ1 h _ _ hH hS ls (lv_sub hl [1, 2, 3, 0] rfl) kx
        · replace h := fr_ift c23 h
          refine lv_aload_n hx hb d_Md_tick_84 rfl (lv_at hl 0 rfl) ?_
          refine lv_iload_n hx hb d_Md_tick_85 rfl (lv_at hl 3 rfl) ?_
          obtain ⟨u24, e24, h⟩ := fr_bind h
          obtain ⟨σ_25, e25, h⟩ := fr_bind h
          refine fr_callv (fr_V (As := [.int y3]) (rest := []) ⟨hx, hb, hml, hown, hts⟩ (c_Md_turn l D T A σ b0 y3 σ_25 e25) k_742 mv_Md_turn rfl rfl ⟨Nat.le_of_ble_eq_true rfl, Nat.le_of_ble_eq_true rfl⟩ (fr_preV hK hX hH e24 rfl _) rfl hl.1 rfl (Nat.le_of_ble_eq_true rfl) d_Md_tick_86 ⟨Nat.zero_le _, Nat.zero_le _⟩) hS (fun H locs hH hS => ?_)
          refine lv_iinc (v := (y3 + 1)) (lv' := [(3, .int (y3 + 1)), (0, .ref b0), (1, .int y1), (2, .int y2)]) hx hb d_Md_tick_89 hl (k := 3) rfl rfl (by decide) rfl (fun ls hl => ?_)
          refine lv_goto (tgt := 36) hx hb d_Md_tick_92 (by decide) ?_
          exact ih b0 y1 y2 (y3 + 1) σ_25 σ1 h _ _ hH hS ls (lv_sub hl [1, 2, 3, 0] rfl) kx
      · replace h := fr_ift c20 h
        refine lv_aload_n hx hb d_Md_tick_54 rfl (lv_at hl 0 rfl) ?_
        obtain ⟨q26, e26, h⟩ := fr_bind h
        refine fr_gP hx hb hts in_Md hown hK hH e26 rfl 29 (by decide) (hts _ k_569) (fun _ h9 => h9) rfl d_Md_tick_55 ?_
        refine lv_iload_n hx hb d_Md_tick_58 rfl (lv_at hl 3 rfl) ?_
        obtain ⟨v27, e27, h⟩ := fr_bind h
        refine fr_ild hx hb hK hH e27 d_Md_tick_59 ?_
        refine lv_aload_n hx hb d_Md_tick_60 rfl (lv_at hl 0 rfl) ?_
        obtain ⟨v28, e28, h⟩ := fr_bind h
        refine fr_gI hx hb hts in_Md hown hK hH e28 rfl 2 (by decide) (hts _ k_542) (fun _ h9 => h9) rfl d_Md_tick_61 ?_
        refine lv_icmp_gt (tgt := 74) hx hb d_Md_tick_64 (by decide) (fun c29 => ?_) (fun c29 => ?_)
        · replace h := fr_ift c29 h
          refine lv_aload_n hx hb d_Md_tick_74 rfl (lv_at hl 0 rfl) ?_
          obtain ⟨q30, e30, h⟩ := fr_bind h
          refine fr_gP hx hb hts in_Md hown hK hH e30 rfl 25 (by decide) (hts _ k_565) (fun _ h9 => h9) rfl d_Md_tick_75 ?_
          refine lv_iload_n hx hb d_Md_tick_78 rfl (lv_at hl 3 rfl) ?_
          obtain ⟨v31, e31, h⟩ := fr_bind h
          refine fr_ild hx hb hK hH e31 d_Md_tick_79 ?_
          refine lv_iconst (v := 1) hx hb d_Md_tick_80 (by decide) ?_
          refine lv_icmp_ne (tgt := 89) hx hb d_Md_tick_81 (by decide) (fun c32 => ?_) (fun c32 => ?_)
          · replace h := fr_iff c32 h
            refine lv_iinc (v := (y3 + 1)) (lv' := [(3, .int (y3 + 1)), (0, .ref b0), (1, .int y1), (2, .int y2)]) hx hb d_Md_tick_89 hl (k := 3) rfl rfl (by decide) rfl (fun ls hl => ?_)
            refine lv_goto (tgt := 36) hx hb d_Md_tick_92 (by decide) ?_
            exact ih b0 y1 y2 (y3 + 1) σ σ1 h _ _ hH hS ls (lv_sub hl [1, 2, 3, 0] rfl) kx
          · replace h := fr_ift c32 h
            refine lv_aload_n hx hb d_Md_tick_84 rfl (lv_at hl 0 rfl) ?_
            refine lv_iload_n hx hb d_Md_tick_85 rfl (lv_at hl 3 rfl) ?_
            obtain ⟨u33, e33, h⟩ := fr_bind h
            obtain ⟨σ_34, e34, h⟩ := fr_bind h
            refine fr_callv (fr_V (As := [.int y3]) (rest := []) ⟨hx, hb, hml, hown, hts⟩ (c_Md_turn l D T A σ b0 y3 σ_34 e34) k_742 mv_Md_turn rfl rfl ⟨Nat.le_of_ble_eq_true rfl, Nat.le_of_ble_eq_true rfl⟩ (fr_preV hK hX hH e33 rfl _) rfl hl.1 rfl (Nat.le_of_ble_eq_true rfl) d_Md_tick_86 ⟨Nat.zero_le _, Nat.zero_le _⟩) hS (fun H locs hH hS => ?_)
            refine lv_iinc (v := (y3 + 1)) (lv' := [(3, .int (y3 + 1)), (0, .ref b0), (1, .int y1), (2, .int y2)]) hx hb d_Md_tick_89 hl (k := 3) rfl rfl (by decide) rfl (fun ls hl => ?_)
            refine lv_goto (tgt := 36) hx hb d_Md_tick_92 (by decide) ?_
            exact ih b0 y1 y2 (y3 + 1) σ_34 σ1 h _ _ hH hS ls (lv_sub hl [1, 2, 3, 0] rfl) kx
        · replace h := fr_iff c29 h
          refine lv_aload_n hx hb d_Md_tick_67 rfl (lv_at hl 0 rfl) ?_
          obtain ⟨q35, e35, h⟩ := fr_bind h
          refine fr_gP hx hb hts in_Md hown hK hH e35 rfl 25 (by decide) (hts _ k_565) (fun _ h9 => h9) rfl d_Md_tick_68 ?_
          refine lv_iload_n hx hb d_Md_tick_71 rfl (lv_at hl 3 rfl) ?_
          refine lv_iconst (v := 1) hx hb d_Md_tick_72 (by decide) ?_
          obtain ⟨σ_36, e36, h⟩ := fr_bind h
          refine fr_ist hx hb hK hH hS e36 d_Md_tick_73 (fun H locs hH hS => ?_)
          refine lv_aload_n hx hb d_Md_tick_74 rfl (lv_at hl 0 rfl) ?_
          obtain ⟨q37, e37, h⟩ := fr_bind h
          refine fr_gP hx hb hts in_Md hown hK hH e37 rfl 25 (by decide) (hts _ k_565) (fun _ h9 => h9) rfl d_Md_tick_75 ?_
          refine lv_iload_n hx hb d_Md_tick_78 rfl (lv_at hl 3 rfl) ?_
          obtain ⟨v38, e38, h⟩ := fr_bind h
          refine fr_ild hx hb hK hH e38 d_Md_tick_79 ?_
          refine lv_iconst (v := 1) hx hb d_Md_tick_80 (by decide) ?_
          refine lv_icmp_ne (tgt := 89) hx hb d_Md_tick_81 (by decide) (fun c39 => ?_) (fun c39 => ?_)
          · replace h := fr_iff c39 h
            refine lv_iinc (v := (y3 + 1)) (lv' := [(3, .int (y3 + 1)), (0, .ref b0), (1, .int y1), (2, .int y2)]) hx hb d_Md_tick_89 hl (k := 3) rfl rfl (by decide) rfl (fun ls hl => ?_)
            refine lv_goto (tgt := 36) hx hb d_Md_tick_92 (by decide) ?_
            exact ih b0 y1 y2 (y3 + 1) σ_36 σ1 h _ _ hH hS ls (lv_sub hl [1, 2, 3, 0] rfl) kx
          · replace h := fr_ift c39 h
            refine lv_aload_n hx hb d_Md_tick_84 rfl (lv_at hl 0 rfl) ?_
            refine lv_iload_n hx hb d_Md_tick_85 rfl (lv_at hl 3 rfl) ?_
            obtain ⟨u40, e40, h⟩ := fr_bind h
            obtain ⟨σ_41, e41, h⟩ := fr_bind h
            refine fr_callv (fr_V (As := [.int y3]) (rest := []) ⟨hx, hb, hml, hown, hts⟩ (c_Md_turn l D T A σ_36 b0 y3 σ_41 e41) k_742 mv_Md_turn rfl rfl ⟨Nat.le_of_ble_eq_true rfl, Nat.le_of_ble_eq_true rfl⟩ (fr_preV hK hX hH e40 rfl _) rfl hl.1 rfl (Nat.le_of_ble_eq_true rfl) d_Md_tick_86 ⟨Nat.zero_le _, Nat.zero_le _⟩) hS (fun H locs hH hS => ?_)
            refine lv_iinc (v := (y3 + 1)) (lv' := [(3, .int (y3 + 1)), (0, .ref b0), (1, .int y1), (2, .int y2)]) hx hb d_Md_tick_89 hl (k := 3) rfl rfl (by decide) rfl (fun ls hl => ?_)
            refine lv_goto (tgt := 36) hx hb d_Md_tick_92 (by decide) ?_
            exact ih b0 y1 y2 (y3 + 1) σ_41 σ1 h _ _ hH hS ls (lv_sub hl [1, 2, 3, 0] rfl) kx
set_option maxHeartbeats 4000000 in
set_option maxRecDepth 100000 in
theorem w_Md_tick_L105 {p : Program} {l : Launch} {e : Env} {s : State} {m : MethodId} {args : Array Value} {below : List Frame} {meth : Method} {c : Code} {D : va_G} {T : Nat → ClassId} {A : Nat → Prop} (C0 : fr_At p s m args meth c "FetchRulesModel" b_Md_tick 4 (some .int)) (hK : va_K D vwCl (fr_tys T) s) (hX : fr_X s) :
    ∀ (n : Nat) (b0 : Nat) (y2 : Int32) (y3 : Int32) (σ : fr_S) (r : Int32) (σ1 : fr_S), m_Md_tick_L105 n b0 y2 y3 σ = some (r, σ1) → ∀ (H : Heap) (locs : List Loc), fr_H D T A σ H → va_S A s.heap H locs → ∀ (ls : Array Slot), lv_has ls 4 [(0, .ref b0), (2, .int y2), (3, .int y3)] → W p l e (headSpec (Cond.code y_Md_tick b_Md_tick 4 (some .int) :: fr_W) ({ frames := 4, cells := 0, slots := 0, locals := 94 } : Room)).room s m args below meth c H locs 0 0 (MQ below (fr_Qi D T A r σ1) args s 0 0 A) (F0 m 105 ls []) := by
  obtain ⟨hx, hb, hr, hml, hown, hts, hlocks⟩ := id C0
  intro n
  induction n with
  | zero => intro b0 y2 y3 σ r σ1 h; cases h
  | succ n ih =>
    intro b0 y2 y3 σ r σ1 h H locs hH hS ls hl
    unfold m_Md_tick_L105 at h
    refine lv_iload_n hx hb d_Md_tick_105 rfl (lv_at hl 2 rfl) ?_
    refine lv_aload_n hx hb d_Md_tick_106 rfl (lv_at hl 0 rfl) ?_
    obtain ⟨v8, e8, h⟩ := fr_bind h
    refine fr_gI hx hb hts in_Md hown hK hH e8 rfl 7 (by decide) (hts _ k_547) (fun _ h9 => h9) rfl d_Md_tick_107 ?_
    refine lv_icmp_ge (tgt := 147) hx hb d_Md_tick_110 (by decide) (fun c9 => ?_) (fun c9 => ?_)
    · replace h := fr_ift c9 h
      refine lv_iload_n hx hb d_Md_tick_147 rfl (lv_at hl 1 rfl) ?_
      exact fr_iret hx hb hr hlocks  h hH hK hX hS d_Md_tick_148
    · replace h := fr_iff c9 h
      refine lv_iload_n hx hb d_Md_tick_113 rfl (lv_at hl 1 rfl) ?_
      refine lv_aload_n hx hb d_Md_tick_114 rfl (lv_at hl 0 rfl) ?_
      obtain ⟨q10, e10, h⟩ := fr_bind h
      refine fr_gP hx hb hts in_Md hown hK hH e10 rfl 25 (by decide) (hts _ k_565) (fun _ h9 => h9) rfl d_Md_tick_115 ?_
      refine lv_iload_n hx hb d_Md_tick_118 rfl (lv_at hl 2 rfl) ?_
      obtain ⟨v11, e11, h⟩ := fr_bind h
      refine fr_ild hx hb hK hH e11 d_Md_tick_119 ?_
      refine lv_iconst (v := 1) hx hb d_Md_tick_120 (by decide) ?_
      refine lv_icmp_eq (tgt := 134) hx hb d_Md_tick_121 (by decide) (fun c12 => ?_) (fun c12 => ?_)
      · replace h := fr_ift c12 h
        refine lv_iconst (v := 1) hx hb d_Md_tick_134 (by decide) ?_
        refine lv_goto (tgt := 139) hx hb d_Md_tick_135 (by decide) ?_
        refine lv_iadd hx hb d_Md_tick_139 ?_
        refine lv_istore_n (lv' := [(2, .int (y2 + 1)), (0, .ref b0), (3, .int y3)]) hx hb d_Md_tick_140 rfl hl (by decide) rfl (fun ls hl => ?_)
        refine lv_iinc (v := (y3 + 1)) (lv' := [(3, .int (y3 + 1)), (2, .int (y2 + 1)), (0, .ref b0)]) hx hb d_Md_tick_141 hl (k := 2) rfl rfl (by decide) rfl (fun ls hl => ?_)
        refine lv_goto (tgt := 105) hx hb d_Md_tick_144 (by decide) ?_
        exact ih b0 (y2 + 1) (y3 + 1) σ r σ1 h _ _ hH hS ls (lv_sub hl [2, 1, 0] rfl)
      · replace h := fr_iff c12 h
        refine lv_aload_n hx hb d_Md_tick_124 rfl (lv_at hl 0 rfl) ?_
        obtain ⟨q13, e13, h⟩ := fr_bind h
        refine fr_gP hx hb hts in_Md hown hK hH e13 rfl 25 (by decide) (hts _ k_565) (fun _ h9 => h9) rfl d_Md_tick_125 ?_
        refine lv_iload_n hx hb d_Md_tick_128 rfl (lv_at hl 2 rfl) ?_
        obtain ⟨v14, e14, h⟩ := fr_bind h
        refine fr_ild hx hb hK hH e14 d_Md_tick_129 ?_
        refine lv_iconst (v := 2) hx hb d_Md_tick_130 (by decide) ?_
        refine lv_icmp_ne (tgt := 138) hx hb d_Md_tick_131 (by decide) (fun c15 => ?_) (fun c15 => ?_)
        · replace h := fr_iff c15 h
          refine lv_iconst (v := 0) hx hb d_Md_tick_138 (by decide) ?_
          refine lv_iadd hx hb d_Md_tick_139 ?_
          refine lv_istore_n (lv' := [(2, .int (y2 + 0)), (0, .ref b0), (3, .int y3)]) hx hb d_Md_tick_140 rfl hl (by decide) rfl (fun ls hl => ?_)
          refine lv_iinc (v := (y3 + 1)) (lv' := [(3, .int (y3 + 1)), (2, .int (y2 + 0)), (0, .ref b0)]) hx hb d_Md_tick_141 hl (k := 2) rfl rfl (by decide) rfl (fun ls hl => ?_)
          refine lv_goto (tgt := 105) hx hb d_Md_tick_144 (by decide) ?_
          exact ih b0 (y2 + 0) (y3 + 1) σ r σ1 h _ _ hH hS ls (lv_sub hl [2, 1, 0] rfl)
        · replace h := fr_ift c15 h
          refine lv_iconst (v := 1) hx hb d_Md_tick_134 (by decide) ?_
          refine lv_goto (tgt := 139) hx hb d_Md_tick_135 (by decide) ?_
          refine lv_iadd hx hb d_Md_tick_139 ?_
          refine lv_istore_n (lv' := [(2, .int (y2 + 1)), (0, .ref b0), (3, .int y3)]) hx hb d_Md_tick_140 rfl hl (by decide) rfl (fun ls hl => ?_)
          refine lv_iinc (v := (y3 + 1)) (lv' := [(3, .int (y3 + 1)), (2, .int (y2 + 1)), (0, .ref b0)]) hx hb d_Md_tick_141 hl (k := 2) rfl rfl (by decide) rfl (fun ls hl => ?_)
          refine lv_goto (tgt := 105) hx hb d_Md_tick_144 (by decide) ?_
          exact ih b0 (y2 + 1) (y3 + 1) σ r σ1 h _ _ hH hS ls (lv_sub hl [2, 1, 0] rfl)
set_option maxHeartbeats 4000000 in
set_option maxRecDepth 100000 in
theorem w_Md_tick_L19 {p : Program} {l : Launch} {e : Env} {s : State} {m : MethodId} {args : Array Value} {below : List Frame} {meth : Method} {c : Code} {D : va_G} {T : Nat → ClassId} {A : Nat → Prop} (C0 : fr_At p s m args meth c "FetchRulesModel" b_Md_tick 4 (some .int)) (hK : va_K D vwCl (fr_tys T) s) (hX : fr_X s) :
    ∀ (n : Nat) (b0 : Nat) (y1 : Int32) (y2 : Int32) (σ : fr_S) (r : Int32) (σ1 : fr_S), m_Md_tick_L19 n b0 y1 y2 σ = some (r, σ1) → ∀ (H : Heap) (locs : List Loc), fr_H D T A σ H → va_S A s.heap H locs → ∀ (ls : Array Slot), lv_has ls 4 [(0, .ref b0), (1, .int y1), (2, .int y2)] → W p l e (headSpec (Cond.code y_Md_tick b_Md_tick 4 (some .int) :: fr_W) ({ frames := 4, cells := 0, slots := 0, locals := 94 } : Room)).room s m args below meth c H locs 0 0 (MQ below (fr_Qi D T A r σ1) args s 0 0 A) (F0 m 19 ls []) := by
  obtain ⟨hx, hb, hr, hml, hown, hts, hlocks⟩ := id C0
  intro n
  induction n with
  | zero => intro b0 y1 y2 σ r σ1 h; cases h
  | succ n ih =>
    intro b0 y1 y2 σ r σ1 h H locs hH hS ls hl
    unfold m_Md_tick_L19 at h
    refine lv_iload_n hx hb d_Md_tick_19 rfl (lv_at hl 2 rfl) ?_
    refine lv_iload_n hx hb d_Md_tick_20 rfl (lv_at hl 1 rfl) ?_
    refine lv_icmp_ge (tgt := 101) hx hb d_Md_tick_21 (by decide) (fun c4 => ?_) (fun c4 => ?_)
    · replace h := fr_ift c4 h
      refine lv_iconst (v := 0) hx hb d_Md_tick_101 (by decide) ?_
      refine lv_istore_n (lv' := [(2, .int 0), (0, .ref b0), (1, .int y1)]) hx hb d_Md_tick_102 rfl hl (by decide) rfl (fun ls hl => ?_)
      refine lv_iconst (v := 0) hx hb d_Md_tick_103 (by decide) ?_
      refine lv_istore_n (lv' := [(3, .int 0), (2, .int 0), (0, .ref b0), (1, .int y1)]) hx hb d_Md_tick_104 rfl hl (by decide) rfl (fun ls hl => ?_)
      exact w_Md_tick_L105 C0 hK hX 1000 b0 0 0 σ r σ1 h _ _ hH hS ls (lv_sub hl [2, 1, 0] rfl)
    · replace h := fr_iff c4 h
      refine lv_aload_n hx hb d_Md_tick_24 rfl (lv_at hl 0 rfl) ?_
      refine lv_dup hx hb d_Md_tick_25 rfl ?_
      obtain ⟨v5, e5, h⟩ := fr_bind h
      refine fr_gI hx hb hts in_Md hown hK hH e5 rfl 2 (by decide) (hts _ k_542) (fun _ h9 => h9) rfl d_Md_tick_26 ?_
      refine lv_iconst (v := 1) hx hb d_Md_tick_29 (by decide) ?_
      refine lv_iadd hx hb d_Md_tick_30 ?_
      obtain ⟨σ_6, e6, h⟩ := fr_bind h
      refine fr_putI hx hb hts in_Md ty_Md tk_Md nm_Md hown hK hH hS e6 rfl 2 (by decide) (hts _ k_542) (fun _ h9 => h9) rfl (by decide +kernel) (fs_0_2 _ _ _) (Nat.le_of_ble_eq_true rfl) d_Md_tick_31 (fun H locs hH hS => ?_)
      refine lv_iconst (v := 0) hx hb d_Md_tick_34 (by decide) ?_
      refine lv_istore_n (lv' := [(3, .int 0), (0, .ref b0), (1, .int y1), (2, .int y2)]) hx hb d_Md_tick_35 rfl hl (by decide) rfl (fun ls hl => ?_)
      obtain ⟨σ_7, e7, h⟩ := fr_bind h
      refine w_Md_tick_L36 C0 hK hX 1000 b0 y1 y2 0 σ_6 σ_7 e7 _ _ hH hS ls (lv_sub hl [1, 2, 3, 0] rfl) (fun H locs ls hH hS hl => ?_)
      refine lv_iinc (v := (y2 + 1)) (lv' := [(2, .int (y2 + 1)), (0, .ref b0), (1, .int y1)]) hx hb d_Md_tick_95 hl (k := 2) rfl rfl (by decide) rfl (fun ls hl => ?_)
      refine lv_goto (tgt := 19) hx hb d_Md_tick_98 (by decide) ?_
      exact ih b0 y1 (y2 + 1) σ_7 r σ1 h _ _ hH hS ls (lv_sub hl [1, 2, 0] rfl)
set_option maxHeartbeats 4000000 in
set_option maxRecDepth 100000 in
theorem c_Md_tick (l : Launch) (D : va_G) (T : Nat → ClassId) (A : Nat → Prop) (σ : fr_S) (h0 : Nat) (x1 : Int32) (r : Int32) (σ1 : fr_S) (h : m_Md_tick h0 x1 σ = some (r, σ1)) : Met l y_Md_tick (Cond.code y_Md_tick b_Md_tick 4 (some .int) :: fr_W) ({ frames := 4, cells := 0, slots := 0, locals := 94 } : Room) (va_Pc [.ref h0, .int x1] (fr_B D T A σ)) (fr_Qi D T A r σ1) 0 0 A := by
  refine Met.ofW (cc := b_Md_tick) (maxL := 4) (ret := (some .int)) (by decide) rfl ?_
  intro p e s m args below meth c s₁ B hml hv
  obtain ⟨rfl, hH, hK, hX⟩ := hv
  have C0 : fr_At p s m _ meth c "FetchRulesModel" b_Md_tick 4 (some .int) := fr_at B hml
  obtain ⟨hx, hb, hr, hml, hown, hts, hlocks⟩ := id C0
  have hS : va_S A s.heap s.heap [] := va_S.rf
  have hl := lv_entry ([.ref h0, .int x1]) (n := 4) (Nat.le_of_ble_eq_true rfl)
  rw [lg_entry_eq]
  generalize (lg_sl ([.ref h0, .int x1]) ++ List.replicate (4 - (lg_sl ([.ref h0, .int x1])).length) Slot.unset).toArray = ls at hl ⊢
  have hl : lv_has ls 4 [(0, .ref h0), (1, .int x1)] := hl
  unfold m_Md_tick at h
  refine lv_aload_n hx hb d_Md_tick_0 rfl (lv_at hl 0 rfl) ?_
  refine lv_iconst (v := 0) hx hb d_Md_tick_1 (by decide) ?_
  obtain ⟨σ_1, e1, h⟩ := fr_bind h
  refine fr_putI hx hb hts in_Md ty_Md tk_Md nm_Md hown hK hH hS e1 rfl 1 (by decide) (hts _ k_541) (fun _ h9 => h9) rfl (by decide +kernel) (fs_0_1 _ _ _) (Nat.le_of_ble_eq_true rfl) d_Md_tick_2 (fun H locs hH hS => ?_)
  refine lv_iload_n hx hb d_Md_tick_5 rfl (lv_at hl 1 rfl) ?_
  refine lv_if_lt (tgt := 15) hx hb d_Md_tick_6 (by decide) (fun c2 => ?_) (fun c2 => ?_)
  · replace h := fr_ift c2 h
    refine lv_iconst (v := (-1)) hx hb d_Md_tick_15 (by decide) ?_
    exact fr_iret hx hb hr hlocks  h hH hK hX hS d_Md_tick_16
  · replace h := fr_iff c2 h
    refine lv_iload_n hx hb d_Md_tick_9 rfl (lv_at hl 1 rfl) ?_
    refine lv_bipush (v := 50) hx hb d_Md_tick_10 (by decide) ?_
    refine lv_icmp_le (tgt := 17) hx hb d_Md_tick_12 (by decide) (fun c3 => ?_) (fun c3 => ?_)
    · replace h := fr_ift c3 h
      refine lv_iconst (v := 0) hx hb d_Md_tick_17 (by decide) ?_
      refine lv_istore_n (lv' := [(2, .int 0), (0, .ref h0), (1, .int x1)]) hx hb d_Md_tick_18 rfl hl (by decide) rfl (fun ls hl => ?_)
      exact w_Md_tick_L19 C0 hK hX 1000 h0 x1 0 σ_1 r σ1 h _ _ hH hS ls (lv_sub hl [1, 2, 0] rfl)
    · replace h := fr_iff c3 h
      refine lv_iconst (v := (-1)) hx hb d_Md_tick_15 (by decide) ?_
      exact fr_iret hx hb hr hlocks  h hH hK hX hS d_Md_tick_16
