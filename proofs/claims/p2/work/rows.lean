section
/-- a private method of a class that the tables say can be made, by its rows of tables_1 -/
def lw_okq (q : MethodName × Nat) : Prop := (q.1.cls ≠ "java/lang/invoke/MethodHandle" ∧ q.1.cls ≠ "java/lang/invoke/VarHandle") ∧ Cond.instantiable q.1.cls q.2 ∈ tables_1 ∧ Cond.privateMethod q.1 ∈ tables_1 ∧ Cond.instanceMethod q.1 ∈ tables_1
theorem lw_p0 : lw_okq (⟨"FetchRules", "isPlace", "(I)Z"⟩, 14) := ⟨⟨by decide +kernel, by decide +kernel⟩, List.mem_of_getElem? (i := 13) (by decide +kernel), List.mem_of_getElem? (i := 268) (by decide +kernel), List.mem_of_getElem? (i := 269) (by decide +kernel)⟩
theorem lw_p1 : lw_okq (⟨"FetchRules", "isWant", "(I)Z"⟩, 14) := ⟨⟨by decide +kernel, by decide +kernel⟩, List.mem_of_getElem? (i := 13) (by decide +kernel), List.mem_of_getElem? (i := 301) (by decide +kernel), List.mem_of_getElem? (i := 302) (by decide +kernel)⟩
theorem lw_p2 : lw_okq (⟨"FetchRules", "noteLacking", "(I)V"⟩, 14) := ⟨⟨by decide +kernel, by decide +kernel⟩, List.mem_of_getElem? (i := 13) (by decide +kernel), List.mem_of_getElem? (i := 332) (by decide +kernel), List.mem_of_getElem? (i := 333) (by decide +kernel)⟩
theorem lw_p3 : lw_okq (⟨"FetchRules", "fetchFrom", "(LFetchRules$Want;I)V"⟩, 14) := ⟨⟨by decide +kernel, by decide +kernel⟩, List.mem_of_getElem? (i := 13) (by decide +kernel), List.mem_of_getElem? (i := 336) (by decide +kernel), List.mem_of_getElem? (i := 337) (by decide +kernel)⟩
theorem lw_p4 : lw_okq (⟨"FetchRules", "moveClock", "()V"⟩, 14) := ⟨⟨by decide +kernel, by decide +kernel⟩, List.mem_of_getElem? (i := 13) (by decide +kernel), List.mem_of_getElem? (i := 348) (by decide +kernel), List.mem_of_getElem? (i := 349) (by decide +kernel)⟩
theorem lw_p5 : lw_okq (⟨"FetchRules", "takeTurn", "(I)V"⟩, 14) := ⟨⟨by decide +kernel, by decide +kernel⟩, List.mem_of_getElem? (i := 13) (by decide +kernel), List.mem_of_getElem? (i := 352) (by decide +kernel), List.mem_of_getElem? (i := 353) (by decide +kernel)⟩
theorem lw_p6 : lw_okq (⟨"FetchRules", "ask", "(I)I"⟩, 14) := ⟨⟨by decide +kernel, by decide +kernel⟩, List.mem_of_getElem? (i := 13) (by decide +kernel), List.mem_of_getElem? (i := 360) (by decide +kernel), List.mem_of_getElem? (i := 361) (by decide +kernel)⟩
theorem lw_p7 : lw_okq (⟨"FetchRules", "countSent", "(IZ)V"⟩, 14) := ⟨⟨by decide +kernel, by decide +kernel⟩, List.mem_of_getElem? (i := 13) (by decide +kernel), List.mem_of_getElem? (i := 364) (by decide +kernel), List.mem_of_getElem? (i := 365) (by decide +kernel)⟩
theorem lw_p8 : lw_okq (⟨"FetchRules", "giveUp", "(LFetchRules$Want;)V"⟩, 14) := ⟨⟨by decide +kernel, by decide +kernel⟩, List.mem_of_getElem? (i := 13) (by decide +kernel), List.mem_of_getElem? (i := 376) (by decide +kernel), List.mem_of_getElem? (i := 377) (by decide +kernel)⟩
theorem lw_p9 : lw_okq (⟨"FetchRules$Place", "givenByte", "(I)I"⟩, 10) := ⟨⟨by decide +kernel, by decide +kernel⟩, List.mem_of_getElem? (i := 117) (by decide +kernel), List.mem_of_getElem? (i := 385) (by decide +kernel), List.mem_of_getElem? (i := 386) (by decide +kernel)⟩
theorem lw_p10 : lw_okq (⟨"FetchRules", "checkDigest", "(I)V"⟩, 14) := ⟨⟨by decide +kernel, by decide +kernel⟩, List.mem_of_getElem? (i := 13) (by decide +kernel), List.mem_of_getElem? (i := 394) (by decide +kernel), List.mem_of_getElem? (i := 395) (by decide +kernel)⟩
theorem lw_p11 : lw_okq (⟨"FetchRules", "falter", "(LFetchRules$Want;)V"⟩, 14) := ⟨⟨by decide +kernel, by decide +kernel⟩, List.mem_of_getElem? (i := 13) (by decide +kernel), List.mem_of_getElem? (i := 408) (by decide +kernel), List.mem_of_getElem? (i := 409) (by decide +kernel)⟩
theorem lw_p12 : lw_okq (⟨"FetchRules", "countBusy", "()I"⟩, 14) := ⟨⟨by decide +kernel, by decide +kernel⟩, List.mem_of_getElem? (i := 13) (by decide +kernel), List.mem_of_getElem? (i := 412) (by decide +kernel), List.mem_of_getElem? (i := 413) (by decide +kernel)⟩
theorem lw_p13 : lw_okq (⟨"FetchRules$Files", "put", "(LFetchRules$Row;II)V"⟩, 5) := ⟨⟨by decide +kernel, by decide +kernel⟩, List.mem_of_getElem? (i := 85) (by decide +kernel), List.mem_of_getElem? (i := 479) (by decide +kernel), List.mem_of_getElem? (i := 480) (by decide +kernel)⟩
theorem lw_p14 : lw_okq (⟨"FetchRules$Files", "findPath", "(LFetchRules$Row;II)I"⟩, 5) := ⟨⟨by decide +kernel, by decide +kernel⟩, List.mem_of_getElem? (i := 85) (by decide +kernel), List.mem_of_getElem? (i := 483) (by decide +kernel), List.mem_of_getElem? (i := 484) (by decide +kernel)⟩
theorem lw_p15 : lw_okq (⟨"FetchRulesModel", "isPlace", "(I)Z"⟩, 44) := ⟨⟨by decide +kernel, by decide +kernel⟩, List.mem_of_getElem? (i := 505) (by decide +kernel), List.mem_of_getElem? (i := 656) (by decide +kernel), List.mem_of_getElem? (i := 657) (by decide +kernel)⟩
def lw_privs_1 : List (MethodName × Nat) := [(⟨"FetchRules", "isPlace", "(I)Z"⟩, 14), (⟨"FetchRules", "isWant", "(I)Z"⟩, 14), (⟨"FetchRules", "noteLacking", "(I)V"⟩, 14), (⟨"FetchRules", "fetchFrom", "(LFetchRules$Want;I)V"⟩, 14), (⟨"FetchRules", "moveClock", "()V"⟩, 14), (⟨"FetchRules", "takeTurn", "(I)V"⟩, 14), (⟨"FetchRules", "ask", "(I)I"⟩, 14), (⟨"FetchRules", "countSent", "(IZ)V"⟩, 14), (⟨"FetchRules", "giveUp", "(LFetchRules$Want;)V"⟩, 14), (⟨"FetchRules$Place", "givenByte", "(I)I"⟩, 10), (⟨"FetchRules", "checkDigest", "(I)V"⟩, 14), (⟨"FetchRules", "falter", "(LFetchRules$Want;)V"⟩, 14), (⟨"FetchRules", "countBusy", "()I"⟩, 14), (⟨"FetchRules$Files", "put", "(LFetchRules$Row;II)V"⟩, 5), (⟨"FetchRules$Files", "findPath", "(LFetchRules$Row;II)I"⟩, 5), (⟨"FetchRulesModel", "isPlace", "(I)Z"⟩, 44)]
theorem lw_r1 : ∀ q ∈ lw_privs_1, lw_okq q := List.forall_mem_cons.mpr ⟨lw_p0, List.forall_mem_cons.mpr ⟨lw_p1, List.forall_mem_cons.mpr ⟨lw_p2, List.forall_mem_cons.mpr ⟨lw_p3, List.forall_mem_cons.mpr ⟨lw_p4, List.forall_mem_cons.mpr ⟨lw_p5, List.forall_mem_cons.mpr ⟨lw_p6, List.forall_mem_cons.mpr ⟨lw_p7, List.forall_mem_cons.mpr ⟨lw_p8, List.forall_mem_cons.mpr ⟨lw_p9, List.forall_mem_cons.mpr ⟨lw_p10, List.forall_mem_cons.mpr ⟨lw_p11, List.forall_mem_cons.mpr ⟨lw_p12, List.forall_mem_cons.mpr ⟨lw_p13, List.forall_mem_cons.mpr ⟨lw_p14, List.forall_mem_cons.mpr ⟨lw_p15, fun _ h => absurd h List.not_mem_nil⟩⟩⟩⟩⟩⟩⟩⟩⟩⟩⟩⟩⟩⟩⟩⟩
theorem lw_p16 : lw_okq (⟨"FetchRulesModel", "isWant", "(I)Z"⟩, 44) := ⟨⟨by decide +kernel, by decide +kernel⟩, List.mem_of_getElem? (i := 505) (by decide +kernel), List.mem_of_getElem? (i := 685) (by decide +kernel), List.mem_of_getElem? (i := 686) (by decide +kernel)⟩
theorem lw_p17 : lw_okq (⟨"FetchRulesModel", "keptOf", "(I)I"⟩, 44) := ⟨⟨by decide +kernel, by decide +kernel⟩, List.mem_of_getElem? (i := 505) (by decide +kernel), List.mem_of_getElem? (i := 697) (by decide +kernel), List.mem_of_getElem? (i := 698) (by decide +kernel)⟩
theorem lw_p18 : lw_okq (⟨"FetchRulesModel", "tellLack", "(I)V"⟩, 44) := ⟨⟨by decide +kernel, by decide +kernel⟩, List.mem_of_getElem? (i := 505) (by decide +kernel), List.mem_of_getElem? (i := 701) (by decide +kernel), List.mem_of_getElem? (i := 702) (by decide +kernel)⟩
theorem lw_p19 : lw_okq (⟨"FetchRulesModel", "goOn", "(II)V"⟩, 44) := ⟨⟨by decide +kernel, by decide +kernel⟩, List.mem_of_getElem? (i := 505) (by decide +kernel), List.mem_of_getElem? (i := 705) (by decide +kernel), List.mem_of_getElem? (i := 706) (by decide +kernel)⟩
theorem lw_p20 : lw_okq (⟨"FetchRulesModel", "turn", "(I)V"⟩, 44) := ⟨⟨by decide +kernel, by decide +kernel⟩, List.mem_of_getElem? (i := 505) (by decide +kernel), List.mem_of_getElem? (i := 713) (by decide +kernel), List.mem_of_getElem? (i := 714) (by decide +kernel)⟩
theorem lw_p21 : lw_okq (⟨"FetchRulesModel", "ask", "(I)I"⟩, 44) := ⟨⟨by decide +kernel, by decide +kernel⟩, List.mem_of_getElem? (i := 505) (by decide +kernel), List.mem_of_getElem? (i := 717) (by decide +kernel), List.mem_of_getElem? (i := 718) (by decide +kernel)⟩
theorem lw_p22 : lw_okq (⟨"FetchRulesModel", "judge", "(I)V"⟩, 44) := ⟨⟨by decide +kernel, by decide +kernel⟩, List.mem_of_getElem? (i := 505) (by decide +kernel), List.mem_of_getElem? (i := 721) (by decide +kernel), List.mem_of_getElem? (i := 722) (by decide +kernel)⟩
theorem lw_p23 : lw_okq (⟨"FetchRulesModel", "keep", "(I)V"⟩, 44) := ⟨⟨by decide +kernel, by decide +kernel⟩, List.mem_of_getElem? (i := 505) (by decide +kernel), List.mem_of_getElem? (i := 725) (by decide +kernel), List.mem_of_getElem? (i := 726) (by decide +kernel)⟩
theorem lw_p24 : lw_okq (⟨"FetchRulesModel", "falter", "(I)V"⟩, 44) := ⟨⟨by decide +kernel, by decide +kernel⟩, List.mem_of_getElem? (i := 505) (by decide +kernel), List.mem_of_getElem? (i := 729) (by decide +kernel), List.mem_of_getElem? (i := 730) (by decide +kernel)⟩
theorem lw_p25 : lw_okq (⟨"FetchRulesModel", "read", "(IIZ)I"⟩, 44) := ⟨⟨by decide +kernel, by decide +kernel⟩, List.mem_of_getElem? (i := 505) (by decide +kernel), List.mem_of_getElem? (i := 761) (by decide +kernel), List.mem_of_getElem? (i := 762) (by decide +kernel)⟩
theorem lw_p26 : lw_okq (⟨"FetchRulesModel", "isRight", "(II)Z"⟩, 44) := ⟨⟨by decide +kernel, by decide +kernel⟩, List.mem_of_getElem? (i := 505) (by decide +kernel), List.mem_of_getElem? (i := 765) (by decide +kernel), List.mem_of_getElem? (i := 766) (by decide +kernel)⟩
theorem lw_p27 : lw_okq (⟨"FetchRulesModel", "strip", "(III)I"⟩, 44) := ⟨⟨by decide +kernel, by decide +kernel⟩, List.mem_of_getElem? (i := 505) (by decide +kernel), List.mem_of_getElem? (i := 772) (by decide +kernel), List.mem_of_getElem? (i := 773) (by decide +kernel)⟩
theorem lw_p28 : lw_okq (⟨"FetchRulesModel", "putFile", "(IIIII)V"⟩, 44) := ⟨⟨by decide +kernel, by decide +kernel⟩, List.mem_of_getElem? (i := 505) (by decide +kernel), List.mem_of_getElem? (i := 776) (by decide +kernel), List.mem_of_getElem? (i := 777) (by decide +kernel)⟩
theorem lw_p29 : lw_okq (⟨"FetchRulesModel", "isSamePath", "(IIII)Z"⟩, 44) := ⟨⟨by decide +kernel, by decide +kernel⟩, List.mem_of_getElem? (i := 505) (by decide +kernel), List.mem_of_getElem? (i := 780) (by decide +kernel), List.mem_of_getElem? (i := 781) (by decide +kernel)⟩
def lw_privs_2 : List (MethodName × Nat) := [(⟨"FetchRulesModel", "isWant", "(I)Z"⟩, 44), (⟨"FetchRulesModel", "keptOf", "(I)I"⟩, 44), (⟨"FetchRulesModel", "tellLack", "(I)V"⟩, 44), (⟨"FetchRulesModel", "goOn", "(II)V"⟩, 44), (⟨"FetchRulesModel", "turn", "(I)V"⟩, 44), (⟨"FetchRulesModel", "ask", "(I)I"⟩, 44), (⟨"FetchRulesModel", "judge", "(I)V"⟩, 44), (⟨"FetchRulesModel", "keep", "(I)V"⟩, 44), (⟨"FetchRulesModel", "falter", "(I)V"⟩, 44), (⟨"FetchRulesModel", "read", "(IIZ)I"⟩, 44), (⟨"FetchRulesModel", "isRight", "(II)Z"⟩, 44), (⟨"FetchRulesModel", "strip", "(III)I"⟩, 44), (⟨"FetchRulesModel", "putFile", "(IIIII)V"⟩, 44), (⟨"FetchRulesModel", "isSamePath", "(IIII)Z"⟩, 44)]
theorem lw_r2 : ∀ q ∈ lw_privs_2, lw_okq q := List.forall_mem_cons.mpr ⟨lw_p16, List.forall_mem_cons.mpr ⟨lw_p17, List.forall_mem_cons.mpr ⟨lw_p18, List.forall_mem_cons.mpr ⟨lw_p19, List.forall_mem_cons.mpr ⟨lw_p20, List.forall_mem_cons.mpr ⟨lw_p21, List.forall_mem_cons.mpr ⟨lw_p22, List.forall_mem_cons.mpr ⟨lw_p23, List.forall_mem_cons.mpr ⟨lw_p24, List.forall_mem_cons.mpr ⟨lw_p25, List.forall_mem_cons.mpr ⟨lw_p26, List.forall_mem_cons.mpr ⟨lw_p27, List.forall_mem_cons.mpr ⟨lw_p28, List.forall_mem_cons.mpr ⟨lw_p29, fun _ h => absurd h List.not_mem_nil⟩⟩⟩⟩⟩⟩⟩⟩⟩⟩⟩⟩⟩⟩
def lw_privs : List (MethodName × Nat) := lw_privs_1 ++ (lw_privs_2)
def lw_tbl : List Cond := k2_sels lw_privs ++ tables_1
theorem lw_privs_ok : ∀ q ∈ lw_privs, lw_okq q := by
  show ∀ q ∈ lw_privs_1 ++ (lw_privs_2), lw_okq q
  exact List.forall_mem_append.mpr ⟨lw_r1, lw_r2⟩

/-- the words that a call carries on -/
def fr_W : List Cond := lw_tbl.filter goodWord
theorem fr_m {w : Cond} (i : Nat) (h : lw_tbl[i]? = some w) (hg : goodWord w = true) : w ∈ fr_W := List.mem_filter.mpr ⟨List.mem_of_getElem? h, hg⟩
theorem fr_allgood : fr_W.all goodWord = true := List.all_eq_true.mpr (fun _ h => (List.mem_filter.mp h).2)
theorem fr_sub {ws : List Cond} (is : List Nat) (h : ws = is.filterMap (fun i => lw_tbl[i]?)) (hg : ws.all goodWord = true) : ∀ w ∈ ws, w ∈ fr_W := by
  intro w hw
  have h1 := List.all_eq_true.mp hg w hw
  rw [h] at hw
  obtain ⟨i, -, hi⟩ := List.mem_filterMap.mp hw
  exact fr_m i hi h1
end
section
def T_FR : u_T := fun k => match k with
  | 0 => ("FetchRules", "retries", "I", true)
  | 1 => ("FetchRules", "credentials", "[Z", true)
  | 2 => ("FetchRules", "sentCounts", "[I", true)
  | 3 => ("FetchRules", "places", "[LFetchRules$Place;", true)
  | 4 => ("FetchRules", "placeCount", "I", false)
  | 5 => ("FetchRules", "wants", "[LFetchRules$Want;", true)
  | 6 => ("FetchRules", "wantCount", "I", false)
  | 7 => ("FetchRules", "store", "LFetchRules$Store;", true)
  | 8 => ("FetchRules", "tellings", "LFetchRules$Tellings;", true)
  | 9 => ("FetchRules", "lacking", "[I", true)
  | 10 => ("FetchRules", "lackingCount", "I", false)
  | 11 => ("FetchRules", "files", "LFetchRules$Files;", true)
  | 12 => ("FetchRules", "isOffLine", "Z", false)
  | _ => ("FetchRules", "clock", "I", false)
def ty_FR : Nat → FieldType := fun k => match k with
  | 0 => .int
  | 1 => .array (.boolean)
  | 2 => .array (.int)
  | 3 => .array (.object "FetchRules$Place")
  | 4 => .int
  | 5 => .array (.object "FetchRules$Want")
  | 6 => .int
  | 7 => .object "FetchRules$Store"
  | 8 => .object "FetchRules$Tellings"
  | 9 => .array (.int)
  | 10 => .int
  | 11 => .object "FetchRules$Files"
  | 12 => .boolean
  | _ => .int
theorem nm_FR : ∀ a, a < 14 → ∀ b, b < 14 → a ≠ b → (T_FR a).2.1 ≠ (T_FR b).2.1 := by decide +kernel
theorem tk_FR : ∀ k, k < 14 → parseFieldDescriptor (T_FR k).2.2.1 = some (ty_FR k) := by decide +kernel
theorem in_FR : ∀ w ∈ u_ws "FetchRules" T_FR 14, w ∈ fr_W := fr_sub [253, 255, 257, 259, 261, 263, 265, 267, 269, 271, 273, 275, 277, 279] (by decide +kernel) (by decide +kernel)
def T_Files : u_T := fun k => match k with
  | 0 => ("FetchRules$Files", "bytesStarts", "[I", true)
  | 1 => ("FetchRules$Files", "bytesLengths", "[I", true)
  | 2 => ("FetchRules$Files", "pathStarts", "[I", true)
  | 3 => ("FetchRules$Files", "pathLengths", "[I", true)
  | _ => ("FetchRules$Files", "count", "I", false)
def ty_Files : Nat → FieldType := fun k => match k with
  | 0 => .array (.int)
  | 1 => .array (.int)
  | 2 => .array (.int)
  | 3 => .array (.int)
  | _ => .int
theorem nm_Files : ∀ a, a < 5 → ∀ b, b < 5 → a ≠ b → (T_Files a).2.1 ≠ (T_Files b).2.1 := by decide +kernel
theorem tk_Files : ∀ k, k < 5 → parseFieldDescriptor (T_Files k).2.2.1 = some (ty_Files k) := by decide +kernel
theorem in_Files : ∀ w ∈ u_ws "FetchRules$Files" T_Files 5, w ∈ fr_W := fr_sub [130, 132, 134, 136, 138] (by decide +kernel) (by decide +kernel)
def T_Place : u_T := fun k => match k with
  | 0 => ("FetchRules$Place", "bytes", "LFetchRules$Row;", true)
  | 1 => ("FetchRules$Place", "host", "I", false)
  | 2 => ("FetchRules$Place", "rate", "I", false)
  | 3 => ("FetchRules$Place", "leadsTo", "I", false)
  | 4 => ("FetchRules$Place", "cutsLeft", "I", false)
  | 5 => ("FetchRules$Place", "cutBytes", "I", false)
  | 6 => ("FetchRules$Place", "isGone", "Z", false)
  | 7 => ("FetchRules$Place", "wantsCredential", "Z", false)
  | 8 => ("FetchRules$Place", "lies", "Z", false)
  | _ => ("FetchRules$Place", "isBarred", "Z", false)
def ty_Place : Nat → FieldType := fun k => match k with
  | 0 => .object "FetchRules$Row"
  | 1 => .int
  | 2 => .int
  | 3 => .int
  | 4 => .int
  | 5 => .int
  | 6 => .boolean
  | 7 => .boolean
  | 8 => .boolean
  | _ => .boolean
theorem nm_Place : ∀ a, a < 10 → ∀ b, b < 10 → a ≠ b → (T_Place a).2.1 ≠ (T_Place b).2.1 := by decide +kernel
theorem tk_Place : ∀ k, k < 10 → parseFieldDescriptor (T_Place k).2.2.1 = some (ty_Place k) := by decide +kernel
theorem in_Place : ∀ w ∈ u_ws "FetchRules$Place" T_Place 10, w ∈ fr_W := fr_sub [174, 176, 178, 180, 182, 184, 186, 188, 190, 192] (by decide +kernel) (by decide +kernel)
def T_Row : u_T := fun k => match k with
  | 0 => ("FetchRules$Row", "values", "[I", true)
  | _ => ("FetchRules$Row", "length", "I", false)
def ty_Row : Nat → FieldType := fun k => match k with
  | 0 => .array (.int)
  | _ => .int
theorem nm_Row : ∀ a, a < 2 → ∀ b, b < 2 → a ≠ b → (T_Row a).2.1 ≠ (T_Row b).2.1 := by decide +kernel
theorem tk_Row : ∀ k, k < 2 → parseFieldDescriptor (T_Row k).2.2.1 = some (ty_Row k) := by decide +kernel
theorem in_Row : ∀ w ∈ u_ws "FetchRules$Row" T_Row 2, w ∈ fr_W := fr_sub [74, 76] (by decide +kernel) (by decide +kernel)
def T_Store : u_T := fun k => match k with
  | 0 => ("FetchRules$Store", "digests", "[I", true)
  | 1 => ("FetchRules$Store", "rows", "[LFetchRules$Row;", true)
  | _ => ("FetchRules$Store", "count", "I", false)
def ty_Store : Nat → FieldType := fun k => match k with
  | 0 => .array (.int)
  | 1 => .array (.object "FetchRules$Row")
  | _ => .int
theorem nm_Store : ∀ a, a < 3 → ∀ b, b < 3 → a ≠ b → (T_Store a).2.1 ≠ (T_Store b).2.1 := by decide +kernel
theorem tk_Store : ∀ k, k < 3 → parseFieldDescriptor (T_Store k).2.2.1 = some (ty_Store k) := by decide +kernel
theorem in_Store : ∀ w ∈ u_ws "FetchRules$Store" T_Store 3, w ∈ fr_W := fr_sub [85, 87, 89] (by decide +kernel) (by decide +kernel)
def T_Tellings : u_T := fun k => match k with
  | 0 => ("FetchRules$Tellings", "wantNumbers", "[I", true)
  | 1 => ("FetchRules$Tellings", "placeNumbers", "[I", true)
  | 2 => ("FetchRules$Tellings", "digests", "[I", true)
  | _ => ("FetchRules$Tellings", "count", "I", false)
def ty_Tellings : Nat → FieldType := fun k => match k with
  | 0 => .array (.int)
  | 1 => .array (.int)
  | 2 => .array (.int)
  | _ => .int
theorem nm_Tellings : ∀ a, a < 4 → ∀ b, b < 4 → a ≠ b → (T_Tellings a).2.1 ≠ (T_Tellings b).2.1 := by decide +kernel
theorem tk_Tellings : ∀ k, k < 4 → parseFieldDescriptor (T_Tellings k).2.2.1 = some (ty_Tellings k) := by decide +kernel
theorem in_Tellings : ∀ w ∈ u_ws "FetchRules$Tellings" T_Tellings 4, w ∈ fr_W := fr_sub [105, 107, 109, 111] (by decide +kernel) (by decide +kernel)
def T_Want : u_T := fun k => match k with
  | 0 => ("FetchRules$Want", "bytes", "LFetchRules$Row;", true)
  | 1 => ("FetchRules$Want", "placeNumbers", "[I", true)
  | 2 => ("FetchRules$Want", "placeCount", "I", false)
  | 3 => ("FetchRules$Want", "wantedDigest", "I", false)
  | 4 => ("FetchRules$Want", "state", "I", false)
  | 5 => ("FetchRules$Want", "current", "I", false)
  | 6 => ("FetchRules$Want", "falters", "I", false)
  | 7 => ("FetchRules$Want", "waitsTill", "I", false)
  | _ => ("FetchRules$Want", "turns", "I", false)
def ty_Want : Nat → FieldType := fun k => match k with
  | 0 => .object "FetchRules$Row"
  | 1 => .array (.int)
  | 2 => .int
  | 3 => .int
  | 4 => .int
  | 5 => .int
  | 6 => .int
  | 7 => .int
  | _ => .int
theorem nm_Want : ∀ a, a < 9 → ∀ b, b < 9 → a ≠ b → (T_Want a).2.1 ≠ (T_Want b).2.1 := by decide +kernel
theorem tk_Want : ∀ k, k < 9 → parseFieldDescriptor (T_Want k).2.2.1 = some (ty_Want k) := by decide +kernel
theorem in_Want : ∀ w ∈ u_ws "FetchRules$Want" T_Want 9, w ∈ fr_W := fr_sub [220, 222, 224, 226, 228, 230, 232, 234, 236] (by decide +kernel) (by decide +kernel)
def T_Md : u_T := fun k => match k with
  | 0 => ("FetchRulesModel", "retries", "I", true)
  | 1 => ("FetchRulesModel", "code", "I", false)
  | 2 => ("FetchRulesModel", "clock", "I", false)
  | 3 => ("FetchRulesModel", "isOffLine", "Z", false)
  | 4 => ("FetchRulesModel", "hasCredential", "[Z", true)
  | 5 => ("FetchRulesModel", "sent", "[I", true)
  | 6 => ("FetchRulesModel", "places", "I", false)
  | 7 => ("FetchRulesModel", "wants", "I", false)
  | 8 => ("FetchRulesModel", "keptMany", "I", false)
  | 9 => ("FetchRulesModel", "told", "I", false)
  | 10 => ("FetchRulesModel", "lacking", "I", false)
  | 11 => ("FetchRulesModel", "host", "[I", true)
  | 12 => ("FetchRulesModel", "rate", "[I", true)
  | 13 => ("FetchRulesModel", "size", "[I", true)
  | 14 => ("FetchRulesModel", "leads", "[I", true)
  | 15 => ("FetchRulesModel", "cuts", "[I", true)
  | 16 => ("FetchRulesModel", "cutBytes", "[I", true)
  | 17 => ("FetchRulesModel", "bytes", "[I", true)
  | 18 => ("FetchRulesModel", "isGone", "[Z", true)
  | 19 => ("FetchRulesModel", "asks", "[Z", true)
  | 20 => ("FetchRulesModel", "lies", "[Z", true)
  | 21 => ("FetchRulesModel", "isBarred", "[Z", true)
  | 22 => ("FetchRulesModel", "goal", "[I", true)
  | 23 => ("FetchRulesModel", "placeMany", "[I", true)
  | 24 => ("FetchRulesModel", "placeOf", "[I", true)
  | 25 => ("FetchRulesModel", "state", "[I", true)
  | 26 => ("FetchRulesModel", "at", "[I", true)
  | 27 => ("FetchRulesModel", "has", "[I", true)
  | 28 => ("FetchRulesModel", "row", "[I", true)
  | 29 => ("FetchRulesModel", "till", "[I", true)
  | 30 => ("FetchRulesModel", "turns", "[I", true)
  | 31 => ("FetchRulesModel", "falters", "[I", true)
  | 32 => ("FetchRulesModel", "kept", "[I", true)
  | 33 => ("FetchRulesModel", "keptSize", "[I", true)
  | 34 => ("FetchRulesModel", "keptRow", "[I", true)
  | 35 => ("FetchRulesModel", "toldWant", "[I", true)
  | 36 => ("FetchRulesModel", "toldPlace", "[I", true)
  | 37 => ("FetchRulesModel", "toldDigest", "[I", true)
  | 38 => ("FetchRulesModel", "lack", "[I", true)
  | 39 => ("FetchRulesModel", "files", "I", false)
  | 40 => ("FetchRulesModel", "fileAt", "[I", true)
  | 41 => ("FetchRulesModel", "fileMany", "[I", true)
  | 42 => ("FetchRulesModel", "pathAt", "[I", true)
  | _ => ("FetchRulesModel", "pathMany", "[I", true)
def ty_Md : Nat → FieldType := fun k => match k with
  | 0 => .int
  | 1 => .int
  | 2 => .int
  | 3 => .boolean
  | 4 => .array (.boolean)
  | 5 => .array (.int)
  | 6 => .int
  | 7 => .int
  | 8 => .int
  | 9 => .int
  | 10 => .int
  | 11 => .array (.int)
  | 12 => .array (.int)
  | 13 => .array (.int)
  | 14 => .array (.int)
  | 15 => .array (.int)
  | 16 => .array (.int)
  | 17 => .array (.int)
  | 18 => .array (.boolean)
  | 19 => .array (.boolean)
  | 20 => .array (.boolean)
  | 21 => .array (.boolean)
  | 22 => .array (.int)
  | 23 => .array (.int)
  | 24 => .array (.int)
  | 25 => .array (.int)
  | 26 => .array (.int)
  | 27 => .array (.int)
  | 28 => .array (.int)
  | 29 => .array (.int)
  | 30 => .array (.int)
  | 31 => .array (.int)
  | 32 => .array (.int)
  | 33 => .array (.int)
  | 34 => .array (.int)
  | 35 => .array (.int)
  | 36 => .array (.int)
  | 37 => .array (.int)
  | 38 => .array (.int)
  | 39 => .int
  | 40 => .array (.int)
  | 41 => .array (.int)
  | 42 => .array (.int)
  | _ => .array (.int)
theorem nm_Md : ∀ a, a < 44 → ∀ b, b < 44 → a ≠ b → (T_Md a).2.1 ≠ (T_Md b).2.1 := by decide +kernel
theorem tk_Md : ∀ k, k < 44 → parseFieldDescriptor (T_Md k).2.2.1 = some (ty_Md k) := by decide +kernel
theorem in_Md : ∀ w ∈ u_ws "FetchRulesModel" T_Md 44, w ∈ fr_W := fr_sub [584, 586, 588, 590, 592, 594, 596, 598, 600, 602, 604, 606, 608, 610, 612, 614, 616, 618, 620, 622, 624, 626, 628, 630, 632, 634, 636, 638, 640, 642, 644, 646, 648, 650, 652, 654, 656, 658, 660, 662, 664, 666, 668, 670] (by decide +kernel) (by decide +kernel)
abbrev vwCl : List vw_C := [("FetchRules", T_FR, 14), ("FetchRules$Files", T_Files, 5), ("FetchRules$Place", T_Place, 10), ("FetchRules$Row", T_Row, 2), ("FetchRules$Store", T_Store, 3), ("FetchRules$Tellings", T_Tellings, 4), ("FetchRules$Want", T_Want, 9), ("FetchRulesModel", T_Md, 44)]
def fr_arrs : List String := ["FetchRules$Place", "FetchRules$Want", "FetchRules$Row"]
abbrev fr_tys (T : Nat → ClassId) : List (ClassId × FieldType) := [(T 0, .int), (T 1, .boolean), (T 2, .object "FetchRules$Place"), (T 3, .object "FetchRules$Want"), (T 4, .object "FetchRules$Row")]
def y_FR_init : MethodName := ⟨"FetchRules", "<init>", "(I)V"⟩
abbrev b_FR_init : ByteArray := prog_1_method_1_code
def y_FR_credential : MethodName := ⟨"FetchRules", "credential", "(IZ)Z"⟩
abbrev b_FR_credential : ByteArray := prog_1_method_2_code
def y_FR_place : MethodName := ⟨"FetchRules", "place", "(II)I"⟩
abbrev b_FR_place : ByteArray := prog_1_method_3_code
def y_FR_content : MethodName := ⟨"FetchRules", "content", "(IJI)Z"⟩
abbrev b_FR_content : ByteArray := prog_1_method_4_code
def y_FR_does : MethodName := ⟨"FetchRules", "does", "(III)Z"⟩
abbrev b_FR_does : ByteArray := prog_1_method_5_code
def y_FR_cut : MethodName := ⟨"FetchRules", "cut", "(III)Z"⟩
abbrev b_FR_cut : ByteArray := prog_1_method_6_code
def y_FR_digest : MethodName := ⟨"FetchRules", "digest", "(I)I"⟩
abbrev b_FR_digest : ByteArray := prog_1_method_7_code
def y_FR_want : MethodName := ⟨"FetchRules", "want", "(I)I"⟩
abbrev b_FR_want : ByteArray := prog_1_method_8_code
def y_FR_from : MethodName := ⟨"FetchRules", "from", "(II)Z"⟩
abbrev b_FR_from : ByteArray := prog_1_method_9_code
def y_FR_offLine : MethodName := ⟨"FetchRules", "offLine", "(Z)V"⟩
abbrev b_FR_offLine : ByteArray := prog_1_method_10_code
def y_FR_begin : MethodName := ⟨"FetchRules", "begin", "(I)I"⟩
abbrev b_FR_begin : ByteArray := prog_1_method_11_code
def y_FR_tick : MethodName := ⟨"FetchRules", "tick", "(I)I"⟩
abbrev b_FR_tick : ByteArray := prog_1_method_12_code
def y_FR_about : MethodName := ⟨"FetchRules", "about", "(II)I"⟩
abbrev b_FR_about : ByteArray := prog_1_method_13_code
def y_FR_byteOf : MethodName := ⟨"FetchRules", "byteOf", "(II)I"⟩
abbrev b_FR_byteOf : ByteArray := prog_1_method_14_code
def y_FR_barred : MethodName := ⟨"FetchRules", "barred", "(II)I"⟩
abbrev b_FR_barred : ByteArray := prog_1_method_15_code
def y_FR_came : MethodName := ⟨"FetchRules", "came", "(I)I"⟩
abbrev b_FR_came : ByteArray := prog_1_method_16_code
def y_FR_lacks : MethodName := ⟨"FetchRules", "lacks", "(I)I"⟩
abbrev b_FR_lacks : ByteArray := prog_1_method_17_code
def y_FR_sent : MethodName := ⟨"FetchRules", "sent", "(I)I"⟩
abbrev b_FR_sent : ByteArray := prog_1_method_18_code
def y_FR_unpack : MethodName := ⟨"FetchRules", "unpack", "(II)I"⟩
abbrev b_FR_unpack : ByteArray := prog_1_method_19_code
def y_FR_file : MethodName := ⟨"FetchRules", "file", "(II)I"⟩
abbrev b_FR_file : ByteArray := prog_1_method_20_code
def y_FR_isHost : MethodName := ⟨"FetchRules", "isHost", "(I)Z"⟩
abbrev b_FR_isHost : ByteArray := prog_1_method_21_code
def y_FR_isPlace : MethodName := ⟨"FetchRules", "isPlace", "(I)Z"⟩
abbrev b_FR_isPlace : ByteArray := prog_1_method_22_code
def y_FR_isWant : MethodName := ⟨"FetchRules", "isWant", "(I)Z"⟩
abbrev b_FR_isWant : ByteArray := prog_1_method_23_code
def y_FR_noteLacking : MethodName := ⟨"FetchRules", "noteLacking", "(I)V"⟩
abbrev b_FR_noteLacking : ByteArray := prog_1_method_24_code
def y_FR_countBusy : MethodName := ⟨"FetchRules", "countBusy", "()I"⟩
abbrev b_FR_countBusy : ByteArray := prog_1_method_25_code
def y_FR_moveClock : MethodName := ⟨"FetchRules", "moveClock", "()V"⟩
abbrev b_FR_moveClock : ByteArray := prog_1_method_26_code
def y_FR_takeTurn : MethodName := ⟨"FetchRules", "takeTurn", "(I)V"⟩
abbrev b_FR_takeTurn : ByteArray := prog_1_method_27_code
def y_FR_ask : MethodName := ⟨"FetchRules", "ask", "(I)I"⟩
abbrev b_FR_ask : ByteArray := prog_1_method_28_code
def y_FR_countSent : MethodName := ⟨"FetchRules", "countSent", "(IZ)V"⟩
abbrev b_FR_countSent : ByteArray := prog_1_method_29_code
def y_FR_checkDigest : MethodName := ⟨"FetchRules", "checkDigest", "(I)V"⟩
abbrev b_FR_checkDigest : ByteArray := prog_1_method_30_code
def y_FR_falter : MethodName := ⟨"FetchRules", "falter", "(LFetchRules$Want;)V"⟩
abbrev b_FR_falter : ByteArray := prog_1_method_31_code
def y_FR_giveUp : MethodName := ⟨"FetchRules", "giveUp", "(LFetchRules$Want;)V"⟩
abbrev b_FR_giveUp : ByteArray := prog_1_method_32_code
def y_FR_fetchFrom : MethodName := ⟨"FetchRules", "fetchFrom", "(LFetchRules$Want;I)V"⟩
abbrev b_FR_fetchFrom : ByteArray := prog_1_method_33_code
def y_Md_init : MethodName := ⟨"FetchRulesModel", "<init>", "(I)V"⟩
abbrev b_Md_init : ByteArray := prog_10_method_1_code
def y_Md_isPlace : MethodName := ⟨"FetchRulesModel", "isPlace", "(I)Z"⟩
abbrev b_Md_isPlace : ByteArray := prog_10_method_3_code
def y_Md_isWant : MethodName := ⟨"FetchRulesModel", "isWant", "(I)Z"⟩
abbrev b_Md_isWant : ByteArray := prog_10_method_4_code
def y_Md_credential : MethodName := ⟨"FetchRulesModel", "credential", "(IZ)Z"⟩
abbrev b_Md_credential : ByteArray := prog_10_method_5_code
def y_Md_place : MethodName := ⟨"FetchRulesModel", "place", "(II)I"⟩
abbrev b_Md_place : ByteArray := prog_10_method_6_code
def y_Md_content : MethodName := ⟨"FetchRulesModel", "content", "(IJI)Z"⟩
abbrev b_Md_content : ByteArray := prog_10_method_7_code
def y_Md_does : MethodName := ⟨"FetchRulesModel", "does", "(III)Z"⟩
abbrev b_Md_does : ByteArray := prog_10_method_8_code
def y_Md_cut : MethodName := ⟨"FetchRulesModel", "cut", "(III)Z"⟩
abbrev b_Md_cut : ByteArray := prog_10_method_9_code
def y_Md_next : MethodName := ⟨"FetchRulesModel", "next", "(II)I"⟩
abbrev b_Md_next : ByteArray := prog_10_method_10_code
def y_Md_digest : MethodName := ⟨"FetchRulesModel", "digest", "(I)I"⟩
abbrev b_Md_digest : ByteArray := prog_10_method_11_code
def y_Md_want : MethodName := ⟨"FetchRulesModel", "want", "(I)I"⟩
abbrev b_Md_want : ByteArray := prog_10_method_12_code
def y_Md_from : MethodName := ⟨"FetchRulesModel", "from", "(II)Z"⟩
abbrev b_Md_from : ByteArray := prog_10_method_13_code
def y_Md_offLine : MethodName := ⟨"FetchRulesModel", "offLine", "(Z)V"⟩
abbrev b_Md_offLine : ByteArray := prog_10_method_14_code
def y_Md_keptOf : MethodName := ⟨"FetchRulesModel", "keptOf", "(I)I"⟩
abbrev b_Md_keptOf : ByteArray := prog_10_method_15_code
def y_Md_goOn : MethodName := ⟨"FetchRulesModel", "goOn", "(II)V"⟩
abbrev b_Md_goOn : ByteArray := prog_10_method_16_code
def y_Md_tellLack : MethodName := ⟨"FetchRulesModel", "tellLack", "(I)V"⟩
abbrev b_Md_tellLack : ByteArray := prog_10_method_17_code
def y_Md_begin : MethodName := ⟨"FetchRulesModel", "begin", "(I)I"⟩
abbrev b_Md_begin : ByteArray := prog_10_method_18_code
def y_Md_keep : MethodName := ⟨"FetchRulesModel", "keep", "(I)V"⟩
abbrev b_Md_keep : ByteArray := prog_10_method_19_code
def y_Md_ask : MethodName := ⟨"FetchRulesModel", "ask", "(I)I"⟩
abbrev b_Md_ask : ByteArray := prog_10_method_20_code
def y_Md_falter : MethodName := ⟨"FetchRulesModel", "falter", "(I)V"⟩
abbrev b_Md_falter : ByteArray := prog_10_method_21_code
def y_Md_judge : MethodName := ⟨"FetchRulesModel", "judge", "(I)V"⟩
abbrev b_Md_judge : ByteArray := prog_10_method_22_code
def y_Md_turn : MethodName := ⟨"FetchRulesModel", "turn", "(I)V"⟩
abbrev b_Md_turn : ByteArray := prog_10_method_23_code
def y_Md_tick : MethodName := ⟨"FetchRulesModel", "tick", "(I)I"⟩
abbrev b_Md_tick : ByteArray := prog_10_method_24_code
def y_Md_about : MethodName := ⟨"FetchRulesModel", "about", "(II)I"⟩
abbrev b_Md_about : ByteArray := prog_10_method_25_code
def y_Md_byteOf : MethodName := ⟨"FetchRulesModel", "byteOf", "(II)I"⟩
abbrev b_Md_byteOf : ByteArray := prog_10_method_26_code
def y_Md_barred : MethodName := ⟨"FetchRulesModel", "barred", "(II)I"⟩
abbrev b_Md_barred : ByteArray := prog_10_method_27_code
def y_Md_came : MethodName := ⟨"FetchRulesModel", "came", "(I)I"⟩
abbrev b_Md_came : ByteArray := prog_10_method_28_code
def y_Md_lacks : MethodName := ⟨"FetchRulesModel", "lacks", "(I)I"⟩
abbrev b_Md_lacks : ByteArray := prog_10_method_29_code
def y_Md_sent : MethodName := ⟨"FetchRulesModel", "sent", "(I)I"⟩
abbrev b_Md_sent : ByteArray := prog_10_method_30_code
def y_Md_isSign : MethodName := ⟨"FetchRulesModel", "isSign", "(I)Z"⟩
abbrev b_Md_isSign : ByteArray := prog_10_method_31_code
def y_Md_isRight : MethodName := ⟨"FetchRulesModel", "isRight", "(II)Z"⟩
abbrev b_Md_isRight : ByteArray := prog_10_method_32_code
def y_Md_strip : MethodName := ⟨"FetchRulesModel", "strip", "(III)I"⟩
abbrev b_Md_strip : ByteArray := prog_10_method_33_code
def y_Md_isSamePath : MethodName := ⟨"FetchRulesModel", "isSamePath", "(IIII)Z"⟩
abbrev b_Md_isSamePath : ByteArray := prog_10_method_34_code
def y_Md_putFile : MethodName := ⟨"FetchRulesModel", "putFile", "(IIIII)V"⟩
abbrev b_Md_putFile : ByteArray := prog_10_method_35_code
def y_Md_read : MethodName := ⟨"FetchRulesModel", "read", "(IIZ)I"⟩
abbrev b_Md_read : ByteArray := prog_10_method_36_code
def y_Md_unpack : MethodName := ⟨"FetchRulesModel", "unpack", "(II)I"⟩
abbrev b_Md_unpack : ByteArray := prog_10_method_37_code
def y_Md_file : MethodName := ⟨"FetchRulesModel", "file", "(II)I"⟩
abbrev b_Md_file : ByteArray := prog_10_method_38_code
def y_Archive_findIll : MethodName := ⟨"FetchRules$Archive", "findIll", "(LFetchRules$Row;)I"⟩
abbrev b_Archive_findIll : ByteArray := prog_2_method_2_code
def y_Archive_findIllOfEntry : MethodName := ⟨"FetchRules$Archive", "findIllOfEntry", "(LFetchRules$Row;I)I"⟩
abbrev b_Archive_findIllOfEntry : ByteArray := prog_2_method_3_code
def y_Archive_pathEnd : MethodName := ⟨"FetchRules$Archive", "pathEnd", "(LFetchRules$Row;I)I"⟩
abbrev b_Archive_pathEnd : ByteArray := prog_2_method_4_code
def y_Archive_entryEnd : MethodName := ⟨"FetchRules$Archive", "entryEnd", "(LFetchRules$Row;I)I"⟩
abbrev b_Archive_entryEnd : ByteArray := prog_2_method_5_code
def y_Archive_isRightPath : MethodName := ⟨"FetchRules$Archive", "isRightPath", "(LFetchRules$Row;II)Z"⟩
abbrev b_Archive_isRightPath : ByteArray := prog_2_method_6_code
def y_Archive_isPathCharacter : MethodName := ⟨"FetchRules$Archive", "isPathCharacter", "(I)Z"⟩
abbrev b_Archive_isPathCharacter : ByteArray := prog_2_method_7_code
def y_Archive_isRightSegment : MethodName := ⟨"FetchRules$Archive", "isRightSegment", "(LFetchRules$Row;II)Z"⟩
abbrev b_Archive_isRightSegment : ByteArray := prog_2_method_8_code
def y_Archive_strippedStart : MethodName := ⟨"FetchRules$Archive", "strippedStart", "(LFetchRules$Row;III)I"⟩
abbrev b_Archive_strippedStart : ByteArray := prog_2_method_9_code
def y_Files_init : MethodName := ⟨"FetchRules$Files", "<init>", "()V"⟩
abbrev b_Files_init : ByteArray := prog_3_method_1_code
def y_Files_has : MethodName := ⟨"FetchRules$Files", "has", "(I)Z"⟩
abbrev b_Files_has : ByteArray := prog_3_method_2_code
def y_Files_fill : MethodName := ⟨"FetchRules$Files", "fill", "(LFetchRules$Row;I)V"⟩
abbrev b_Files_fill : ByteArray := prog_3_method_3_code
def y_Files_put : MethodName := ⟨"FetchRules$Files", "put", "(LFetchRules$Row;II)V"⟩
abbrev b_Files_put : ByteArray := prog_3_method_4_code
def y_Files_findPath : MethodName := ⟨"FetchRules$Files", "findPath", "(LFetchRules$Row;II)I"⟩
abbrev b_Files_findPath : ByteArray := prog_3_method_5_code
def y_Place_init : MethodName := ⟨"FetchRules$Place", "<init>", "()V"⟩
abbrev b_Place_init : ByteArray := prog_4_method_1_code
def y_Place_leadsOn : MethodName := ⟨"FetchRules$Place", "leadsOn", "()Z"⟩
abbrev b_Place_leadsOn : ByteArray := prog_4_method_2_code
def y_Place_gives : MethodName := ⟨"FetchRules$Place", "gives", "(Z)Z"⟩
abbrev b_Place_gives : ByteArray := prog_4_method_3_code
def y_Place_giveTo : MethodName := ⟨"FetchRules$Place", "giveTo", "(LFetchRules$Row;)Z"⟩
abbrev b_Place_giveTo : ByteArray := prog_4_method_4_code
def y_Place_givenByte : MethodName := ⟨"FetchRules$Place", "givenByte", "(I)I"⟩
abbrev b_Place_givenByte : ByteArray := prog_4_method_5_code
def y_Row_init : MethodName := ⟨"FetchRules$Row", "<init>", "()V"⟩
abbrev b_Row_init : ByteArray := prog_5_method_1_code
def y_Row_at : MethodName := ⟨"FetchRules$Row", "at", "(I)I"⟩
abbrev b_Row_at : ByteArray := prog_5_method_2_code
def y_Row_append : MethodName := ⟨"FetchRules$Row", "append", "(I)V"⟩
abbrev b_Row_append : ByteArray := prog_5_method_3_code
def y_Row_copyFrom : MethodName := ⟨"FetchRules$Row", "copyFrom", "(LFetchRules$Row;)V"⟩
abbrev b_Row_copyFrom : ByteArray := prog_5_method_4_code
def y_Row_computeDigest : MethodName := ⟨"FetchRules$Row", "computeDigest", "()I"⟩
abbrev b_Row_computeDigest : ByteArray := prog_5_method_5_code
def y_Row_hasSame : MethodName := ⟨"FetchRules$Row", "hasSame", "(III)Z"⟩
abbrev b_Row_hasSame : ByteArray := prog_5_method_6_code
def y_Store_init : MethodName := ⟨"FetchRules$Store", "<init>", "()V"⟩
abbrev b_Store_init : ByteArray := prog_6_method_1_code
def y_Store_find : MethodName := ⟨"FetchRules$Store", "find", "(I)I"⟩
abbrev b_Store_find : ByteArray := prog_6_method_2_code
def y_Store_keep : MethodName := ⟨"FetchRules$Store", "keep", "(ILFetchRules$Row;)V"⟩
abbrev b_Store_keep : ByteArray := prog_6_method_3_code
def y_Tellings_init : MethodName := ⟨"FetchRules$Tellings", "<init>", "()V"⟩
abbrev b_Tellings_init : ByteArray := prog_7_method_1_code
def y_Tellings_has : MethodName := ⟨"FetchRules$Tellings", "has", "(I)Z"⟩
abbrev b_Tellings_has : ByteArray := prog_7_method_2_code
def y_Tellings_tell : MethodName := ⟨"FetchRules$Tellings", "tell", "(III)V"⟩
abbrev b_Tellings_tell : ByteArray := prog_7_method_3_code
def y_Want_init : MethodName := ⟨"FetchRules$Want", "<init>", "()V"⟩
abbrev b_Want_init : ByteArray := prog_8_method_1_code
def y_Want_isBusy : MethodName := ⟨"FetchRules$Want", "isBusy", "()Z"⟩
abbrev b_Want_isBusy : ByteArray := prog_8_method_2_code
def y_Want_currentPlace : MethodName := ⟨"FetchRules$Want", "currentPlace", "()I"⟩
abbrev b_Want_currentPlace : ByteArray := prog_8_method_3_code
def y_Want_addPlace : MethodName := ⟨"FetchRules$Want", "addPlace", "(I)Z"⟩
abbrev b_Want_addPlace : ByteArray := prog_8_method_4_code
def y_Want_startAt : MethodName := ⟨"FetchRules$Want", "startAt", "(I)V"⟩
abbrev b_Want_startAt : ByteArray := prog_8_method_5_code
end
section
theorem k_0 : Cond.selects "FetchRules" y_FR_isPlace y_FR_isPlace ∈ fr_W := fr_m 0 (by decide +kernel) (by decide +kernel)
theorem k_1 : Cond.selects "FetchRules" y_FR_isWant y_FR_isWant ∈ fr_W := fr_m 1 (by decide +kernel) (by decide +kernel)
theorem k_2 : Cond.selects "FetchRules" y_FR_noteLacking y_FR_noteLacking ∈ fr_W := fr_m 2 (by decide +kernel) (by decide +kernel)
theorem k_3 : Cond.selects "FetchRules" y_FR_fetchFrom y_FR_fetchFrom ∈ fr_W := fr_m 3 (by decide +kernel) (by decide +kernel)
theorem k_4 : Cond.selects "FetchRules" y_FR_moveClock y_FR_moveClock ∈ fr_W := fr_m 4 (by decide +kernel) (by decide +kernel)
theorem k_5 : Cond.selects "FetchRules" y_FR_takeTurn y_FR_takeTurn ∈ fr_W := fr_m 5 (by decide +kernel) (by decide +kernel)
theorem k_6 : Cond.selects "FetchRules" y_FR_ask y_FR_ask ∈ fr_W := fr_m 6 (by decide +kernel) (by decide +kernel)
theorem k_7 : Cond.selects "FetchRules" y_FR_countSent y_FR_countSent ∈ fr_W := fr_m 7 (by decide +kernel) (by decide +kernel)
theorem k_8 : Cond.selects "FetchRules" y_FR_giveUp y_FR_giveUp ∈ fr_W := fr_m 8 (by decide +kernel) (by decide +kernel)
theorem k_9 : Cond.selects "FetchRules$Place" y_Place_givenByte y_Place_givenByte ∈ fr_W := fr_m 9 (by decide +kernel) (by decide +kernel)
theorem k_10 : Cond.selects "FetchRules" y_FR_checkDigest y_FR_checkDigest ∈ fr_W := fr_m 10 (by decide +kernel) (by decide +kernel)
theorem k_11 : Cond.selects "FetchRules" y_FR_falter y_FR_falter ∈ fr_W := fr_m 11 (by decide +kernel) (by decide +kernel)
theorem k_12 : Cond.selects "FetchRules" y_FR_countBusy y_FR_countBusy ∈ fr_W := fr_m 12 (by decide +kernel) (by decide +kernel)
theorem k_13 : Cond.selects "FetchRules$Files" y_Files_put y_Files_put ∈ fr_W := fr_m 13 (by decide +kernel) (by decide +kernel)
theorem k_14 : Cond.selects "FetchRules$Files" y_Files_findPath y_Files_findPath ∈ fr_W := fr_m 14 (by decide +kernel) (by decide +kernel)
theorem k_15 : Cond.selects "FetchRulesModel" y_Md_isPlace y_Md_isPlace ∈ fr_W := fr_m 15 (by decide +kernel) (by decide +kernel)
theorem k_16 : Cond.selects "FetchRulesModel" y_Md_isWant y_Md_isWant ∈ fr_W := fr_m 16 (by decide +kernel) (by decide +kernel)
theorem k_17 : Cond.selects "FetchRulesModel" y_Md_keptOf y_Md_keptOf ∈ fr_W := fr_m 17 (by decide +kernel) (by decide +kernel)
theorem k_18 : Cond.selects "FetchRulesModel" y_Md_tellLack y_Md_tellLack ∈ fr_W := fr_m 18 (by decide +kernel) (by decide +kernel)
theorem k_19 : Cond.selects "FetchRulesModel" y_Md_goOn y_Md_goOn ∈ fr_W := fr_m 19 (by decide +kernel) (by decide +kernel)
theorem k_20 : Cond.selects "FetchRulesModel" y_Md_turn y_Md_turn ∈ fr_W := fr_m 20 (by decide +kernel) (by decide +kernel)
theorem k_21 : Cond.selects "FetchRulesModel" y_Md_ask y_Md_ask ∈ fr_W := fr_m 21 (by decide +kernel) (by decide +kernel)
theorem k_22 : Cond.selects "FetchRulesModel" y_Md_judge y_Md_judge ∈ fr_W := fr_m 22 (by decide +kernel) (by decide +kernel)
theorem k_23 : Cond.selects "FetchRulesModel" y_Md_keep y_Md_keep ∈ fr_W := fr_m 23 (by decide +kernel) (by decide +kernel)
theorem k_24 : Cond.selects "FetchRulesModel" y_Md_falter y_Md_falter ∈ fr_W := fr_m 24 (by decide +kernel) (by decide +kernel)
theorem k_25 : Cond.selects "FetchRulesModel" y_Md_read y_Md_read ∈ fr_W := fr_m 25 (by decide +kernel) (by decide +kernel)
theorem k_26 : Cond.selects "FetchRulesModel" y_Md_isRight y_Md_isRight ∈ fr_W := fr_m 26 (by decide +kernel) (by decide +kernel)
theorem k_27 : Cond.selects "FetchRulesModel" y_Md_strip y_Md_strip ∈ fr_W := fr_m 27 (by decide +kernel) (by decide +kernel)
theorem k_28 : Cond.selects "FetchRulesModel" y_Md_putFile y_Md_putFile ∈ fr_W := fr_m 28 (by decide +kernel) (by decide +kernel)
theorem k_29 : Cond.selects "FetchRulesModel" y_Md_isSamePath y_Md_isSamePath ∈ fr_W := fr_m 29 (by decide +kernel) (by decide +kernel)
theorem k_31 : Cond.initialized "FetchRules" ∈ fr_W := fr_m 31 (by decide +kernel) (by decide +kernel)
theorem k_32 : Cond.initialized "FetchRules$Store" ∈ fr_W := fr_m 32 (by decide +kernel) (by decide +kernel)
theorem k_33 : Cond.initialized "FetchRules$Row" ∈ fr_W := fr_m 33 (by decide +kernel) (by decide +kernel)
theorem k_34 : Cond.initialized "FetchRules$Tellings" ∈ fr_W := fr_m 34 (by decide +kernel) (by decide +kernel)
theorem k_35 : Cond.initialized "FetchRules$Files" ∈ fr_W := fr_m 35 (by decide +kernel) (by decide +kernel)
theorem k_36 : Cond.initialized "java/lang/Math" ∈ fr_W := fr_m 36 (by decide +kernel) (by decide +kernel)
theorem k_37 : Cond.initialized "FetchRules$Place" ∈ fr_W := fr_m 37 (by decide +kernel) (by decide +kernel)
theorem k_38 : Cond.initialized "FetchRules$Want" ∈ fr_W := fr_m 38 (by decide +kernel) (by decide +kernel)
theorem k_39 : Cond.initialized "FetchRulesModel" ∈ fr_W := fr_m 39 (by decide +kernel) (by decide +kernel)
theorem k_40 : Cond.initialized "java/lang/System" ∈ fr_W := fr_m 40 (by decide +kernel) (by decide +kernel)
theorem k_41 : Cond.initialized "FetchRules$Archive" ∈ fr_W := fr_m 41 (by decide +kernel) (by decide +kernel)
theorem k_67 : Cond.fieldLink "FetchRules$Row" 9 "FetchRules$Row" "values" "[I" ∈ fr_W := fr_m 67 (by decide +kernel) (by decide +kernel)
theorem k_68 : Cond.fieldLink "FetchRules$Row" 15 "FetchRules$Row" "length" "I" ∈ fr_W := fr_m 68 (by decide +kernel) (by decide +kernel)
theorem k_69 : Cond.fieldLink "FetchRules$Archive" 9 "FetchRules$Row" "length" "I" ∈ fr_W := fr_m 69 (by decide +kernel) (by decide +kernel)
theorem k_70 : Cond.fieldLink "FetchRules$Files" 28 "FetchRules$Row" "length" "I" ∈ fr_W := fr_m 70 (by decide +kernel) (by decide +kernel)
theorem k_71 : Cond.fieldLink "FetchRules" 101 "FetchRules$Row" "length" "I" ∈ fr_W := fr_m 71 (by decide +kernel) (by decide +kernel)
theorem k_72 : Cond.fieldLink "FetchRules$Place" 53 "FetchRules$Row" "length" "I" ∈ fr_W := fr_m 72 (by decide +kernel) (by decide +kernel)
theorem k_73 : Cond.fieldLink "FetchRules$Want" 44 "FetchRules$Row" "length" "I" ∈ fr_W := fr_m 73 (by decide +kernel) (by decide +kernel)
theorem k_81 : Cond.fieldLink "FetchRules$Store" 9 "FetchRules$Store" "digests" "[I" ∈ fr_W := fr_m 81 (by decide +kernel) (by decide +kernel)
theorem k_82 : Cond.fieldLink "FetchRules$Store" 17 "FetchRules$Store" "rows" "[LFetchRules$Row;" ∈ fr_W := fr_m 82 (by decide +kernel) (by decide +kernel)
theorem k_83 : Cond.fieldLink "FetchRules" 153 "FetchRules$Store" "rows" "[LFetchRules$Row;" ∈ fr_W := fr_m 83 (by decide +kernel) (by decide +kernel)
theorem k_84 : Cond.fieldLink "FetchRules$Store" 21 "FetchRules$Store" "count" "I" ∈ fr_W := fr_m 84 (by decide +kernel) (by decide +kernel)
theorem k_98 : Cond.fieldLink "FetchRules$Tellings" 9 "FetchRules$Tellings" "wantNumbers" "[I" ∈ fr_W := fr_m 98 (by decide +kernel) (by decide +kernel)
theorem k_99 : Cond.fieldLink "FetchRules" 189 "FetchRules$Tellings" "wantNumbers" "[I" ∈ fr_W := fr_m 99 (by decide +kernel) (by decide +kernel)
theorem k_100 : Cond.fieldLink "FetchRules$Tellings" 15 "FetchRules$Tellings" "placeNumbers" "[I" ∈ fr_W := fr_m 100 (by decide +kernel) (by decide +kernel)
theorem k_101 : Cond.fieldLink "FetchRules" 192 "FetchRules$Tellings" "placeNumbers" "[I" ∈ fr_W := fr_m 101 (by decide +kernel) (by decide +kernel)
theorem k_102 : Cond.fieldLink "FetchRules$Tellings" 18 "FetchRules$Tellings" "digests" "[I" ∈ fr_W := fr_m 102 (by decide +kernel) (by decide +kernel)
theorem k_103 : Cond.fieldLink "FetchRules" 195 "FetchRules$Tellings" "digests" "[I" ∈ fr_W := fr_m 103 (by decide +kernel) (by decide +kernel)
theorem k_104 : Cond.fieldLink "FetchRules$Tellings" 21 "FetchRules$Tellings" "count" "I" ∈ fr_W := fr_m 104 (by decide +kernel) (by decide +kernel)
theorem k_120 : Cond.fieldLink "FetchRules$Files" 9 "FetchRules$Files" "bytesStarts" "[I" ∈ fr_W := fr_m 120 (by decide +kernel) (by decide +kernel)
theorem k_121 : Cond.fieldLink "FetchRules" 212 "FetchRules$Files" "bytesStarts" "[I" ∈ fr_W := fr_m 121 (by decide +kernel) (by decide +kernel)
theorem k_122 : Cond.fieldLink "FetchRules$Files" 15 "FetchRules$Files" "bytesLengths" "[I" ∈ fr_W := fr_m 122 (by decide +kernel) (by decide +kernel)
theorem k_123 : Cond.fieldLink "FetchRules" 215 "FetchRules$Files" "bytesLengths" "[I" ∈ fr_W := fr_m 123 (by decide +kernel) (by decide +kernel)
theorem k_124 : Cond.fieldLink "FetchRules$Files" 18 "FetchRules$Files" "pathStarts" "[I" ∈ fr_W := fr_m 124 (by decide +kernel) (by decide +kernel)
theorem k_125 : Cond.fieldLink "FetchRules" 218 "FetchRules$Files" "pathStarts" "[I" ∈ fr_W := fr_m 125 (by decide +kernel) (by decide +kernel)
theorem k_126 : Cond.fieldLink "FetchRules$Files" 21 "FetchRules$Files" "pathLengths" "[I" ∈ fr_W := fr_m 126 (by decide +kernel) (by decide +kernel)
theorem k_127 : Cond.fieldLink "FetchRules" 221 "FetchRules$Files" "pathLengths" "[I" ∈ fr_W := fr_m 127 (by decide +kernel) (by decide +kernel)
theorem k_128 : Cond.fieldLink "FetchRules$Files" 24 "FetchRules$Files" "count" "I" ∈ fr_W := fr_m 128 (by decide +kernel) (by decide +kernel)
theorem k_129 : Cond.fieldLink "FetchRules" 208 "FetchRules$Files" "count" "I" ∈ fr_W := fr_m 129 (by decide +kernel) (by decide +kernel)
theorem k_142 : Cond.static Lib.Math.min.name ∈ fr_W := fr_m 142 (by decide +kernel) (by decide +kernel)
theorem k_143 : Cond.code Lib.Math.min.name Lib.Math.min.code 2 (some .int) ∈ fr_W := fr_m 143 (by decide +kernel) (by decide +kernel)
theorem k_154 : Cond.fieldLink "FetchRules$Place" 12 "FetchRules$Place" "bytes" "LFetchRules$Row;" ∈ fr_W := fr_m 154 (by decide +kernel) (by decide +kernel)
theorem k_155 : Cond.fieldLink "FetchRules" 97 "FetchRules$Place" "bytes" "LFetchRules$Row;" ∈ fr_W := fr_m 155 (by decide +kernel) (by decide +kernel)
theorem k_157 : Cond.fieldLink "FetchRules" 88 "FetchRules$Place" "host" "I" ∈ fr_W := fr_m 157 (by decide +kernel) (by decide +kernel)
theorem k_158 : Cond.fieldLink "FetchRules$Place" 22 "FetchRules$Place" "rate" "I" ∈ fr_W := fr_m 158 (by decide +kernel) (by decide +kernel)
theorem k_159 : Cond.fieldLink "FetchRules" 91 "FetchRules$Place" "rate" "I" ∈ fr_W := fr_m 159 (by decide +kernel) (by decide +kernel)
theorem k_160 : Cond.fieldLink "FetchRules$Place" 25 "FetchRules$Place" "leadsTo" "I" ∈ fr_W := fr_m 160 (by decide +kernel) (by decide +kernel)
theorem k_161 : Cond.fieldLink "FetchRules" 113 "FetchRules$Place" "leadsTo" "I" ∈ fr_W := fr_m 161 (by decide +kernel) (by decide +kernel)
theorem k_162 : Cond.fieldLink "FetchRules$Place" 28 "FetchRules$Place" "cutsLeft" "I" ∈ fr_W := fr_m 162 (by decide +kernel) (by decide +kernel)
theorem k_163 : Cond.fieldLink "FetchRules" 122 "FetchRules$Place" "cutsLeft" "I" ∈ fr_W := fr_m 163 (by decide +kernel) (by decide +kernel)
theorem k_164 : Cond.fieldLink "FetchRules$Place" 31 "FetchRules$Place" "cutBytes" "I" ∈ fr_W := fr_m 164 (by decide +kernel) (by decide +kernel)
theorem k_165 : Cond.fieldLink "FetchRules" 125 "FetchRules$Place" "cutBytes" "I" ∈ fr_W := fr_m 165 (by decide +kernel) (by decide +kernel)
theorem k_166 : Cond.fieldLink "FetchRules$Place" 34 "FetchRules$Place" "isGone" "Z" ∈ fr_W := fr_m 166 (by decide +kernel) (by decide +kernel)
theorem k_167 : Cond.fieldLink "FetchRules" 110 "FetchRules$Place" "isGone" "Z" ∈ fr_W := fr_m 167 (by decide +kernel) (by decide +kernel)
theorem k_168 : Cond.fieldLink "FetchRules$Place" 38 "FetchRules$Place" "wantsCredential" "Z" ∈ fr_W := fr_m 168 (by decide +kernel) (by decide +kernel)
theorem k_169 : Cond.fieldLink "FetchRules" 116 "FetchRules$Place" "wantsCredential" "Z" ∈ fr_W := fr_m 169 (by decide +kernel) (by decide +kernel)
theorem k_170 : Cond.fieldLink "FetchRules$Place" 41 "FetchRules$Place" "lies" "Z" ∈ fr_W := fr_m 170 (by decide +kernel) (by decide +kernel)
theorem k_171 : Cond.fieldLink "FetchRules" 119 "FetchRules$Place" "lies" "Z" ∈ fr_W := fr_m 171 (by decide +kernel) (by decide +kernel)
theorem k_173 : Cond.fieldLink "FetchRules" 259 "FetchRules$Place" "isBarred" "Z" ∈ fr_W := fr_m 173 (by decide +kernel) (by decide +kernel)
theorem k_202 : Cond.fieldLink "FetchRules$Want" 12 "FetchRules$Want" "bytes" "LFetchRules$Row;" ∈ fr_W := fr_m 202 (by decide +kernel) (by decide +kernel)
theorem k_203 : Cond.fieldLink "FetchRules" 152 "FetchRules$Want" "bytes" "LFetchRules$Row;" ∈ fr_W := fr_m 203 (by decide +kernel) (by decide +kernel)
theorem k_204 : Cond.fieldLink "FetchRules$Want" 18 "FetchRules$Want" "placeNumbers" "[I" ∈ fr_W := fr_m 204 (by decide +kernel) (by decide +kernel)
theorem k_205 : Cond.fieldLink "FetchRules" 273 "FetchRules$Want" "placeNumbers" "[I" ∈ fr_W := fr_m 205 (by decide +kernel) (by decide +kernel)
theorem k_206 : Cond.fieldLink "FetchRules$Want" 22 "FetchRules$Want" "placeCount" "I" ∈ fr_W := fr_m 206 (by decide +kernel) (by decide +kernel)
theorem k_207 : Cond.fieldLink "FetchRules" 272 "FetchRules$Want" "placeCount" "I" ∈ fr_W := fr_m 207 (by decide +kernel) (by decide +kernel)
theorem k_209 : Cond.fieldLink "FetchRules" 132 "FetchRules$Want" "wantedDigest" "I" ∈ fr_W := fr_m 209 (by decide +kernel) (by decide +kernel)
theorem k_210 : Cond.fieldLink "FetchRules$Want" 29 "FetchRules$Want" "state" "I" ∈ fr_W := fr_m 210 (by decide +kernel) (by decide +kernel)
theorem k_211 : Cond.fieldLink "FetchRules" 138 "FetchRules$Want" "state" "I" ∈ fr_W := fr_m 211 (by decide +kernel) (by decide +kernel)
theorem k_212 : Cond.fieldLink "FetchRules$Want" 32 "FetchRules$Want" "current" "I" ∈ fr_W := fr_m 212 (by decide +kernel) (by decide +kernel)
theorem k_213 : Cond.fieldLink "FetchRules" 269 "FetchRules$Want" "current" "I" ∈ fr_W := fr_m 213 (by decide +kernel) (by decide +kernel)
theorem k_214 : Cond.fieldLink "FetchRules$Want" 35 "FetchRules$Want" "falters" "I" ∈ fr_W := fr_m 214 (by decide +kernel) (by decide +kernel)
theorem k_215 : Cond.fieldLink "FetchRules" 266 "FetchRules$Want" "falters" "I" ∈ fr_W := fr_m 215 (by decide +kernel) (by decide +kernel)
theorem k_217 : Cond.fieldLink "FetchRules" 177 "FetchRules$Want" "waitsTill" "I" ∈ fr_W := fr_m 217 (by decide +kernel) (by decide +kernel)
theorem k_219 : Cond.fieldLink "FetchRules" 180 "FetchRules$Want" "turns" "I" ∈ fr_W := fr_m 219 (by decide +kernel) (by decide +kernel)
theorem k_239 : Cond.fieldLink "FetchRules" 79 "FetchRules" "retries" "I" ∈ fr_W := fr_m 239 (by decide +kernel) (by decide +kernel)
theorem k_240 : Cond.fieldLink "FetchRules" 9 "FetchRules" "credentials" "[Z" ∈ fr_W := fr_m 240 (by decide +kernel) (by decide +kernel)
theorem k_241 : Cond.fieldLink "FetchRules" 13 "FetchRules" "sentCounts" "[I" ∈ fr_W := fr_m 241 (by decide +kernel) (by decide +kernel)
theorem k_242 : Cond.fieldLink "FetchRules" 19 "FetchRules" "places" "[LFetchRules$Place;" ∈ fr_W := fr_m 242 (by decide +kernel) (by decide +kernel)
theorem k_243 : Cond.fieldLink "FetchRules" 23 "FetchRules" "placeCount" "I" ∈ fr_W := fr_m 243 (by decide +kernel) (by decide +kernel)
theorem k_244 : Cond.fieldLink "FetchRules" 29 "FetchRules" "wants" "[LFetchRules$Want;" ∈ fr_W := fr_m 244 (by decide +kernel) (by decide +kernel)
theorem k_245 : Cond.fieldLink "FetchRules" 33 "FetchRules" "wantCount" "I" ∈ fr_W := fr_m 245 (by decide +kernel) (by decide +kernel)
theorem k_246 : Cond.fieldLink "FetchRules" 39 "FetchRules" "store" "LFetchRules$Store;" ∈ fr_W := fr_m 246 (by decide +kernel) (by decide +kernel)
theorem k_247 : Cond.fieldLink "FetchRules" 46 "FetchRules" "tellings" "LFetchRules$Tellings;" ∈ fr_W := fr_m 247 (by decide +kernel) (by decide +kernel)
theorem k_248 : Cond.fieldLink "FetchRules" 50 "FetchRules" "lacking" "[I" ∈ fr_W := fr_m 248 (by decide +kernel) (by decide +kernel)
theorem k_249 : Cond.fieldLink "FetchRules" 53 "FetchRules" "lackingCount" "I" ∈ fr_W := fr_m 249 (by decide +kernel) (by decide +kernel)
theorem k_250 : Cond.fieldLink "FetchRules" 59 "FetchRules" "files" "LFetchRules$Files;" ∈ fr_W := fr_m 250 (by decide +kernel) (by decide +kernel)
theorem k_251 : Cond.fieldLink "FetchRules" 63 "FetchRules" "isOffLine" "Z" ∈ fr_W := fr_m 251 (by decide +kernel) (by decide +kernel)
theorem k_252 : Cond.fieldLink "FetchRules" 67 "FetchRules" "clock" "I" ∈ fr_W := fr_m 252 (by decide +kernel) (by decide +kernel)
theorem k_286 : Cond.methodLink "FetchRules" 84 y_FR_isHost ∈ fr_W := fr_m 286 (by decide +kernel) (by decide +kernel)
theorem k_287 : Cond.static y_FR_isHost ∈ fr_W := fr_m 287 (by decide +kernel) (by decide +kernel)
theorem k_288 : Cond.code y_FR_isHost b_FR_isHost 1 (some .boolean) ∈ fr_W := fr_m 288 (by decide +kernel) (by decide +kernel)
theorem k_297 : Cond.methodLink "FetchRules" 94 y_FR_isPlace ∈ fr_W := fr_m 297 (by decide +kernel) (by decide +kernel)
theorem k_299 : Cond.instanceMethod y_FR_isPlace ∈ fr_W := fr_m 299 (by decide +kernel) (by decide +kernel)
theorem k_300 : Cond.code y_FR_isPlace b_FR_isPlace 2 (some .boolean) ∈ fr_W := fr_m 300 (by decide +kernel) (by decide +kernel)
theorem k_301 : Cond.methodLink "FetchRules" 106 y_Row_append ∈ fr_W := fr_m 301 (by decide +kernel) (by decide +kernel)
theorem k_302 : Cond.instanceMethod y_Row_append ∈ fr_W := fr_m 302 (by decide +kernel) (by decide +kernel)
theorem k_303 : Cond.selects "FetchRules$Row" y_Row_append y_Row_append ∈ fr_W := fr_m 303 (by decide +kernel) (by decide +kernel)
theorem k_304 : Cond.code y_Row_append b_Row_append 2 none ∈ fr_W := fr_m 304 (by decide +kernel) (by decide +kernel)
theorem k_317 : Cond.methodLink "FetchRules" 128 y_Row_computeDigest ∈ fr_W := fr_m 317 (by decide +kernel) (by decide +kernel)
theorem k_318 : Cond.instanceMethod y_Row_computeDigest ∈ fr_W := fr_m 318 (by decide +kernel) (by decide +kernel)
theorem k_319 : Cond.selects "FetchRules$Row" y_Row_computeDigest y_Row_computeDigest ∈ fr_W := fr_m 319 (by decide +kernel) (by decide +kernel)
theorem k_320 : Cond.code y_Row_computeDigest b_Row_computeDigest 4 (some .int) ∈ fr_W := fr_m 320 (by decide +kernel) (by decide +kernel)
theorem k_321 : Cond.constant "FetchRules$Row" 25 (-2048144777) ∈ fr_W := fr_m 321 (by decide +kernel) (by decide +kernel)
theorem k_330 : Cond.methodLink "FetchRules" 135 y_FR_isWant ∈ fr_W := fr_m 330 (by decide +kernel) (by decide +kernel)
theorem k_332 : Cond.instanceMethod y_FR_isWant ∈ fr_W := fr_m 332 (by decide +kernel) (by decide +kernel)
theorem k_333 : Cond.code y_FR_isWant b_FR_isWant 2 (some .boolean) ∈ fr_W := fr_m 333 (by decide +kernel) (by decide +kernel)
theorem k_334 : Cond.methodLink "FetchRules" 141 y_Want_addPlace ∈ fr_W := fr_m 334 (by decide +kernel) (by decide +kernel)
theorem k_335 : Cond.instanceMethod y_Want_addPlace ∈ fr_W := fr_m 335 (by decide +kernel) (by decide +kernel)
theorem k_336 : Cond.selects "FetchRules$Want" y_Want_addPlace y_Want_addPlace ∈ fr_W := fr_m 336 (by decide +kernel) (by decide +kernel)
theorem k_337 : Cond.code y_Want_addPlace b_Want_addPlace 3 (some .boolean) ∈ fr_W := fr_m 337 (by decide +kernel) (by decide +kernel)
theorem k_346 : Cond.methodLink "FetchRules" 144 y_Want_isBusy ∈ fr_W := fr_m 346 (by decide +kernel) (by decide +kernel)
theorem k_347 : Cond.instanceMethod y_Want_isBusy ∈ fr_W := fr_m 347 (by decide +kernel) (by decide +kernel)
theorem k_348 : Cond.selects "FetchRules$Want" y_Want_isBusy y_Want_isBusy ∈ fr_W := fr_m 348 (by decide +kernel) (by decide +kernel)
theorem k_349 : Cond.code y_Want_isBusy b_Want_isBusy 1 (some .boolean) ∈ fr_W := fr_m 349 (by decide +kernel) (by decide +kernel)
theorem k_350 : Cond.methodLink "FetchRules" 148 y_Store_find ∈ fr_W := fr_m 350 (by decide +kernel) (by decide +kernel)
theorem k_351 : Cond.instanceMethod y_Store_find ∈ fr_W := fr_m 351 (by decide +kernel) (by decide +kernel)
theorem k_352 : Cond.selects "FetchRules$Store" y_Store_find y_Store_find ∈ fr_W := fr_m 352 (by decide +kernel) (by decide +kernel)
theorem k_353 : Cond.code y_Store_find b_Store_find 3 (some .int) ∈ fr_W := fr_m 353 (by decide +kernel) (by decide +kernel)
theorem k_354 : Cond.methodLink "FetchRules" 157 y_Row_copyFrom ∈ fr_W := fr_m 354 (by decide +kernel) (by decide +kernel)
theorem k_355 : Cond.instanceMethod y_Row_copyFrom ∈ fr_W := fr_m 355 (by decide +kernel) (by decide +kernel)
theorem k_356 : Cond.selects "FetchRules$Row" y_Row_copyFrom y_Row_copyFrom ∈ fr_W := fr_m 356 (by decide +kernel) (by decide +kernel)
theorem k_357 : Cond.code y_Row_copyFrom b_Row_copyFrom 2 none ∈ fr_W := fr_m 357 (by decide +kernel) (by decide +kernel)
theorem k_358 : Cond.methodLink "FetchRules$Row" 19 arraycopyName ∈ fr_W := fr_m 358 (by decide +kernel) (by decide +kernel)
theorem k_359 : Cond.static arraycopyName ∈ fr_W := fr_m 359 (by decide +kernel) (by decide +kernel)
theorem k_360 : Cond.native arraycopyName ∈ fr_W := fr_m 360 (by decide +kernel) (by decide +kernel)
theorem k_361 : Cond.methodLink "FetchRules" 161 y_FR_noteLacking ∈ fr_W := fr_m 361 (by decide +kernel) (by decide +kernel)
theorem k_363 : Cond.instanceMethod y_FR_noteLacking ∈ fr_W := fr_m 363 (by decide +kernel) (by decide +kernel)
theorem k_364 : Cond.code y_FR_noteLacking b_FR_noteLacking 3 none ∈ fr_W := fr_m 364 (by decide +kernel) (by decide +kernel)
theorem k_365 : Cond.methodLink "FetchRules" 164 y_FR_fetchFrom ∈ fr_W := fr_m 365 (by decide +kernel) (by decide +kernel)
theorem k_367 : Cond.instanceMethod y_FR_fetchFrom ∈ fr_W := fr_m 367 (by decide +kernel) (by decide +kernel)
theorem k_368 : Cond.code y_FR_fetchFrom b_FR_fetchFrom 4 none ∈ fr_W := fr_m 368 (by decide +kernel) (by decide +kernel)
theorem k_369 : Cond.methodLink "FetchRules" 274 y_Want_startAt ∈ fr_W := fr_m 369 (by decide +kernel) (by decide +kernel)
theorem k_370 : Cond.instanceMethod y_Want_startAt ∈ fr_W := fr_m 370 (by decide +kernel) (by decide +kernel)
theorem k_371 : Cond.selects "FetchRules$Want" y_Want_startAt y_Want_startAt ∈ fr_W := fr_m 371 (by decide +kernel) (by decide +kernel)
theorem k_372 : Cond.code y_Want_startAt b_Want_startAt 2 none ∈ fr_W := fr_m 372 (by decide +kernel) (by decide +kernel)
theorem k_377 : Cond.methodLink "FetchRules" 168 y_FR_moveClock ∈ fr_W := fr_m 377 (by decide +kernel) (by decide +kernel)
theorem k_379 : Cond.instanceMethod y_FR_moveClock ∈ fr_W := fr_m 379 (by decide +kernel) (by decide +kernel)
theorem k_380 : Cond.code y_FR_moveClock b_FR_moveClock 3 none ∈ fr_W := fr_m 380 (by decide +kernel) (by decide +kernel)
theorem k_381 : Cond.methodLink "FetchRules" 224 y_FR_takeTurn ∈ fr_W := fr_m 381 (by decide +kernel) (by decide +kernel)
theorem k_383 : Cond.instanceMethod y_FR_takeTurn ∈ fr_W := fr_m 383 (by decide +kernel) (by decide +kernel)
theorem k_384 : Cond.code y_FR_takeTurn b_FR_takeTurn 6 none ∈ fr_W := fr_m 384 (by decide +kernel) (by decide +kernel)
theorem k_385 : Cond.methodLink "FetchRules" 174 y_Want_currentPlace ∈ fr_W := fr_m 385 (by decide +kernel) (by decide +kernel)
theorem k_386 : Cond.instanceMethod y_Want_currentPlace ∈ fr_W := fr_m 386 (by decide +kernel) (by decide +kernel)
theorem k_387 : Cond.selects "FetchRules$Want" y_Want_currentPlace y_Want_currentPlace ∈ fr_W := fr_m 387 (by decide +kernel) (by decide +kernel)
theorem k_388 : Cond.code y_Want_currentPlace b_Want_currentPlace 1 (some .int) ∈ fr_W := fr_m 388 (by decide +kernel) (by decide +kernel)
theorem k_389 : Cond.methodLink "FetchRules" 227 y_FR_ask ∈ fr_W := fr_m 389 (by decide +kernel) (by decide +kernel)
theorem k_391 : Cond.instanceMethod y_FR_ask ∈ fr_W := fr_m 391 (by decide +kernel) (by decide +kernel)
theorem k_392 : Cond.code y_FR_ask b_FR_ask 6 (some .int) ∈ fr_W := fr_m 392 (by decide +kernel) (by decide +kernel)
theorem k_393 : Cond.methodLink "FetchRules" 244 y_FR_countSent ∈ fr_W := fr_m 393 (by decide +kernel) (by decide +kernel)
theorem k_395 : Cond.instanceMethod y_FR_countSent ∈ fr_W := fr_m 395 (by decide +kernel) (by decide +kernel)
theorem k_396 : Cond.code y_FR_countSent b_FR_countSent 3 none ∈ fr_W := fr_m 396 (by decide +kernel) (by decide +kernel)
theorem k_397 : Cond.methodLink "FetchRules" 248 y_Place_leadsOn ∈ fr_W := fr_m 397 (by decide +kernel) (by decide +kernel)
theorem k_398 : Cond.instanceMethod y_Place_leadsOn ∈ fr_W := fr_m 398 (by decide +kernel) (by decide +kernel)
theorem k_399 : Cond.selects "FetchRules$Place" y_Place_leadsOn y_Place_leadsOn ∈ fr_W := fr_m 399 (by decide +kernel) (by decide +kernel)
theorem k_400 : Cond.code y_Place_leadsOn b_Place_leadsOn 1 (some .boolean) ∈ fr_W := fr_m 400 (by decide +kernel) (by decide +kernel)
theorem k_401 : Cond.methodLink "FetchRules" 251 y_Place_gives ∈ fr_W := fr_m 401 (by decide +kernel) (by decide +kernel)
theorem k_402 : Cond.instanceMethod y_Place_gives ∈ fr_W := fr_m 402 (by decide +kernel) (by decide +kernel)
theorem k_403 : Cond.selects "FetchRules$Place" y_Place_gives y_Place_gives ∈ fr_W := fr_m 403 (by decide +kernel) (by decide +kernel)
theorem k_404 : Cond.code y_Place_gives b_Place_gives 2 (some .boolean) ∈ fr_W := fr_m 404 (by decide +kernel) (by decide +kernel)
theorem k_405 : Cond.methodLink "FetchRules" 230 y_FR_giveUp ∈ fr_W := fr_m 405 (by decide +kernel) (by decide +kernel)
theorem k_407 : Cond.instanceMethod y_FR_giveUp ∈ fr_W := fr_m 407 (by decide +kernel) (by decide +kernel)
theorem k_408 : Cond.code y_FR_giveUp b_FR_giveUp 2 none ∈ fr_W := fr_m 408 (by decide +kernel) (by decide +kernel)
theorem k_409 : Cond.methodLink "FetchRules" 234 y_Place_giveTo ∈ fr_W := fr_m 409 (by decide +kernel) (by decide +kernel)
theorem k_410 : Cond.instanceMethod y_Place_giveTo ∈ fr_W := fr_m 410 (by decide +kernel) (by decide +kernel)
theorem k_411 : Cond.selects "FetchRules$Place" y_Place_giveTo y_Place_giveTo ∈ fr_W := fr_m 411 (by decide +kernel) (by decide +kernel)
theorem k_412 : Cond.code y_Place_giveTo b_Place_giveTo 6 (some .boolean) ∈ fr_W := fr_m 412 (by decide +kernel) (by decide +kernel)
theorem k_413 : Cond.methodLink "FetchRules$Place" 47 Lib.Math.min.name ∈ fr_W := fr_m 413 (by decide +kernel) (by decide +kernel)
theorem k_414 : Cond.methodLink "FetchRules$Place" 56 y_Place_givenByte ∈ fr_W := fr_m 414 (by decide +kernel) (by decide +kernel)
theorem k_416 : Cond.instanceMethod y_Place_givenByte ∈ fr_W := fr_m 416 (by decide +kernel) (by decide +kernel)
theorem k_417 : Cond.code y_Place_givenByte b_Place_givenByte 2 (some .int) ∈ fr_W := fr_m 417 (by decide +kernel) (by decide +kernel)
theorem k_418 : Cond.methodLink "FetchRules$Place" 64 y_Row_at ∈ fr_W := fr_m 418 (by decide +kernel) (by decide +kernel)
theorem k_419 : Cond.instanceMethod y_Row_at ∈ fr_W := fr_m 419 (by decide +kernel) (by decide +kernel)
theorem k_420 : Cond.selects "FetchRules$Row" y_Row_at y_Row_at ∈ fr_W := fr_m 420 (by decide +kernel) (by decide +kernel)
theorem k_421 : Cond.code y_Row_at b_Row_at 2 (some .int) ∈ fr_W := fr_m 421 (by decide +kernel) (by decide +kernel)
theorem k_422 : Cond.methodLink "FetchRules$Place" 60 y_Row_append ∈ fr_W := fr_m 422 (by decide +kernel) (by decide +kernel)
theorem k_423 : Cond.methodLink "FetchRules" 238 y_FR_checkDigest ∈ fr_W := fr_m 423 (by decide +kernel) (by decide +kernel)
theorem k_425 : Cond.instanceMethod y_FR_checkDigest ∈ fr_W := fr_m 425 (by decide +kernel) (by decide +kernel)
theorem k_426 : Cond.code y_FR_checkDigest b_FR_checkDigest 5 none ∈ fr_W := fr_m 426 (by decide +kernel) (by decide +kernel)
theorem k_427 : Cond.methodLink "FetchRules" 255 y_Store_keep ∈ fr_W := fr_m 427 (by decide +kernel) (by decide +kernel)
theorem k_428 : Cond.instanceMethod y_Store_keep ∈ fr_W := fr_m 428 (by decide +kernel) (by decide +kernel)
theorem k_429 : Cond.selects "FetchRules$Store" y_Store_keep y_Store_keep ∈ fr_W := fr_m 429 (by decide +kernel) (by decide +kernel)
theorem k_430 : Cond.code y_Store_keep b_Store_keep 3 none ∈ fr_W := fr_m 430 (by decide +kernel) (by decide +kernel)
theorem k_431 : Cond.methodLink "FetchRules$Store" 26 y_Store_find ∈ fr_W := fr_m 431 (by decide +kernel) (by decide +kernel)
theorem k_432 : Cond.methodLink "FetchRules$Store" 30 y_Row_copyFrom ∈ fr_W := fr_m 432 (by decide +kernel) (by decide +kernel)
theorem k_433 : Cond.methodLink "FetchRules" 262 y_Tellings_tell ∈ fr_W := fr_m 433 (by decide +kernel) (by decide +kernel)
theorem k_434 : Cond.instanceMethod y_Tellings_tell ∈ fr_W := fr_m 434 (by decide +kernel) (by decide +kernel)
theorem k_435 : Cond.selects "FetchRules$Tellings" y_Tellings_tell y_Tellings_tell ∈ fr_W := fr_m 435 (by decide +kernel) (by decide +kernel)
theorem k_436 : Cond.code y_Tellings_tell b_Tellings_tell 4 none ∈ fr_W := fr_m 436 (by decide +kernel) (by decide +kernel)
theorem k_437 : Cond.methodLink "FetchRules" 241 y_FR_falter ∈ fr_W := fr_m 437 (by decide +kernel) (by decide +kernel)
theorem k_439 : Cond.instanceMethod y_FR_falter ∈ fr_W := fr_m 439 (by decide +kernel) (by decide +kernel)
theorem k_440 : Cond.code y_FR_falter b_FR_falter 2 none ∈ fr_W := fr_m 440 (by decide +kernel) (by decide +kernel)
theorem k_441 : Cond.methodLink "FetchRules" 171 y_FR_countBusy ∈ fr_W := fr_m 441 (by decide +kernel) (by decide +kernel)
theorem k_443 : Cond.instanceMethod y_FR_countBusy ∈ fr_W := fr_m 443 (by decide +kernel) (by decide +kernel)
theorem k_444 : Cond.code y_FR_countBusy b_FR_countBusy 3 (some .int) ∈ fr_W := fr_m 444 (by decide +kernel) (by decide +kernel)
theorem k_453 : Cond.methodLink "FetchRules" 183 y_Row_at ∈ fr_W := fr_m 453 (by decide +kernel) (by decide +kernel)
theorem k_458 : Cond.methodLink "FetchRules" 186 y_Tellings_has ∈ fr_W := fr_m 458 (by decide +kernel) (by decide +kernel)
theorem k_459 : Cond.instanceMethod y_Tellings_has ∈ fr_W := fr_m 459 (by decide +kernel) (by decide +kernel)
theorem k_460 : Cond.selects "FetchRules$Tellings" y_Tellings_has y_Tellings_has ∈ fr_W := fr_m 460 (by decide +kernel) (by decide +kernel)
theorem k_461 : Cond.code y_Tellings_has b_Tellings_has 2 (some .boolean) ∈ fr_W := fr_m 461 (by decide +kernel) (by decide +kernel)
theorem k_478 : Cond.methodLink "FetchRules" 198 y_Archive_findIll ∈ fr_W := fr_m 478 (by decide +kernel) (by decide +kernel)
theorem k_479 : Cond.static y_Archive_findIll ∈ fr_W := fr_m 479 (by decide +kernel) (by decide +kernel)
theorem k_480 : Cond.code y_Archive_findIll b_Archive_findIll 4 (some .int) ∈ fr_W := fr_m 480 (by decide +kernel) (by decide +kernel)
theorem k_481 : Cond.methodLink "FetchRules$Archive" 15 y_Archive_findIllOfEntry ∈ fr_W := fr_m 481 (by decide +kernel) (by decide +kernel)
theorem k_482 : Cond.static y_Archive_findIllOfEntry ∈ fr_W := fr_m 482 (by decide +kernel) (by decide +kernel)
theorem k_483 : Cond.code y_Archive_findIllOfEntry b_Archive_findIllOfEntry 3 (some .int) ∈ fr_W := fr_m 483 (by decide +kernel) (by decide +kernel)
theorem k_484 : Cond.methodLink "FetchRules$Archive" 24 y_Row_at ∈ fr_W := fr_m 484 (by decide +kernel) (by decide +kernel)
theorem k_485 : Cond.methodLink "FetchRules$Archive" 28 y_Archive_pathEnd ∈ fr_W := fr_m 485 (by decide +kernel) (by decide +kernel)
theorem k_486 : Cond.static y_Archive_pathEnd ∈ fr_W := fr_m 486 (by decide +kernel) (by decide +kernel)
theorem k_487 : Cond.code y_Archive_pathEnd b_Archive_pathEnd 2 (some .int) ∈ fr_W := fr_m 487 (by decide +kernel) (by decide +kernel)
theorem k_488 : Cond.methodLink "FetchRules$Archive" 31 y_Archive_isRightPath ∈ fr_W := fr_m 488 (by decide +kernel) (by decide +kernel)
theorem k_489 : Cond.static y_Archive_isRightPath ∈ fr_W := fr_m 489 (by decide +kernel) (by decide +kernel)
theorem k_490 : Cond.code y_Archive_isRightPath b_Archive_isRightPath 6 (some .boolean) ∈ fr_W := fr_m 490 (by decide +kernel) (by decide +kernel)
theorem k_491 : Cond.methodLink "FetchRules$Archive" 35 y_Archive_isRightSegment ∈ fr_W := fr_m 491 (by decide +kernel) (by decide +kernel)
theorem k_492 : Cond.static y_Archive_isRightSegment ∈ fr_W := fr_m 492 (by decide +kernel) (by decide +kernel)
theorem k_493 : Cond.code y_Archive_isRightSegment b_Archive_isRightSegment 4 (some .boolean) ∈ fr_W := fr_m 493 (by decide +kernel) (by decide +kernel)
theorem k_494 : Cond.methodLink "FetchRules$Archive" 38 y_Archive_isPathCharacter ∈ fr_W := fr_m 494 (by decide +kernel) (by decide +kernel)
theorem k_495 : Cond.static y_Archive_isPathCharacter ∈ fr_W := fr_m 495 (by decide +kernel) (by decide +kernel)
theorem k_496 : Cond.code y_Archive_isPathCharacter b_Archive_isPathCharacter 1 (some .boolean) ∈ fr_W := fr_m 496 (by decide +kernel) (by decide +kernel)
theorem k_497 : Cond.methodLink "FetchRules$Archive" 21 y_Archive_entryEnd ∈ fr_W := fr_m 497 (by decide +kernel) (by decide +kernel)
theorem k_498 : Cond.static y_Archive_entryEnd ∈ fr_W := fr_m 498 (by decide +kernel) (by decide +kernel)
theorem k_499 : Cond.code y_Archive_entryEnd b_Archive_entryEnd 3 (some .int) ∈ fr_W := fr_m 499 (by decide +kernel) (by decide +kernel)
theorem k_500 : Cond.methodLink "FetchRules" 204 y_Files_fill ∈ fr_W := fr_m 500 (by decide +kernel) (by decide +kernel)
theorem k_501 : Cond.instanceMethod y_Files_fill ∈ fr_W := fr_m 501 (by decide +kernel) (by decide +kernel)
theorem k_502 : Cond.selects "FetchRules$Files" y_Files_fill y_Files_fill ∈ fr_W := fr_m 502 (by decide +kernel) (by decide +kernel)
theorem k_503 : Cond.code y_Files_fill b_Files_fill 7 none ∈ fr_W := fr_m 503 (by decide +kernel) (by decide +kernel)
theorem k_504 : Cond.methodLink "FetchRules$Files" 33 y_Archive_pathEnd ∈ fr_W := fr_m 504 (by decide +kernel) (by decide +kernel)
theorem k_505 : Cond.methodLink "FetchRules$Files" 39 y_Archive_strippedStart ∈ fr_W := fr_m 505 (by decide +kernel) (by decide +kernel)
theorem k_506 : Cond.static y_Archive_strippedStart ∈ fr_W := fr_m 506 (by decide +kernel) (by decide +kernel)
theorem k_507 : Cond.code y_Archive_strippedStart b_Archive_strippedStart 7 (some .int) ∈ fr_W := fr_m 507 (by decide +kernel) (by decide +kernel)
theorem k_508 : Cond.methodLink "FetchRules$Files" 43 y_Files_put ∈ fr_W := fr_m 508 (by decide +kernel) (by decide +kernel)
theorem k_510 : Cond.instanceMethod y_Files_put ∈ fr_W := fr_m 510 (by decide +kernel) (by decide +kernel)
theorem k_511 : Cond.code y_Files_put b_Files_put 6 none ∈ fr_W := fr_m 511 (by decide +kernel) (by decide +kernel)
theorem k_512 : Cond.methodLink "FetchRules$Files" 50 y_Files_findPath ∈ fr_W := fr_m 512 (by decide +kernel) (by decide +kernel)
theorem k_514 : Cond.instanceMethod y_Files_findPath ∈ fr_W := fr_m 514 (by decide +kernel) (by decide +kernel)
theorem k_515 : Cond.code y_Files_findPath b_Files_findPath 5 (some .int) ∈ fr_W := fr_m 515 (by decide +kernel) (by decide +kernel)
theorem k_516 : Cond.methodLink "FetchRules$Files" 58 y_Row_hasSame ∈ fr_W := fr_m 516 (by decide +kernel) (by decide +kernel)
theorem k_517 : Cond.instanceMethod y_Row_hasSame ∈ fr_W := fr_m 517 (by decide +kernel) (by decide +kernel)
theorem k_518 : Cond.selects "FetchRules$Row" y_Row_hasSame y_Row_hasSame ∈ fr_W := fr_m 518 (by decide +kernel) (by decide +kernel)
theorem k_519 : Cond.code y_Row_hasSame b_Row_hasSame 5 (some .boolean) ∈ fr_W := fr_m 519 (by decide +kernel) (by decide +kernel)
theorem k_520 : Cond.methodLink "FetchRules$Row" 26 y_Row_at ∈ fr_W := fr_m 520 (by decide +kernel) (by decide +kernel)
theorem k_521 : Cond.methodLink "FetchRules$Files" 54 y_Row_at ∈ fr_W := fr_m 521 (by decide +kernel) (by decide +kernel)
theorem k_522 : Cond.methodLink "FetchRules$Files" 47 y_Archive_entryEnd ∈ fr_W := fr_m 522 (by decide +kernel) (by decide +kernel)
theorem k_527 : Cond.methodLink "FetchRules" 211 y_Files_has ∈ fr_W := fr_m 527 (by decide +kernel) (by decide +kernel)
theorem k_528 : Cond.instanceMethod y_Files_has ∈ fr_W := fr_m 528 (by decide +kernel) (by decide +kernel)
theorem k_529 : Cond.selects "FetchRules$Files" y_Files_has y_Files_has ∈ fr_W := fr_m 529 (by decide +kernel) (by decide +kernel)
theorem k_530 : Cond.code y_Files_has b_Files_has 2 (some .boolean) ∈ fr_W := fr_m 530 (by decide +kernel) (by decide +kernel)
theorem k_540 : Cond.fieldLink "FetchRulesModel" 113 "FetchRulesModel" "retries" "I" ∈ fr_W := fr_m 540 (by decide +kernel) (by decide +kernel)
theorem k_541 : Cond.fieldLink "FetchRulesModel" 117 "FetchRulesModel" "code" "I" ∈ fr_W := fr_m 541 (by decide +kernel) (by decide +kernel)
theorem k_542 : Cond.fieldLink "FetchRulesModel" 162 "FetchRulesModel" "clock" "I" ∈ fr_W := fr_m 542 (by decide +kernel) (by decide +kernel)
theorem k_543 : Cond.fieldLink "FetchRulesModel" 140 "FetchRulesModel" "isOffLine" "Z" ∈ fr_W := fr_m 543 (by decide +kernel) (by decide +kernel)
theorem k_544 : Cond.fieldLink "FetchRulesModel" 7 "FetchRulesModel" "hasCredential" "[Z" ∈ fr_W := fr_m 544 (by decide +kernel) (by decide +kernel)
theorem k_545 : Cond.fieldLink "FetchRulesModel" 13 "FetchRulesModel" "sent" "[I" ∈ fr_W := fr_m 545 (by decide +kernel) (by decide +kernel)
theorem k_546 : Cond.fieldLink "FetchRulesModel" 120 "FetchRulesModel" "places" "I" ∈ fr_W := fr_m 546 (by decide +kernel) (by decide +kernel)
theorem k_547 : Cond.fieldLink "FetchRulesModel" 123 "FetchRulesModel" "wants" "I" ∈ fr_W := fr_m 547 (by decide +kernel) (by decide +kernel)
theorem k_548 : Cond.fieldLink "FetchRulesModel" 147 "FetchRulesModel" "keptMany" "I" ∈ fr_W := fr_m 548 (by decide +kernel) (by decide +kernel)
theorem k_549 : Cond.fieldLink "FetchRulesModel" 168 "FetchRulesModel" "told" "I" ∈ fr_W := fr_m 549 (by decide +kernel) (by decide +kernel)
theorem k_550 : Cond.fieldLink "FetchRulesModel" 144 "FetchRulesModel" "lacking" "I" ∈ fr_W := fr_m 550 (by decide +kernel) (by decide +kernel)
theorem k_551 : Cond.fieldLink "FetchRulesModel" 17 "FetchRulesModel" "host" "[I" ∈ fr_W := fr_m 551 (by decide +kernel) (by decide +kernel)
theorem k_552 : Cond.fieldLink "FetchRulesModel" 20 "FetchRulesModel" "rate" "[I" ∈ fr_W := fr_m 552 (by decide +kernel) (by decide +kernel)
theorem k_553 : Cond.fieldLink "FetchRulesModel" 23 "FetchRulesModel" "size" "[I" ∈ fr_W := fr_m 553 (by decide +kernel) (by decide +kernel)
theorem k_554 : Cond.fieldLink "FetchRulesModel" 26 "FetchRulesModel" "leads" "[I" ∈ fr_W := fr_m 554 (by decide +kernel) (by decide +kernel)
theorem k_555 : Cond.fieldLink "FetchRulesModel" 29 "FetchRulesModel" "cuts" "[I" ∈ fr_W := fr_m 555 (by decide +kernel) (by decide +kernel)
theorem k_556 : Cond.fieldLink "FetchRulesModel" 32 "FetchRulesModel" "cutBytes" "[I" ∈ fr_W := fr_m 556 (by decide +kernel) (by decide +kernel)
theorem k_557 : Cond.fieldLink "FetchRulesModel" 35 "FetchRulesModel" "bytes" "[I" ∈ fr_W := fr_m 557 (by decide +kernel) (by decide +kernel)
theorem k_558 : Cond.fieldLink "FetchRulesModel" 38 "FetchRulesModel" "isGone" "[Z" ∈ fr_W := fr_m 558 (by decide +kernel) (by decide +kernel)
theorem k_559 : Cond.fieldLink "FetchRulesModel" 41 "FetchRulesModel" "asks" "[Z" ∈ fr_W := fr_m 559 (by decide +kernel) (by decide +kernel)
theorem k_560 : Cond.fieldLink "FetchRulesModel" 44 "FetchRulesModel" "lies" "[Z" ∈ fr_W := fr_m 560 (by decide +kernel) (by decide +kernel)
theorem k_561 : Cond.fieldLink "FetchRulesModel" 47 "FetchRulesModel" "isBarred" "[Z" ∈ fr_W := fr_m 561 (by decide +kernel) (by decide +kernel)
theorem k_562 : Cond.fieldLink "FetchRulesModel" 50 "FetchRulesModel" "goal" "[I" ∈ fr_W := fr_m 562 (by decide +kernel) (by decide +kernel)
theorem k_563 : Cond.fieldLink "FetchRulesModel" 53 "FetchRulesModel" "placeMany" "[I" ∈ fr_W := fr_m 563 (by decide +kernel) (by decide +kernel)
theorem k_564 : Cond.fieldLink "FetchRulesModel" 56 "FetchRulesModel" "placeOf" "[I" ∈ fr_W := fr_m 564 (by decide +kernel) (by decide +kernel)
theorem k_565 : Cond.fieldLink "FetchRulesModel" 59 "FetchRulesModel" "state" "[I" ∈ fr_W := fr_m 565 (by decide +kernel) (by decide +kernel)
theorem k_566 : Cond.fieldLink "FetchRulesModel" 62 "FetchRulesModel" "at" "[I" ∈ fr_W := fr_m 566 (by decide +kernel) (by decide +kernel)
theorem k_567 : Cond.fieldLink "FetchRulesModel" 65 "FetchRulesModel" "has" "[I" ∈ fr_W := fr_m 567 (by decide +kernel) (by decide +kernel)
theorem k_568 : Cond.fieldLink "FetchRulesModel" 68 "FetchRulesModel" "row" "[I" ∈ fr_W := fr_m 568 (by decide +kernel) (by decide +kernel)
theorem k_569 : Cond.fieldLink "FetchRulesModel" 71 "FetchRulesModel" "till" "[I" ∈ fr_W := fr_m 569 (by decide +kernel) (by decide +kernel)
theorem k_570 : Cond.fieldLink "FetchRulesModel" 74 "FetchRulesModel" "turns" "[I" ∈ fr_W := fr_m 570 (by decide +kernel) (by decide +kernel)
theorem k_571 : Cond.fieldLink "FetchRulesModel" 77 "FetchRulesModel" "falters" "[I" ∈ fr_W := fr_m 571 (by decide +kernel) (by decide +kernel)
theorem k_572 : Cond.fieldLink "FetchRulesModel" 80 "FetchRulesModel" "kept" "[I" ∈ fr_W := fr_m 572 (by decide +kernel) (by decide +kernel)
theorem k_573 : Cond.fieldLink "FetchRulesModel" 83 "FetchRulesModel" "keptSize" "[I" ∈ fr_W := fr_m 573 (by decide +kernel) (by decide +kernel)
theorem k_574 : Cond.fieldLink "FetchRulesModel" 86 "FetchRulesModel" "keptRow" "[I" ∈ fr_W := fr_m 574 (by decide +kernel) (by decide +kernel)
theorem k_575 : Cond.fieldLink "FetchRulesModel" 89 "FetchRulesModel" "toldWant" "[I" ∈ fr_W := fr_m 575 (by decide +kernel) (by decide +kernel)
theorem k_576 : Cond.fieldLink "FetchRulesModel" 92 "FetchRulesModel" "toldPlace" "[I" ∈ fr_W := fr_m 576 (by decide +kernel) (by decide +kernel)
theorem k_577 : Cond.fieldLink "FetchRulesModel" 95 "FetchRulesModel" "toldDigest" "[I" ∈ fr_W := fr_m 577 (by decide +kernel) (by decide +kernel)
theorem k_578 : Cond.fieldLink "FetchRulesModel" 98 "FetchRulesModel" "lack" "[I" ∈ fr_W := fr_m 578 (by decide +kernel) (by decide +kernel)
theorem k_579 : Cond.fieldLink "FetchRulesModel" 186 "FetchRulesModel" "files" "I" ∈ fr_W := fr_m 579 (by decide +kernel) (by decide +kernel)
theorem k_580 : Cond.fieldLink "FetchRulesModel" 101 "FetchRulesModel" "fileAt" "[I" ∈ fr_W := fr_m 580 (by decide +kernel) (by decide +kernel)
theorem k_581 : Cond.fieldLink "FetchRulesModel" 104 "FetchRulesModel" "fileMany" "[I" ∈ fr_W := fr_m 581 (by decide +kernel) (by decide +kernel)
theorem k_582 : Cond.fieldLink "FetchRulesModel" 107 "FetchRulesModel" "pathAt" "[I" ∈ fr_W := fr_m 582 (by decide +kernel) (by decide +kernel)
theorem k_583 : Cond.fieldLink "FetchRulesModel" 110 "FetchRulesModel" "pathMany" "[I" ∈ fr_W := fr_m 583 (by decide +kernel) (by decide +kernel)
theorem k_685 : Cond.methodLink "FetchRulesModel" 126 y_Md_isPlace ∈ fr_W := fr_m 685 (by decide +kernel) (by decide +kernel)
theorem k_687 : Cond.instanceMethod y_Md_isPlace ∈ fr_W := fr_m 687 (by decide +kernel) (by decide +kernel)
theorem k_688 : Cond.code y_Md_isPlace b_Md_isPlace 2 (some .boolean) ∈ fr_W := fr_m 688 (by decide +kernel) (by decide +kernel)
theorem k_689 : Cond.constantLong "FetchRulesModel" 130 (255) ∈ fr_W := fr_m 689 (by decide +kernel) (by decide +kernel)
theorem k_702 : Cond.methodLink "FetchRulesModel" 133 y_Md_next ∈ fr_W := fr_m 702 (by decide +kernel) (by decide +kernel)
theorem k_703 : Cond.static y_Md_next ∈ fr_W := fr_m 703 (by decide +kernel) (by decide +kernel)
theorem k_704 : Cond.code y_Md_next b_Md_next 3 (some .int) ∈ fr_W := fr_m 704 (by decide +kernel) (by decide +kernel)
theorem k_705 : Cond.constant "FetchRulesModel" 132 (-2048144777) ∈ fr_W := fr_m 705 (by decide +kernel) (by decide +kernel)
theorem k_714 : Cond.methodLink "FetchRulesModel" 137 y_Md_isWant ∈ fr_W := fr_m 714 (by decide +kernel) (by decide +kernel)
theorem k_716 : Cond.instanceMethod y_Md_isWant ∈ fr_W := fr_m 716 (by decide +kernel) (by decide +kernel)
theorem k_717 : Cond.code y_Md_isWant b_Md_isWant 2 (some .boolean) ∈ fr_W := fr_m 717 (by decide +kernel) (by decide +kernel)
theorem k_726 : Cond.methodLink "FetchRulesModel" 150 y_Md_keptOf ∈ fr_W := fr_m 726 (by decide +kernel) (by decide +kernel)
theorem k_728 : Cond.instanceMethod y_Md_keptOf ∈ fr_W := fr_m 728 (by decide +kernel) (by decide +kernel)
theorem k_729 : Cond.code y_Md_keptOf b_Md_keptOf 4 (some .int) ∈ fr_W := fr_m 729 (by decide +kernel) (by decide +kernel)
theorem k_730 : Cond.methodLink "FetchRulesModel" 154 y_Md_tellLack ∈ fr_W := fr_m 730 (by decide +kernel) (by decide +kernel)
theorem k_732 : Cond.instanceMethod y_Md_tellLack ∈ fr_W := fr_m 732 (by decide +kernel) (by decide +kernel)
theorem k_733 : Cond.code y_Md_tellLack b_Md_tellLack 4 none ∈ fr_W := fr_m 733 (by decide +kernel) (by decide +kernel)
theorem k_734 : Cond.methodLink "FetchRulesModel" 158 y_Md_goOn ∈ fr_W := fr_m 734 (by decide +kernel) (by decide +kernel)
theorem k_736 : Cond.instanceMethod y_Md_goOn ∈ fr_W := fr_m 736 (by decide +kernel) (by decide +kernel)
theorem k_737 : Cond.code y_Md_goOn b_Md_goOn 4 none ∈ fr_W := fr_m 737 (by decide +kernel) (by decide +kernel)
theorem k_742 : Cond.methodLink "FetchRulesModel" 180 y_Md_turn ∈ fr_W := fr_m 742 (by decide +kernel) (by decide +kernel)
theorem k_744 : Cond.instanceMethod y_Md_turn ∈ fr_W := fr_m 744 (by decide +kernel) (by decide +kernel)
theorem k_745 : Cond.code y_Md_turn b_Md_turn 7 none ∈ fr_W := fr_m 745 (by decide +kernel) (by decide +kernel)
theorem k_746 : Cond.methodLink "FetchRulesModel" 171 y_Md_ask ∈ fr_W := fr_m 746 (by decide +kernel) (by decide +kernel)
theorem k_748 : Cond.instanceMethod y_Md_ask ∈ fr_W := fr_m 748 (by decide +kernel) (by decide +kernel)
theorem k_749 : Cond.code y_Md_ask b_Md_ask 6 (some .int) ∈ fr_W := fr_m 749 (by decide +kernel) (by decide +kernel)
theorem k_750 : Cond.methodLink "FetchRulesModel" 174 y_Md_judge ∈ fr_W := fr_m 750 (by decide +kernel) (by decide +kernel)
theorem k_752 : Cond.instanceMethod y_Md_judge ∈ fr_W := fr_m 752 (by decide +kernel) (by decide +kernel)
theorem k_753 : Cond.code y_Md_judge b_Md_judge 4 none ∈ fr_W := fr_m 753 (by decide +kernel) (by decide +kernel)
theorem k_754 : Cond.methodLink "FetchRulesModel" 165 y_Md_keep ∈ fr_W := fr_m 754 (by decide +kernel) (by decide +kernel)
theorem k_756 : Cond.instanceMethod y_Md_keep ∈ fr_W := fr_m 756 (by decide +kernel) (by decide +kernel)
theorem k_757 : Cond.code y_Md_keep b_Md_keep 3 none ∈ fr_W := fr_m 757 (by decide +kernel) (by decide +kernel)
theorem k_758 : Cond.methodLink "FetchRulesModel" 177 y_Md_falter ∈ fr_W := fr_m 758 (by decide +kernel) (by decide +kernel)
theorem k_760 : Cond.instanceMethod y_Md_falter ∈ fr_W := fr_m 760 (by decide +kernel) (by decide +kernel)
theorem k_761 : Cond.code y_Md_falter b_Md_falter 2 none ∈ fr_W := fr_m 761 (by decide +kernel) (by decide +kernel)
theorem k_790 : Cond.methodLink "FetchRulesModel" 205 y_Md_read ∈ fr_W := fr_m 790 (by decide +kernel) (by decide +kernel)
theorem k_792 : Cond.instanceMethod y_Md_read ∈ fr_W := fr_m 792 (by decide +kernel) (by decide +kernel)
theorem k_793 : Cond.code y_Md_read b_Md_read 12 (some .int) ∈ fr_W := fr_m 793 (by decide +kernel) (by decide +kernel)
theorem k_794 : Cond.methodLink "FetchRulesModel" 193 y_Md_isRight ∈ fr_W := fr_m 794 (by decide +kernel) (by decide +kernel)
theorem k_796 : Cond.instanceMethod y_Md_isRight ∈ fr_W := fr_m 796 (by decide +kernel) (by decide +kernel)
theorem k_797 : Cond.code y_Md_isRight b_Md_isRight 7 (some .boolean) ∈ fr_W := fr_m 797 (by decide +kernel) (by decide +kernel)
theorem k_798 : Cond.methodLink "FetchRulesModel" 183 y_Md_isSign ∈ fr_W := fr_m 798 (by decide +kernel) (by decide +kernel)
theorem k_799 : Cond.static y_Md_isSign ∈ fr_W := fr_m 799 (by decide +kernel) (by decide +kernel)
theorem k_800 : Cond.code y_Md_isSign b_Md_isSign 1 (some .boolean) ∈ fr_W := fr_m 800 (by decide +kernel) (by decide +kernel)
theorem k_801 : Cond.methodLink "FetchRulesModel" 197 y_Md_strip ∈ fr_W := fr_m 801 (by decide +kernel) (by decide +kernel)
theorem k_803 : Cond.instanceMethod y_Md_strip ∈ fr_W := fr_m 803 (by decide +kernel) (by decide +kernel)
theorem k_804 : Cond.code y_Md_strip b_Md_strip 6 (some .int) ∈ fr_W := fr_m 804 (by decide +kernel) (by decide +kernel)
theorem k_805 : Cond.methodLink "FetchRulesModel" 201 y_Md_putFile ∈ fr_W := fr_m 805 (by decide +kernel) (by decide +kernel)
theorem k_807 : Cond.instanceMethod y_Md_putFile ∈ fr_W := fr_m 807 (by decide +kernel) (by decide +kernel)
theorem k_808 : Cond.code y_Md_putFile b_Md_putFile 7 none ∈ fr_W := fr_m 808 (by decide +kernel) (by decide +kernel)
theorem k_809 : Cond.methodLink "FetchRulesModel" 189 y_Md_isSamePath ∈ fr_W := fr_m 809 (by decide +kernel) (by decide +kernel)
theorem k_811 : Cond.instanceMethod y_Md_isSamePath ∈ fr_W := fr_m 811 (by decide +kernel) (by decide +kernel)
theorem k_812 : Cond.code y_Md_isSamePath b_Md_isSamePath 7 (some .boolean) ∈ fr_W := fr_m 812 (by decide +kernel) (by decide +kernel)
theorem fr_good : ∀ w ∈ fr_W, (w.onTables && w.keeps) = true ∨ ∃ ty, w = .arrayClass ty := fun w hw => good_of_word (List.all_eq_true.mp fr_allgood w hw)
theorem fr_G {y : MethodName} {bytes : ByteArray} {maxL : Nat} {ret : Option FieldType} (h5 : Cond.code y bytes maxL ret ∈ fr_W) : GoodIn fr_W (Cond.code y bytes maxL ret :: fr_W) := by
  intro w hw
  rcases List.mem_cons.mp hw with h | h
  · rw [h]; exact ⟨h5, fr_good _ h5⟩
  · exact ⟨h, fr_good _ h⟩
theorem fr_GV {own C : String} {index : Nat} {y : MethodName} {bytes : ByteArray} {maxL : Nat} {ret : Option FieldType} (h1 : Cond.methodLink own index y ∈ fr_W) (h2 : Cond.instanceMethod y ∈ fr_W) (h3 : Cond.selects C y y ∈ fr_W) (h4 : Cond.initialized C ∈ fr_W) (h5 : Cond.code y bytes maxL ret ∈ fr_W) : GoodIn fr_W (wsV own index C y (Cond.code y bytes maxL ret :: fr_W)) := by
  intro w hw
  unfold wsV at hw
  rcases List.mem_append.mp hw with h | h
  · simp only [List.mem_cons, List.not_mem_nil, or_false] at h
    rcases h with h | h | h | h <;> rw [h]
    · exact ⟨h1, fr_good _ h1⟩
    · exact ⟨h2, fr_good _ h2⟩
    · exact ⟨h3, fr_good _ h3⟩
    · exact ⟨h4, fr_good _ h4⟩
  · exact fr_G h5 w h
def fr_MV (y : MethodName) (C : String) (bytes : ByteArray) (maxL : Nat) (ret : Option FieldType) (n : Nat) : Prop := Cond.instanceMethod y ∈ fr_W ∧ Cond.selects C y y ∈ fr_W ∧ Cond.initialized C ∈ fr_W ∧ Cond.code y bytes maxL ret ∈ fr_W ∧ (y.cls = C ∧ y.cls ≠ "java/lang/invoke/MethodHandle" ∧ y.cls ≠ "java/lang/invoke/VarHandle" ∧ (parseMethodDescriptor y.desc).map (fun d => d.parameters.length) = some n)
def fr_MS (y : MethodName) (bytes : ByteArray) (maxL : Nat) (ret : Option FieldType) (n : Nat) : Prop := Cond.static y ∈ fr_W ∧ Cond.initialized y.cls ∈ fr_W ∧ Cond.code y bytes maxL ret ∈ fr_W ∧ (y.cls ≠ "java/lang/invoke/MethodHandle" ∧ y.cls ≠ "java/lang/invoke/VarHandle" ∧ (parseMethodDescriptor y.desc).map (fun d => d.parameters.length) = some n)
theorem ms_FR_isHost : fr_MS y_FR_isHost b_FR_isHost 1 (some .boolean) 1 := ⟨k_287, k_31, k_288, by decide +kernel⟩
theorem mv_FR_isPlace : fr_MV y_FR_isPlace "FetchRules" b_FR_isPlace 2 (some .boolean) 1 := ⟨k_299, k_0, k_31, k_300, by decide +kernel⟩
theorem mv_Row_append : fr_MV y_Row_append "FetchRules$Row" b_Row_append 2 none 1 := ⟨k_302, k_303, k_33, k_304, by decide +kernel⟩
theorem mv_Row_computeDigest : fr_MV y_Row_computeDigest "FetchRules$Row" b_Row_computeDigest 4 (some .int) 0 := ⟨k_318, k_319, k_33, k_320, by decide +kernel⟩
theorem mv_FR_isWant : fr_MV y_FR_isWant "FetchRules" b_FR_isWant 2 (some .boolean) 1 := ⟨k_332, k_1, k_31, k_333, by decide +kernel⟩
theorem mv_Want_addPlace : fr_MV y_Want_addPlace "FetchRules$Want" b_Want_addPlace 3 (some .boolean) 1 := ⟨k_335, k_336, k_38, k_337, by decide +kernel⟩
theorem mv_Want_startAt : fr_MV y_Want_startAt "FetchRules$Want" b_Want_startAt 2 none 1 := ⟨k_370, k_371, k_38, k_372, by decide +kernel⟩
theorem mv_Want_isBusy : fr_MV y_Want_isBusy "FetchRules$Want" b_Want_isBusy 1 (some .boolean) 0 := ⟨k_347, k_348, k_38, k_349, by decide +kernel⟩
theorem mv_Store_find : fr_MV y_Store_find "FetchRules$Store" b_Store_find 3 (some .int) 1 := ⟨k_351, k_352, k_32, k_353, by decide +kernel⟩
theorem mv_FR_fetchFrom : fr_MV y_FR_fetchFrom "FetchRules" b_FR_fetchFrom 4 none 2 := ⟨k_367, k_3, k_31, k_368, by decide +kernel⟩
theorem mv_FR_noteLacking : fr_MV y_FR_noteLacking "FetchRules" b_FR_noteLacking 3 none 1 := ⟨k_363, k_2, k_31, k_364, by decide +kernel⟩
theorem mv_Row_copyFrom : fr_MV y_Row_copyFrom "FetchRules$Row" b_Row_copyFrom 2 none 1 := ⟨k_355, k_356, k_33, k_357, by decide +kernel⟩
theorem mv_FR_countSent : fr_MV y_FR_countSent "FetchRules" b_FR_countSent 3 none 2 := ⟨k_395, k_7, k_31, k_396, by decide +kernel⟩
theorem mv_Place_gives : fr_MV y_Place_gives "FetchRules$Place" b_Place_gives 2 (some .boolean) 1 := ⟨k_402, k_403, k_37, k_404, by decide +kernel⟩
theorem mv_Place_leadsOn : fr_MV y_Place_leadsOn "FetchRules$Place" b_Place_leadsOn 1 (some .boolean) 0 := ⟨k_398, k_399, k_37, k_400, by decide +kernel⟩
theorem mv_Row_at : fr_MV y_Row_at "FetchRules$Row" b_Row_at 2 (some .int) 1 := ⟨k_419, k_420, k_33, k_421, by decide +kernel⟩
theorem mv_Place_givenByte : fr_MV y_Place_givenByte "FetchRules$Place" b_Place_givenByte 2 (some .int) 1 := ⟨k_416, k_9, k_37, k_417, by decide +kernel⟩
theorem mv_Want_currentPlace : fr_MV y_Want_currentPlace "FetchRules$Want" b_Want_currentPlace 1 (some .int) 0 := ⟨k_386, k_387, k_38, k_388, by decide +kernel⟩
theorem mv_FR_giveUp : fr_MV y_FR_giveUp "FetchRules" b_FR_giveUp 2 none 1 := ⟨k_407, k_8, k_31, k_408, by decide +kernel⟩
theorem mv_Tellings_tell : fr_MV y_Tellings_tell "FetchRules$Tellings" b_Tellings_tell 4 none 3 := ⟨k_434, k_435, k_34, k_436, by decide +kernel⟩
theorem mv_Store_keep : fr_MV y_Store_keep "FetchRules$Store" b_Store_keep 3 none 2 := ⟨k_428, k_429, k_32, k_430, by decide +kernel⟩
theorem mv_FR_ask : fr_MV y_FR_ask "FetchRules" b_FR_ask 6 (some .int) 1 := ⟨k_391, k_6, k_31, k_392, by decide +kernel⟩
theorem mv_Place_giveTo : fr_MV y_Place_giveTo "FetchRules$Place" b_Place_giveTo 6 (some .boolean) 1 := ⟨k_410, k_411, k_37, k_412, by decide +kernel⟩
theorem mv_FR_falter : fr_MV y_FR_falter "FetchRules" b_FR_falter 2 none 1 := ⟨k_439, k_11, k_31, k_440, by decide +kernel⟩
theorem mv_FR_checkDigest : fr_MV y_FR_checkDigest "FetchRules" b_FR_checkDigest 5 none 1 := ⟨k_425, k_10, k_31, k_426, by decide +kernel⟩
theorem mv_FR_takeTurn : fr_MV y_FR_takeTurn "FetchRules" b_FR_takeTurn 6 none 1 := ⟨k_383, k_5, k_31, k_384, by decide +kernel⟩
theorem mv_FR_countBusy : fr_MV y_FR_countBusy "FetchRules" b_FR_countBusy 3 (some .int) 0 := ⟨k_443, k_12, k_31, k_444, by decide +kernel⟩
theorem mv_FR_moveClock : fr_MV y_FR_moveClock "FetchRules" b_FR_moveClock 3 none 0 := ⟨k_379, k_4, k_31, k_380, by decide +kernel⟩
theorem mv_Tellings_has : fr_MV y_Tellings_has "FetchRules$Tellings" b_Tellings_has 2 (some .boolean) 1 := ⟨k_459, k_460, k_34, k_461, by decide +kernel⟩
theorem ms_Archive_isRightSegment : fr_MS y_Archive_isRightSegment b_Archive_isRightSegment 4 (some .boolean) 3 := ⟨k_492, k_41, k_493, by decide +kernel⟩
theorem ms_Archive_isPathCharacter : fr_MS y_Archive_isPathCharacter b_Archive_isPathCharacter 1 (some .boolean) 1 := ⟨k_495, k_41, k_496, by decide +kernel⟩
theorem ms_Archive_pathEnd : fr_MS y_Archive_pathEnd b_Archive_pathEnd 2 (some .int) 2 := ⟨k_486, k_41, k_487, by decide +kernel⟩
theorem ms_Archive_isRightPath : fr_MS y_Archive_isRightPath b_Archive_isRightPath 6 (some .boolean) 3 := ⟨k_489, k_41, k_490, by decide +kernel⟩
theorem ms_Archive_entryEnd : fr_MS y_Archive_entryEnd b_Archive_entryEnd 3 (some .int) 2 := ⟨k_498, k_41, k_499, by decide +kernel⟩
theorem ms_Archive_findIllOfEntry : fr_MS y_Archive_findIllOfEntry b_Archive_findIllOfEntry 3 (some .int) 2 := ⟨k_482, k_41, k_483, by decide +kernel⟩
theorem mv_Row_hasSame : fr_MV y_Row_hasSame "FetchRules$Row" b_Row_hasSame 5 (some .boolean) 3 := ⟨k_517, k_518, k_33, k_519, by decide +kernel⟩
theorem mv_Files_findPath : fr_MV y_Files_findPath "FetchRules$Files" b_Files_findPath 5 (some .int) 3 := ⟨k_514, k_14, k_35, k_515, by decide +kernel⟩
theorem ms_Archive_strippedStart : fr_MS y_Archive_strippedStart b_Archive_strippedStart 7 (some .int) 4 := ⟨k_506, k_41, k_507, by decide +kernel⟩
theorem mv_Files_put : fr_MV y_Files_put "FetchRules$Files" b_Files_put 6 none 3 := ⟨k_510, k_13, k_35, k_511, by decide +kernel⟩
theorem ms_Archive_findIll : fr_MS y_Archive_findIll b_Archive_findIll 4 (some .int) 1 := ⟨k_479, k_41, k_480, by decide +kernel⟩
theorem mv_Files_fill : fr_MV y_Files_fill "FetchRules$Files" b_Files_fill 7 none 2 := ⟨k_501, k_502, k_35, k_503, by decide +kernel⟩
theorem mv_Files_has : fr_MV y_Files_has "FetchRules$Files" b_Files_has 2 (some .boolean) 1 := ⟨k_528, k_529, k_35, k_530, by decide +kernel⟩
theorem mv_Md_isPlace : fr_MV y_Md_isPlace "FetchRulesModel" b_Md_isPlace 2 (some .boolean) 1 := ⟨k_687, k_15, k_39, k_688, by decide +kernel⟩
theorem ms_Md_next : fr_MS y_Md_next b_Md_next 3 (some .int) 2 := ⟨k_703, k_39, k_704, by decide +kernel⟩
theorem mv_Md_isWant : fr_MV y_Md_isWant "FetchRulesModel" b_Md_isWant 2 (some .boolean) 1 := ⟨k_716, k_16, k_39, k_717, by decide +kernel⟩
theorem mv_Md_keptOf : fr_MV y_Md_keptOf "FetchRulesModel" b_Md_keptOf 4 (some .int) 1 := ⟨k_728, k_17, k_39, k_729, by decide +kernel⟩
theorem mv_Md_goOn : fr_MV y_Md_goOn "FetchRulesModel" b_Md_goOn 4 none 2 := ⟨k_736, k_19, k_39, k_737, by decide +kernel⟩
theorem mv_Md_tellLack : fr_MV y_Md_tellLack "FetchRulesModel" b_Md_tellLack 4 none 1 := ⟨k_732, k_18, k_39, k_733, by decide +kernel⟩
theorem mv_Md_keep : fr_MV y_Md_keep "FetchRulesModel" b_Md_keep 3 none 1 := ⟨k_756, k_23, k_39, k_757, by decide +kernel⟩
theorem mv_Md_ask : fr_MV y_Md_ask "FetchRulesModel" b_Md_ask 6 (some .int) 1 := ⟨k_748, k_21, k_39, k_749, by decide +kernel⟩
theorem mv_Md_falter : fr_MV y_Md_falter "FetchRulesModel" b_Md_falter 2 none 1 := ⟨k_760, k_24, k_39, k_761, by decide +kernel⟩
theorem mv_Md_judge : fr_MV y_Md_judge "FetchRulesModel" b_Md_judge 4 none 1 := ⟨k_752, k_22, k_39, k_753, by decide +kernel⟩
theorem mv_Md_turn : fr_MV y_Md_turn "FetchRulesModel" b_Md_turn 7 none 1 := ⟨k_744, k_20, k_39, k_745, by decide +kernel⟩
theorem ms_Md_isSign : fr_MS y_Md_isSign b_Md_isSign 1 (some .boolean) 1 := ⟨k_799, k_39, k_800, by decide +kernel⟩
theorem mv_Md_isSamePath : fr_MV y_Md_isSamePath "FetchRulesModel" b_Md_isSamePath 7 (some .boolean) 4 := ⟨k_811, k_29, k_39, k_812, by decide +kernel⟩
theorem mv_Md_isRight : fr_MV y_Md_isRight "FetchRulesModel" b_Md_isRight 7 (some .boolean) 2 := ⟨k_796, k_26, k_39, k_797, by decide +kernel⟩
theorem mv_Md_strip : fr_MV y_Md_strip "FetchRulesModel" b_Md_strip 6 (some .int) 3 := ⟨k_803, k_27, k_39, k_804, by decide +kernel⟩
theorem mv_Md_putFile : fr_MV y_Md_putFile "FetchRulesModel" b_Md_putFile 7 none 5 := ⟨k_807, k_28, k_39, k_808, by decide +kernel⟩
theorem mv_Md_read : fr_MV y_Md_read "FetchRulesModel" b_Md_read 12 (some .int) 3 := ⟨k_792, k_25, k_39, k_793, by decide +kernel⟩
end
section
/-! THE STATE OF A SIDE as functions: kinds of cells, int fields, reference fields, int arrays, reference arrays; field by field, address by address -/
abbrev fr_K : Type := Nat ⊕ (Nat × Nat)
abbrev fr_S : Type := (Nat → Option fr_K) × (Nat → Nat → Int32) × (Nat → Nat → Option Nat) × (Nat → Nat → Int32) × (Nat → Nat → Option Nat)
def gK (σ : fr_S) (a : Nat) : Option fr_K := σ.1 a
def gI (σ : fr_S) (f a : Nat) : Int32 := σ.2.1 f a
def gP (σ : fr_S) (f a : Nat) : Option Nat := σ.2.2.1 f a
def gV (σ : fr_S) (a : Nat) : Nat → Int32 := σ.2.2.2.1 a
def gQ (σ : fr_S) (a : Nat) : Nat → Option Nat := σ.2.2.2.2 a
def pI (σ : fr_S) (f a : Nat) (v : Int32) : fr_S := (σ.1, (fun g b => if g = f ∧ b = a then v else σ.2.1 g b), σ.2.2)
def pP (σ : fr_S) (f a : Nat) (v : Option Nat) : fr_S := (σ.1, σ.2.1, (fun g b => if g = f ∧ b = a then v else σ.2.2.1 g b), σ.2.2.2)
def pA (σ : fr_S) (a : Nat) (u : Nat → Int32) : fr_S := (σ.1, σ.2.1, σ.2.2.1, (fun b => if b = a then u else σ.2.2.2.1 b), σ.2.2.2.2)
def pB (σ : fr_S) (a : Nat) (u : Nat → Option Nat) : fr_S := (σ.1, σ.2.1, σ.2.2.1, σ.2.2.2.1, (fun b => if b = a then u else σ.2.2.2.2 b))
/-- a new cell at a: its kind; all that it holds is 0, or nothing -/
def pN (σ : fr_S) (a : Nat) (k : fr_K) : fr_S := ((fun b => if b = a then some k else σ.1 b), (fun g b => if b = a then 0 else σ.2.1 g b), (fun g b => if b = a then none else σ.2.2.1 g b), (fun b => if b = a then (fun _ => 0) else σ.2.2.2.1 b), (fun b => if b = a then (fun _ => none) else σ.2.2.2.2 b))
theorem fr_bind {α β : Type} {o : Option α} {f : α → Option β} {b : β} (h : o.bind f = some b) : ∃ a, o = some a ∧ f a = some b := by
  cases o with
  | none => simp at h
  | some a => exact ⟨a, rfl, h⟩
theorem fr_ift {α : Type} {c : Prop} {hd : Decidable c} {a b x : α} (hc : c) (h : (if c then a else b) = x) : a = x := by rw [if_pos hc] at h; exact h
theorem fr_iff {α : Type} {c : Prop} {hd : Decidable c} {a b x : α} (hc : ¬ c) (h : (if c then a else b) = x) : b = x := by rw [if_neg hc] at h; exact h
/-! what an instruction of the heap does, or nothing where the machine would throw, or the kinds don't fit -/
def oK (σ : fr_S) (ci a : Nat) : Option Unit := if gK σ a = some (.inl ci) then some () else none
def oI (σ : fr_S) (ci f a : Nat) : Option Int32 := if gK σ a = some (.inl ci) then some (gI σ f a) else none
def oP (σ : fr_S) (ci f a : Nat) : Option Nat := if gK σ a = some (.inl ci) then gP σ f a else none
def sI (σ : fr_S) (ci f a : Nat) (v : Int32) : Option fr_S := if gK σ a = some (.inl ci) then some (pI σ f a v) else none
def sZ (σ : fr_S) (ci f a : Nat) (v : Int32) : Option fr_S := if gK σ a = some (.inl ci) ∧ (v = 0 ∨ v = 1) then some (pI σ f a v) else none
def sP (σ : fr_S) (ci f a : Nat) (r : Nat) : Option fr_S := if gK σ a = some (.inl ci) then some (pP σ f a (some r)) else none
def oZ (v : Int32) : Option Unit := if v = 0 ∨ v = 1 then some () else none
def oNZ (v : Int32) : Option Unit := if v = 0 then none else some ()
def oN (σ : fr_S) (t a : Nat) : Option Int32 := match gK σ a with
  | some (.inr (t', n)) => if t' = t then some (Int32.ofNat n) else none
  | _ => none
def oV (σ : fr_S) (t a : Nat) (i : Int32) : Option Int32 := match gK σ a with
  | some (.inr (t', n)) => if t' = t ∧ ¬ (i < 0 ∨ n ≤ i.toNatClampNeg) then some (gV σ a i.toNatClampNeg) else none
  | _ => none
def oQ (σ : fr_S) (t a : Nat) (i : Int32) : Option Nat := match gK σ a with
  | some (.inr (t', n)) => if t' = t ∧ ¬ (i < 0 ∨ n ≤ i.toNatClampNeg) then gQ σ a i.toNatClampNeg else none
  | _ => none
def sV (σ : fr_S) (t a : Nat) (i v : Int32) : Option fr_S := match gK σ a with
  | some (.inr (t', n)) => if t' = t ∧ ¬ (i < 0 ∨ n ≤ i.toNatClampNeg) then some (pA σ a (upd (gV σ a) i.toNatClampNeg v)) else none
  | _ => none
def sQ (σ : fr_S) (t ci a : Nat) (i : Int32) (r : Nat) : Option fr_S := match gK σ a with
  | some (.inr (t', n)) => if (t' = t ∧ gK σ r = some (.inl ci)) ∧ ¬ (i < 0 ∨ n ≤ i.toNatClampNeg) then some (pB σ a (va_up (gQ σ a) i.toNatClampNeg (some r))) else none
  | _ => none
/-- System.arraycopy of ints -/
def sC (σ : fr_S) (a0 : Nat) (sp : Int32) (a : Nat) (dp n : Int32) : Option fr_S := match gK σ a0, gK σ a with
  | some (.inr (t0, n0)), some (.inr (t1, n1)) => if (t0 = 0 ∧ t1 = 0) ∧ (¬ sp < 0 ∧ ¬ dp < 0 ∧ ¬ n < 0) ∧ sp.toNatClampNeg + n.toNatClampNeg ≤ n0 ∧ dp.toNatClampNeg + n.toNatClampNeg ≤ n1 then some (pA σ a (va_cpy (gV σ a0) (gV σ a) sp.toNatClampNeg dp.toNatClampNeg n.toNatClampNeg)) else none
  | _, _ => none
def fr_ushr (x y : Int32) : Int32 := (x.toUInt32 >>> (y.toUInt32 &&& Int32.toUInt32 31)).toInt32
def fr_lushr (x : Int64) (y : Int32) : Int64 := (x.toUInt64 >>> (y.toInt64.toUInt64 &&& Int64.toUInt64 63)).toInt64
theorem oK_inv {σ : fr_S} {ci a : Nat} {u : Unit} (h : oK σ ci a = some u) : gK σ a = some (.inl ci) := by
  unfold oK at h
  by_cases hk : gK σ a = some (.inl ci)
  · exact hk
  · rw [if_neg hk] at h; cases h
theorem oI_inv {σ : fr_S} {ci f a : Nat} {v : Int32} (h : oI σ ci f a = some v) : gK σ a = some (.inl ci) ∧ gI σ f a = v := by
  unfold oI at h
  by_cases hk : gK σ a = some (.inl ci)
  · rw [if_pos hk] at h; exact ⟨hk, Option.some.inj h⟩
  · rw [if_neg hk] at h; cases h
theorem oP_inv {σ : fr_S} {ci f a r : Nat} (h : oP σ ci f a = some r) : gK σ a = some (.inl ci) ∧ gP σ f a = some r := by
  unfold oP at h
  by_cases hk : gK σ a = some (.inl ci)
  · rw [if_pos hk] at h; exact ⟨hk, h⟩
  · rw [if_neg hk] at h; cases h
theorem sI_inv {σ σ1 : fr_S} {ci f a : Nat} {v : Int32} (h : sI σ ci f a v = some σ1) : gK σ a = some (.inl ci) ∧ pI σ f a v = σ1 := by
  unfold sI at h
  by_cases hk : gK σ a = some (.inl ci)
  · rw [if_pos hk] at h; exact ⟨hk, Option.some.inj h⟩
  · rw [if_neg hk] at h; cases h
theorem sZ_inv {σ σ1 : fr_S} {ci f a : Nat} {v : Int32} (h : sZ σ ci f a v = some σ1) : gK σ a = some (.inl ci) ∧ (v = 0 ∨ v = 1) ∧ pI σ f a v = σ1 := by
  unfold sZ at h
  by_cases hk : gK σ a = some (.inl ci) ∧ (v = 0 ∨ v = 1)
  · rw [if_pos hk] at h; exact ⟨hk.1, hk.2, Option.some.inj h⟩
  · rw [if_neg hk] at h; cases h
theorem sP_inv {σ σ1 : fr_S} {ci f a r : Nat} (h : sP σ ci f a r = some σ1) : gK σ a = some (.inl ci) ∧ pP σ f a (some r) = σ1 := by
  unfold sP at h
  by_cases hk : gK σ a = some (.inl ci)
  · rw [if_pos hk] at h; exact ⟨hk, Option.some.inj h⟩
  · rw [if_neg hk] at h; cases h
theorem oZ_inv {v : Int32} {u : Unit} (h : oZ v = some u) : v = 0 ∨ v = 1 := by
  unfold oZ at h
  by_cases hk : v = 0 ∨ v = 1
  · exact hk
  · rw [if_neg hk] at h; cases h
theorem oNZ_inv {v : Int32} {u : Unit} (h : oNZ v = some u) : ¬ v = 0 := by
  unfold oNZ at h
  by_cases hk : v = 0
  · rw [if_pos hk] at h; cases h
  · exact hk
theorem oN_inv {σ : fr_S} {t a : Nat} {v : Int32} (h : oN σ t a = some v) : ∃ n : Nat, gK σ a = some (.inr (t, n)) ∧ Int32.ofNat n = v := by
  unfold oN at h
  split at h
  · next t' n hk =>
    by_cases hh : t' = t
    · rw [if_pos hh] at h; exact ⟨n, by rw [hk, hh], Option.some.inj h⟩
    · rw [if_neg hh] at h; cases h
  · cases h
theorem oV_inv {σ : fr_S} {t a : Nat} {i v : Int32} (h : oV σ t a i = some v) : ∃ n : Nat, gK σ a = some (.inr (t, n)) ∧ vp_in i n ∧ gV σ a i.toNatClampNeg = v := by
  unfold oV at h
  split at h
  · next t' n hk =>
    by_cases hh : t' = t ∧ ¬ (i < 0 ∨ n ≤ i.toNatClampNeg)
    · rw [if_pos hh] at h; exact ⟨n, by rw [hk, hh.1], hh.2, Option.some.inj h⟩
    · rw [if_neg hh] at h; cases h
  · cases h
theorem oQ_inv {σ : fr_S} {t a r : Nat} {i : Int32} (h : oQ σ t a i = some r) : ∃ n : Nat, gK σ a = some (.inr (t, n)) ∧ vp_in i n ∧ gQ σ a i.toNatClampNeg = some r := by
  unfold oQ at h
  split at h
  · next t' n hk =>
    by_cases hh : t' = t ∧ ¬ (i < 0 ∨ n ≤ i.toNatClampNeg)
    · rw [if_pos hh] at h; exact ⟨n, by rw [hk, hh.1], hh.2, h⟩
    · rw [if_neg hh] at h; cases h
  · cases h
theorem sV_inv {σ σ1 : fr_S} {t a : Nat} {i v : Int32} (h : sV σ t a i v = some σ1) : ∃ n : Nat, gK σ a = some (.inr (t, n)) ∧ vp_in i n ∧ pA σ a (upd (gV σ a) i.toNatClampNeg v) = σ1 := by
  unfold sV at h
  split at h
  · next t' n hk =>
    by_cases hh : t' = t ∧ ¬ (i < 0 ∨ n ≤ i.toNatClampNeg)
    · rw [if_pos hh] at h; exact ⟨n, by rw [hk, hh.1], hh.2, Option.some.inj h⟩
    · rw [if_neg hh] at h; cases h
  · cases h
theorem sQ_inv {σ σ1 : fr_S} {t ci a r : Nat} {i : Int32} (h : sQ σ t ci a i r = some σ1) : ∃ n : Nat, gK σ a = some (.inr (t, n)) ∧ gK σ r = some (.inl ci) ∧ vp_in i n ∧ pB σ a (va_up (gQ σ a) i.toNatClampNeg (some r)) = σ1 := by
  unfold sQ at h
  split at h
  · next t' n hk =>
    by_cases hh : (t' = t ∧ gK σ r = some (.inl ci)) ∧ ¬ (i < 0 ∨ n ≤ i.toNatClampNeg)
    · rw [if_pos hh] at h; exact ⟨n, by rw [hk, hh.1.1], hh.1.2, hh.2, Option.some.inj h⟩
    · rw [if_neg hh] at h; cases h
  · cases h
theorem sC_inv {σ σ1 : fr_S} {a0 a : Nat} {sp dp n : Int32} (h : sC σ a0 sp a dp n = some σ1) : ∃ n0 n1 : Nat, gK σ a0 = some (.inr (0, n0)) ∧ gK σ a = some (.inr (0, n1)) ∧ (¬ sp < 0 ∧ ¬ dp < 0 ∧ ¬ n < 0) ∧ sp.toNatClampNeg + n.toNatClampNeg ≤ n0 ∧ dp.toNatClampNeg + n.toNatClampNeg ≤ n1 ∧ pA σ a (va_cpy (gV σ a0) (gV σ a) sp.toNatClampNeg dp.toNatClampNeg n.toNatClampNeg) = σ1 := by
  unfold sC at h
  split at h
  · next t0 n0 t1 n1 hk0 hk1 =>
    by_cases hh : (t0 = 0 ∧ t1 = 0) ∧ (¬ sp < 0 ∧ ¬ dp < 0 ∧ ¬ n < 0) ∧ sp.toNatClampNeg + n.toNatClampNeg ≤ n0 ∧ dp.toNatClampNeg + n.toNatClampNeg ≤ n1
    · rw [if_pos hh] at h; exact ⟨n0, n1, by rw [hk0, hh.1.1], by rw [hk1, hh.1.2], hh.2.1, hh.2.2.1, hh.2.2.2, Option.some.inj h⟩
    · rw [if_neg hh] at h; cases h
  · cases h
/-- the fields of an object, in the order of the slots -/
def fr_fl (σ : fr_S) (ci a : Nat) : List Value := match ci with
  | 0 => [.int (gI σ 0 a), va_rf (gP σ 1 a), va_rf (gP σ 2 a), va_rf (gP σ 3 a), .int (gI σ 4 a), va_rf (gP σ 5 a), .int (gI σ 6 a), va_rf (gP σ 7 a), va_rf (gP σ 8 a), va_rf (gP σ 9 a), .int (gI σ 10 a), va_rf (gP σ 11 a), .int (gI σ 12 a), .int (gI σ 13 a)]
  | 1 => [va_rf (gP σ 64 a), va_rf (gP σ 65 a), va_rf (gP σ 66 a), va_rf (gP σ 67 a), .int (gI σ 68 a)]
  | 2 => [va_rf (gP σ 128 a), .int (gI σ 129 a), .int (gI σ 130 a), .int (gI σ 131 a), .int (gI σ 132 a), .int (gI σ 133 a), .int (gI σ 134 a), .int (gI σ 135 a), .int (gI σ 136 a), .int (gI σ 137 a)]
  | 3 => [va_rf (gP σ 192 a), .int (gI σ 193 a)]
  | 4 => [va_rf (gP σ 256 a), va_rf (gP σ 257 a), .int (gI σ 258 a)]
  | 5 => [va_rf (gP σ 320 a), va_rf (gP σ 321 a), va_rf (gP σ 322 a), .int (gI σ 323 a)]
  | 6 => [va_rf (gP σ 384 a), va_rf (gP σ 385 a), .int (gI σ 386 a), .int (gI σ 387 a), .int (gI σ 388 a), .int (gI σ 389 a), .int (gI σ 390 a), .int (gI σ 391 a), .int (gI σ 392 a)]
  | 7 => [.int (gI σ 448 a), .int (gI σ 449 a), .int (gI σ 450 a), .int (gI σ 451 a), va_rf (gP σ 452 a), va_rf (gP σ 453 a), .int (gI σ 454 a), .int (gI σ 455 a), .int (gI σ 456 a), .int (gI σ 457 a), .int (gI σ 458 a), va_rf (gP σ 459 a), va_rf (gP σ 460 a), va_rf (gP σ 461 a), va_rf (gP σ 462 a), va_rf (gP σ 463 a), va_rf (gP σ 464 a), va_rf (gP σ 465 a), va_rf (gP σ 466 a), va_rf (gP σ 467 a), va_rf (gP σ 468 a), va_rf (gP σ 469 a), va_rf (gP σ 470 a), va_rf (gP σ 471 a), va_rf (gP σ 472 a), va_rf (gP σ 473 a), va_rf (gP σ 474 a), va_rf (gP σ 475 a), va_rf (gP σ 476 a), va_rf (gP σ 477 a), va_rf (gP σ 478 a), va_rf (gP σ 479 a), va_rf (gP σ 480 a), va_rf (gP σ 481 a), va_rf (gP σ 482 a), va_rf (gP σ 483 a), va_rf (gP σ 484 a), va_rf (gP σ 485 a), va_rf (gP σ 486 a), .int (gI σ 487 a), va_rf (gP σ 488 a), va_rf (gP σ 489 a), va_rf (gP σ 490 a), va_rf (gP σ 491 a)]
  | _ => []
theorem fs_0_0 (σ : fr_S) (a : Nat) (v : Int32) : (fr_fl σ 0 a).set 0 (.int v) = fr_fl (pI σ 0 a v) 0 a := by simp [fr_fl, gI, gP, pI]
theorem fs_0_1 (σ : fr_S) (a r : Nat) : (fr_fl σ 0 a).set 1 (.ref r) = fr_fl (pP σ 1 a (some r)) 0 a := by simp [fr_fl, gI, gP, pP, va_rf]
theorem fs_0_2 (σ : fr_S) (a r : Nat) : (fr_fl σ 0 a).set 2 (.ref r) = fr_fl (pP σ 2 a (some r)) 0 a := by simp [fr_fl, gI, gP, pP, va_rf]
theorem fs_0_3 (σ : fr_S) (a r : Nat) : (fr_fl σ 0 a).set 3 (.ref r) = fr_fl (pP σ 3 a (some r)) 0 a := by simp [fr_fl, gI, gP, pP, va_rf]
theorem fs_0_4 (σ : fr_S) (a : Nat) (v : Int32) : (fr_fl σ 0 a).set 4 (.int v) = fr_fl (pI σ 4 a v) 0 a := by simp [fr_fl, gI, gP, pI]
theorem fs_0_5 (σ : fr_S) (a r : Nat) : (fr_fl σ 0 a).set 5 (.ref r) = fr_fl (pP σ 5 a (some r)) 0 a := by simp [fr_fl, gI, gP, pP, va_rf]
theorem fs_0_6 (σ : fr_S) (a : Nat) (v : Int32) : (fr_fl σ 0 a).set 6 (.int v) = fr_fl (pI σ 6 a v) 0 a := by simp [fr_fl, gI, gP, pI]
theorem fs_0_7 (σ : fr_S) (a r : Nat) : (fr_fl σ 0 a).set 7 (.ref r) = fr_fl (pP σ 7 a (some r)) 0 a := by simp [fr_fl, gI, gP, pP, va_rf]
theorem fs_0_8 (σ : fr_S) (a r : Nat) : (fr_fl σ 0 a).set 8 (.ref r) = fr_fl (pP σ 8 a (some r)) 0 a := by simp [fr_fl, gI, gP, pP, va_rf]
theorem fs_0_9 (σ : fr_S) (a r : Nat) : (fr_fl σ 0 a).set 9 (.ref r) = fr_fl (pP σ 9 a (some r)) 0 a := by simp [fr_fl, gI, gP, pP, va_rf]
theorem fs_0_10 (σ : fr_S) (a : Nat) (v : Int32) : (fr_fl σ 0 a).set 10 (.int v) = fr_fl (pI σ 10 a v) 0 a := by simp [fr_fl, gI, gP, pI]
theorem fs_0_11 (σ : fr_S) (a r : Nat) : (fr_fl σ 0 a).set 11 (.ref r) = fr_fl (pP σ 11 a (some r)) 0 a := by simp [fr_fl, gI, gP, pP, va_rf]
theorem fs_0_12 (σ : fr_S) (a : Nat) (v : Int32) : (fr_fl σ 0 a).set 12 (.int v) = fr_fl (pI σ 12 a v) 0 a := by simp [fr_fl, gI, gP, pI]
theorem fs_0_13 (σ : fr_S) (a : Nat) (v : Int32) : (fr_fl σ 0 a).set 13 (.int v) = fr_fl (pI σ 13 a v) 0 a := by simp [fr_fl, gI, gP, pI]
theorem fs_1_0 (σ : fr_S) (a r : Nat) : (fr_fl σ 1 a).set 0 (.ref r) = fr_fl (pP σ 64 a (some r)) 1 a := by simp [fr_fl, gI, gP, pP, va_rf]
theorem fs_1_1 (σ : fr_S) (a r : Nat) : (fr_fl σ 1 a).set 1 (.ref r) = fr_fl (pP σ 65 a (some r)) 1 a := by simp [fr_fl, gI, gP, pP, va_rf]
theorem fs_1_2 (σ : fr_S) (a r : Nat) : (fr_fl σ 1 a).set 2 (.ref r) = fr_fl (pP σ 66 a (some r)) 1 a := by simp [fr_fl, gI, gP, pP, va_rf]
theorem fs_1_3 (σ : fr_S) (a r : Nat) : (fr_fl σ 1 a).set 3 (.ref r) = fr_fl (pP σ 67 a (some r)) 1 a := by simp [fr_fl, gI, gP, pP, va_rf]
theorem fs_1_4 (σ : fr_S) (a : Nat) (v : Int32) : (fr_fl σ 1 a).set 4 (.int v) = fr_fl (pI σ 68 a v) 1 a := by simp [fr_fl, gI, gP, pI]
theorem fs_2_0 (σ : fr_S) (a r : Nat) : (fr_fl σ 2 a).set 0 (.ref r) = fr_fl (pP σ 128 a (some r)) 2 a := by simp [fr_fl, gI, gP, pP, va_rf]
theorem fs_2_1 (σ : fr_S) (a : Nat) (v : Int32) : (fr_fl σ 2 a).set 1 (.int v) = fr_fl (pI σ 129 a v) 2 a := by simp [fr_fl, gI, gP, pI]
theorem fs_2_2 (σ : fr_S) (a : Nat) (v : Int32) : (fr_fl σ 2 a).set 2 (.int v) = fr_fl (pI σ 130 a v) 2 a := by simp [fr_fl, gI, gP, pI]
theorem fs_2_3 (σ : fr_S) (a : Nat) (v : Int32) : (fr_fl σ 2 a).set 3 (.int v) = fr_fl (pI σ 131 a v) 2 a := by simp [fr_fl, gI, gP, pI]
theorem fs_2_4 (σ : fr_S) (a : Nat) (v : Int32) : (fr_fl σ 2 a).set 4 (.int v) = fr_fl (pI σ 132 a v) 2 a := by simp [fr_fl, gI, gP, pI]
theorem fs_2_5 (σ : fr_S) (a : Nat) (v : Int32) : (fr_fl σ 2 a).set 5 (.int v) = fr_fl (pI σ 133 a v) 2 a := by simp [fr_fl, gI, gP, pI]
theorem fs_2_6 (σ : fr_S) (a : Nat) (v : Int32) : (fr_fl σ 2 a).set 6 (.int v) = fr_fl (pI σ 134 a v) 2 a := by simp [fr_fl, gI, gP, pI]
theorem fs_2_7 (σ : fr_S) (a : Nat) (v : Int32) : (fr_fl σ 2 a).set 7 (.int v) = fr_fl (pI σ 135 a v) 2 a := by simp [fr_fl, gI, gP, pI]
theorem fs_2_8 (σ : fr_S) (a : Nat) (v : Int32) : (fr_fl σ 2 a).set 8 (.int v) = fr_fl (pI σ 136 a v) 2 a := by simp [fr_fl, gI, gP, pI]
theorem fs_2_9 (σ : fr_S) (a : Nat) (v : Int32) : (fr_fl σ 2 a).set 9 (.int v) = fr_fl (pI σ 137 a v) 2 a := by simp [fr_fl, gI, gP, pI]
theorem fs_3_0 (σ : fr_S) (a r : Nat) : (fr_fl σ 3 a).set 0 (.ref r) = fr_fl (pP σ 192 a (some r)) 3 a := by simp [fr_fl, gI, gP, pP, va_rf]
theorem fs_3_1 (σ : fr_S) (a : Nat) (v : Int32) : (fr_fl σ 3 a).set 1 (.int v) = fr_fl (pI σ 193 a v) 3 a := by simp [fr_fl, gI, gP, pI]
theorem fs_4_0 (σ : fr_S) (a r : Nat) : (fr_fl σ 4 a).set 0 (.ref r) = fr_fl (pP σ 256 a (some r)) 4 a := by simp [fr_fl, gI, gP, pP, va_rf]
theorem fs_4_1 (σ : fr_S) (a r : Nat) : (fr_fl σ 4 a).set 1 (.ref r) = fr_fl (pP σ 257 a (some r)) 4 a := by simp [fr_fl, gI, gP, pP, va_rf]
theorem fs_4_2 (σ : fr_S) (a : Nat) (v : Int32) : (fr_fl σ 4 a).set 2 (.int v) = fr_fl (pI σ 258 a v) 4 a := by simp [fr_fl, gI, gP, pI]
theorem fs_5_0 (σ : fr_S) (a r : Nat) : (fr_fl σ 5 a).set 0 (.ref r) = fr_fl (pP σ 320 a (some r)) 5 a := by simp [fr_fl, gI, gP, pP, va_rf]
theorem fs_5_1 (σ : fr_S) (a r : Nat) : (fr_fl σ 5 a).set 1 (.ref r) = fr_fl (pP σ 321 a (some r)) 5 a := by simp [fr_fl, gI, gP, pP, va_rf]
theorem fs_5_2 (σ : fr_S) (a r : Nat) : (fr_fl σ 5 a).set 2 (.ref r) = fr_fl (pP σ 322 a (some r)) 5 a := by simp [fr_fl, gI, gP, pP, va_rf]
theorem fs_5_3 (σ : fr_S) (a : Nat) (v : Int32) : (fr_fl σ 5 a).set 3 (.int v) = fr_fl (pI σ 323 a v) 5 a := by simp [fr_fl, gI, gP, pI]
theorem fs_6_0 (σ : fr_S) (a r : Nat) : (fr_fl σ 6 a).set 0 (.ref r) = fr_fl (pP σ 384 a (some r)) 6 a := by simp [fr_fl, gI, gP, pP, va_rf]
theorem fs_6_1 (σ : fr_S) (a r : Nat) : (fr_fl σ 6 a).set 1 (.ref r) = fr_fl (pP σ 385 a (some r)) 6 a := by simp [fr_fl, gI, gP, pP, va_rf]
theorem fs_6_2 (σ : fr_S) (a : Nat) (v : Int32) : (fr_fl σ 6 a).set 2 (.int v) = fr_fl (pI σ 386 a v) 6 a := by simp [fr_fl, gI, gP, pI]
theorem fs_6_3 (σ : fr_S) (a : Nat) (v : Int32) : (fr_fl σ 6 a).set 3 (.int v) = fr_fl (pI σ 387 a v) 6 a := by simp [fr_fl, gI, gP, pI]
theorem fs_6_4 (σ : fr_S) (a : Nat) (v : Int32) : (fr_fl σ 6 a).set 4 (.int v) = fr_fl (pI σ 388 a v) 6 a := by simp [fr_fl, gI, gP, pI]
theorem fs_6_5 (σ : fr_S) (a : Nat) (v : Int32) : (fr_fl σ 6 a).set 5 (.int v) = fr_fl (pI σ 389 a v) 6 a := by simp [fr_fl, gI, gP, pI]
theorem fs_6_6 (σ : fr_S) (a : Nat) (v : Int32) : (fr_fl σ 6 a).set 6 (.int v) = fr_fl (pI σ 390 a v) 6 a := by simp [fr_fl, gI, gP, pI]
theorem fs_6_7 (σ : fr_S) (a : Nat) (v : Int32) : (fr_fl σ 6 a).set 7 (.int v) = fr_fl (pI σ 391 a v) 6 a := by simp [fr_fl, gI, gP, pI]
theorem fs_6_8 (σ : fr_S) (a : Nat) (v : Int32) : (fr_fl σ 6 a).set 8 (.int v) = fr_fl (pI σ 392 a v) 6 a := by simp [fr_fl, gI, gP, pI]
theorem fs_7_0 (σ : fr_S) (a : Nat) (v : Int32) : (fr_fl σ 7 a).set 0 (.int v) = fr_fl (pI σ 448 a v) 7 a := by simp [fr_fl, gI, gP, pI]
theorem fs_7_1 (σ : fr_S) (a : Nat) (v : Int32) : (fr_fl σ 7 a).set 1 (.int v) = fr_fl (pI σ 449 a v) 7 a := by simp [fr_fl, gI, gP, pI]
theorem fs_7_2 (σ : fr_S) (a : Nat) (v : Int32) : (fr_fl σ 7 a).set 2 (.int v) = fr_fl (pI σ 450 a v) 7 a := by simp [fr_fl, gI, gP, pI]
theorem fs_7_3 (σ : fr_S) (a : Nat) (v : Int32) : (fr_fl σ 7 a).set 3 (.int v) = fr_fl (pI σ 451 a v) 7 a := by simp [fr_fl, gI, gP, pI]
theorem fs_7_4 (σ : fr_S) (a r : Nat) : (fr_fl σ 7 a).set 4 (.ref r) = fr_fl (pP σ 452 a (some r)) 7 a := by simp [fr_fl, gI, gP, pP, va_rf]
theorem fs_7_5 (σ : fr_S) (a r : Nat) : (fr_fl σ 7 a).set 5 (.ref r) = fr_fl (pP σ 453 a (some r)) 7 a := by simp [fr_fl, gI, gP, pP, va_rf]
theorem fs_7_6 (σ : fr_S) (a : Nat) (v : Int32) : (fr_fl σ 7 a).set 6 (.int v) = fr_fl (pI σ 454 a v) 7 a := by simp [fr_fl, gI, gP, pI]
theorem fs_7_7 (σ : fr_S) (a : Nat) (v : Int32) : (fr_fl σ 7 a).set 7 (.int v) = fr_fl (pI σ 455 a v) 7 a := by simp [fr_fl, gI, gP, pI]
theorem fs_7_8 (σ : fr_S) (a : Nat) (v : Int32) : (fr_fl σ 7 a).set 8 (.int v) = fr_fl (pI σ 456 a v) 7 a := by simp [fr_fl, gI, gP, pI]
theorem fs_7_9 (σ : fr_S) (a : Nat) (v : Int32) : (fr_fl σ 7 a).set 9 (.int v) = fr_fl (pI σ 457 a v) 7 a := by simp [fr_fl, gI, gP, pI]
theorem fs_7_10 (σ : fr_S) (a : Nat) (v : Int32) : (fr_fl σ 7 a).set 10 (.int v) = fr_fl (pI σ 458 a v) 7 a := by simp [fr_fl, gI, gP, pI]
theorem fs_7_11 (σ : fr_S) (a r : Nat) : (fr_fl σ 7 a).set 11 (.ref r) = fr_fl (pP σ 459 a (some r)) 7 a := by simp [fr_fl, gI, gP, pP, va_rf]
theorem fs_7_12 (σ : fr_S) (a r : Nat) : (fr_fl σ 7 a).set 12 (.ref r) = fr_fl (pP σ 460 a (some r)) 7 a := by simp [fr_fl, gI, gP, pP, va_rf]
theorem fs_7_13 (σ : fr_S) (a r : Nat) : (fr_fl σ 7 a).set 13 (.ref r) = fr_fl (pP σ 461 a (some r)) 7 a := by simp [fr_fl, gI, gP, pP, va_rf]
theorem fs_7_14 (σ : fr_S) (a r : Nat) : (fr_fl σ 7 a).set 14 (.ref r) = fr_fl (pP σ 462 a (some r)) 7 a := by simp [fr_fl, gI, gP, pP, va_rf]
theorem fs_7_15 (σ : fr_S) (a r : Nat) : (fr_fl σ 7 a).set 15 (.ref r) = fr_fl (pP σ 463 a (some r)) 7 a := by simp [fr_fl, gI, gP, pP, va_rf]
theorem fs_7_16 (σ : fr_S) (a r : Nat) : (fr_fl σ 7 a).set 16 (.ref r) = fr_fl (pP σ 464 a (some r)) 7 a := by simp [fr_fl, gI, gP, pP, va_rf]
theorem fs_7_17 (σ : fr_S) (a r : Nat) : (fr_fl σ 7 a).set 17 (.ref r) = fr_fl (pP σ 465 a (some r)) 7 a := by simp [fr_fl, gI, gP, pP, va_rf]
theorem fs_7_18 (σ : fr_S) (a r : Nat) : (fr_fl σ 7 a).set 18 (.ref r) = fr_fl (pP σ 466 a (some r)) 7 a := by simp [fr_fl, gI, gP, pP, va_rf]
theorem fs_7_19 (σ : fr_S) (a r : Nat) : (fr_fl σ 7 a).set 19 (.ref r) = fr_fl (pP σ 467 a (some r)) 7 a := by simp [fr_fl, gI, gP, pP, va_rf]
theorem fs_7_20 (σ : fr_S) (a r : Nat) : (fr_fl σ 7 a).set 20 (.ref r) = fr_fl (pP σ 468 a (some r)) 7 a := by simp [fr_fl, gI, gP, pP, va_rf]
theorem fs_7_21 (σ : fr_S) (a r : Nat) : (fr_fl σ 7 a).set 21 (.ref r) = fr_fl (pP σ 469 a (some r)) 7 a := by simp [fr_fl, gI, gP, pP, va_rf]
theorem fs_7_22 (σ : fr_S) (a r : Nat) : (fr_fl σ 7 a).set 22 (.ref r) = fr_fl (pP σ 470 a (some r)) 7 a := by simp [fr_fl, gI, gP, pP, va_rf]
theorem fs_7_23 (σ : fr_S) (a r : Nat) : (fr_fl σ 7 a).set 23 (.ref r) = fr_fl (pP σ 471 a (some r)) 7 a := by simp [fr_fl, gI, gP, pP, va_rf]
theorem fs_7_24 (σ : fr_S) (a r : Nat) : (fr_fl σ 7 a).set 24 (.ref r) = fr_fl (pP σ 472 a (some r)) 7 a := by simp [fr_fl, gI, gP, pP, va_rf]
theorem fs_7_25 (σ : fr_S) (a r : Nat) : (fr_fl σ 7 a).set 25 (.ref r) = fr_fl (pP σ 473 a (some r)) 7 a := by simp [fr_fl, gI, gP, pP, va_rf]
theorem fs_7_26 (σ : fr_S) (a r : Nat) : (fr_fl σ 7 a).set 26 (.ref r) = fr_fl (pP σ 474 a (some r)) 7 a := by simp [fr_fl, gI, gP, pP, va_rf]
theorem fs_7_27 (σ : fr_S) (a r : Nat) : (fr_fl σ 7 a).set 27 (.ref r) = fr_fl (pP σ 475 a (some r)) 7 a := by simp [fr_fl, gI, gP, pP, va_rf]
theorem fs_7_28 (σ : fr_S) (a r : Nat) : (fr_fl σ 7 a).set 28 (.ref r) = fr_fl (pP σ 476 a (some r)) 7 a := by simp [fr_fl, gI, gP, pP, va_rf]
theorem fs_7_29 (σ : fr_S) (a r : Nat) : (fr_fl σ 7 a).set 29 (.ref r) = fr_fl (pP σ 477 a (some r)) 7 a := by simp [fr_fl, gI, gP, pP, va_rf]
theorem fs_7_30 (σ : fr_S) (a r : Nat) : (fr_fl σ 7 a).set 30 (.ref r) = fr_fl (pP σ 478 a (some r)) 7 a := by simp [fr_fl, gI, gP, pP, va_rf]
theorem fs_7_31 (σ : fr_S) (a r : Nat) : (fr_fl σ 7 a).set 31 (.ref r) = fr_fl (pP σ 479 a (some r)) 7 a := by simp [fr_fl, gI, gP, pP, va_rf]
theorem fs_7_32 (σ : fr_S) (a r : Nat) : (fr_fl σ 7 a).set 32 (.ref r) = fr_fl (pP σ 480 a (some r)) 7 a := by simp [fr_fl, gI, gP, pP, va_rf]
theorem fs_7_33 (σ : fr_S) (a r : Nat) : (fr_fl σ 7 a).set 33 (.ref r) = fr_fl (pP σ 481 a (some r)) 7 a := by simp [fr_fl, gI, gP, pP, va_rf]
theorem fs_7_34 (σ : fr_S) (a r : Nat) : (fr_fl σ 7 a).set 34 (.ref r) = fr_fl (pP σ 482 a (some r)) 7 a := by simp [fr_fl, gI, gP, pP, va_rf]
theorem fs_7_35 (σ : fr_S) (a r : Nat) : (fr_fl σ 7 a).set 35 (.ref r) = fr_fl (pP σ 483 a (some r)) 7 a := by simp [fr_fl, gI, gP, pP, va_rf]
theorem fs_7_36 (σ : fr_S) (a r : Nat) : (fr_fl σ 7 a).set 36 (.ref r) = fr_fl (pP σ 484 a (some r)) 7 a := by simp [fr_fl, gI, gP, pP, va_rf]
theorem fs_7_37 (σ : fr_S) (a r : Nat) : (fr_fl σ 7 a).set 37 (.ref r) = fr_fl (pP σ 485 a (some r)) 7 a := by simp [fr_fl, gI, gP, pP, va_rf]
theorem fs_7_38 (σ : fr_S) (a r : Nat) : (fr_fl σ 7 a).set 38 (.ref r) = fr_fl (pP σ 486 a (some r)) 7 a := by simp [fr_fl, gI, gP, pP, va_rf]
theorem fs_7_39 (σ : fr_S) (a : Nat) (v : Int32) : (fr_fl σ 7 a).set 39 (.int v) = fr_fl (pI σ 487 a v) 7 a := by simp [fr_fl, gI, gP, pI]
theorem fs_7_40 (σ : fr_S) (a r : Nat) : (fr_fl σ 7 a).set 40 (.ref r) = fr_fl (pP σ 488 a (some r)) 7 a := by simp [fr_fl, gI, gP, pP, va_rf]
theorem fs_7_41 (σ : fr_S) (a r : Nat) : (fr_fl σ 7 a).set 41 (.ref r) = fr_fl (pP σ 489 a (some r)) 7 a := by simp [fr_fl, gI, gP, pP, va_rf]
theorem fs_7_42 (σ : fr_S) (a r : Nat) : (fr_fl σ 7 a).set 42 (.ref r) = fr_fl (pP σ 490 a (some r)) 7 a := by simp [fr_fl, gI, gP, pP, va_rf]
theorem fs_7_43 (σ : fr_S) (a r : Nat) : (fr_fl σ 7 a).set 43 (.ref r) = fr_fl (pP σ 491 a (some r)) 7 a := by simp [fr_fl, gI, gP, pP, va_rf]
end
section
/-! THE CELLS OF A STATE, and the heap that holds them -/
theorem fl_congr {σ τ : fr_S} {ci b : Nat} (h1 : ∀ f, gI σ f b = gI τ f b) (h2 : ∀ f, gP σ f b = gP τ f b) : fr_fl σ ci b = fr_fl τ ci b := by
  unfold fr_fl
  split <;> simp only [h1, h2]
def fr_el (σ : fr_S) (t a : Nat) : ((Nat → Int32) ⊕ (Nat → Int64) ⊕ (Nat → UInt32) ⊕ (Nat → UInt64) ⊕ (Nat → Option Nat)) := if t < 2 then .inl (gV σ a) else .inr (.inr (.inr (.inr (gQ σ a))))
def fr_c (T : Nat → ClassId) (σ : fr_S) (a : Nat) : Option va_E := match gK σ a with
  | none => none
  | some (.inl ci) => some (.inr (ci, fr_fl σ ci a))
  | some (.inr (t, n)) => some (.inl (T t, n, fr_el σ t a))
theorem c_obj {T : Nat → ClassId} {σ : fr_S} {a ci : Nat} (hk : gK σ a = some (.inl ci)) : fr_c T σ a = some (.inr (ci, fr_fl σ ci a)) := by
  unfold fr_c
  rw [hk]
theorem c_arr {T : Nat → ClassId} {σ : fr_S} {a t n : Nat} (hk : gK σ a = some (.inr (t, n))) : fr_c T σ a = some (.inl (T t, n, fr_el σ t a)) := by
  unfold fr_c
  rw [hk]
theorem c_none {T : Nat → ClassId} {σ : fr_S} {a : Nat} (hk : gK σ a = none) : fr_c T σ a = none := by
  unfold fr_c
  rw [hk]
theorem c_some {T : Nat → ClassId} {σ : fr_S} {a : Nat} {e : va_E} (h : fr_c T σ a = some e) : gK σ a ≠ none := by
  intro hk
  rw [c_none hk] at h
  cases h
/-- a cell is as it was where nothing of it has changed -/
theorem c_congr {T : Nat → ClassId} {σ τ : fr_S} {b : Nat} (h0 : gK σ b = gK τ b) (h1 : ∀ f, gI σ f b = gI τ f b) (h2 : ∀ f, gP σ f b = gP τ f b) (h3 : gV σ b = gV τ b) (h4 : gQ σ b = gQ τ b) : fr_c T σ b = fr_c T τ b := by
  cases hk : gK τ b with
  | none => rw [c_none hk, c_none (h0.trans hk)]
  | some k =>
    cases k with
    | inl ci => rw [c_obj hk, c_obj (h0.trans hk), fl_congr h1 h2]
    | inr tn =>
      obtain ⟨t, n⟩ := tn
      rw [c_arr hk, c_arr (h0.trans hk)]
      unfold fr_el
      rw [h3, h4]
def fr_H (D : va_G) (T : Nat → ClassId) (A : Nat → Prop) (σ : fr_S) (H : Heap) : Prop := (∀ (a : Nat) (e : va_E), fr_c T σ a = some e → va_at D vwCl (a, e) H) ∧ ∀ a : Nat, gK σ a ≠ none → A a
theorem fr_one {D : va_G} {T : Nat → ClassId} {A : Nat → Prop} {σ : fr_S} {H : Heap} {a : Nat} {e : va_E} (h : fr_H D T A σ H) (hc : fr_c T σ a = some e) : va_P D vwCl [(a, e)] H := by
  intro k q hq
  have hk : k < 1 := (List.getElem?_eq_some_iff.mp hq).1
  rw [show k = 0 by omega] at hq
  cases hq
  exact h.1 a e hc
/-- all cells of a state as a world of the kit -/
theorem fr_list {D : va_G} {T : Nat → ClassId} {A : Nat → Prop} {σ : fr_S} {H : Heap} (h : fr_H D T A σ H) : ∃ ws : va_W, va_P D vwCl ws H ∧ va_D A ws ∧ ∀ (b : Nat) (e : va_E), fr_c T σ b = some e → ∃ j : Nat, ws[j]? = some (b, e) := by
  have key : ∀ q : Nat × va_E, q ∈ (List.range H.size).filterMap (fun a => (fr_c T σ a).map (fun e => (a, e))) → fr_c T σ q.1 = some q.2 := by
    intro q hq
    obtain ⟨a, -, ha⟩ := List.mem_filterMap.mp hq
    cases hc : fr_c T σ a with
    | none => rw [hc] at ha; cases ha
    | some e => rw [hc] at ha; cases ha; exact hc
  refine ⟨(List.range H.size).filterMap (fun a => (fr_c T σ a).map (fun e => (a, e))), ?_, ⟨?_, ?_⟩, ?_⟩
  · intro k q hk
    exact h.1 q.1 q.2 (key q (List.mem_of_getElem? hk))
  · have hpw : List.Pairwise (fun (p q : Nat × va_E) => p.1 < q.1) ((List.range H.size).filterMap (fun a => (fr_c T σ a).map (fun e => (a, e)))) := by
      refine List.Pairwise.filterMap _ ?_ List.pairwise_lt_range
      intro a a' haa b hb b' hb'
      have hb : (fr_c T σ a).map (fun e => (a, e)) = some b := hb
      have hb' : (fr_c T σ a').map (fun e => (a', e)) = some b' := hb'
      cases hc : fr_c T σ a with
      | none => rw [hc] at hb; cases hb
      | some e =>
        cases hc' : fr_c T σ a' with
        | none => rw [hc'] at hb'; cases hb'
        | some e' =>
          rw [hc] at hb
          rw [hc'] at hb'
          cases hb
          cases hb'
          exact haa
    have hpi := List.pairwise_iff_getElem.mp hpw
    intro i j p q hi hj hpq
    obtain ⟨hi1, hi2⟩ := List.getElem?_eq_some_iff.mp hi
    obtain ⟨hj1, hj2⟩ := List.getElem?_eq_some_iff.mp hj
    rcases Nat.lt_trichotomy i j with hlt | heq | hgt
    · have := hpi i j hi1 hj1 hlt
      rw [hi2, hj2] at this
      omega
    · exact heq
    · have := hpi j i hj1 hi1 hgt
      rw [hi2, hj2] at this
      omega
  · intro k q hk
    exact h.2 q.1 (c_some (key q (List.mem_of_getElem? hk)))
  · intro b e hb
    have hlt : b < H.size := (h.1 b e hb).lt
    refine List.getElem?_of_mem (List.mem_filterMap.mpr ⟨b, List.mem_range.mpr hlt, ?_⟩)
    rw [hb]
    rfl
/-- behind a write to the cell a -/
theorem fr_back {D : va_G} {T : Nat → ClassId} {A : Nat → Prop} {σ τ : fr_S} {H H1 : Heap} {ws : va_W} {q0 a : Nat} {e e1 : va_E} (h : fr_H D T A σ H) (hw : ∀ (b : Nat) (e : va_E), fr_c T σ b = some e → ∃ j : Nat, ws[j]? = some (b, e)) (hq : ws[q0]? = some (a, e)) (hP : va_P D vwCl (ws.set q0 (a, e1)) H1)
    (ha : fr_c T τ a = some e1) (ho : ∀ b, b ≠ a → fr_c T τ b = fr_c T σ b) (hg : ∀ b, gK τ b = gK σ b) : fr_H D T A τ H1 := by
  have hl := (List.getElem?_eq_some_iff.mp hq).1
  refine ⟨fun b x hx => ?_, fun b hb => h.2 b (by rw [← hg b]; exact hb)⟩
  by_cases hba : b = a
  · subst hba
    rw [ha] at hx
    cases hx
    exact hP q0 _ (List.getElem?_set_self hl)
  · rw [ho b hba] at hx
    obtain ⟨j, hj⟩ := hw b x hx
    have hjq : q0 ≠ j := by
      intro hjq
      rw [hjq, hj] at hq
      cases hq
      exact hba rfl
    refine hP j _ ?_
    rw [List.getElem?_set_ne hjq]
    exact hj
theorem c_pI {T : Nat → ClassId} {σ : fr_S} {f a : Nat} {v : Int32} : ∀ b, b ≠ a → fr_c T (pI σ f a v) b = fr_c T σ b := fun b hb => c_congr rfl (fun g => by simp [gI, pI, hb]) (fun _ => rfl) rfl rfl
theorem c_pP {T : Nat → ClassId} {σ : fr_S} {f a : Nat} {v : Option Nat} : ∀ b, b ≠ a → fr_c T (pP σ f a v) b = fr_c T σ b := fun b hb => c_congr rfl (fun _ => rfl) (fun g => by simp [gP, pP, hb]) rfl rfl
theorem c_pA {T : Nat → ClassId} {σ : fr_S} {a : Nat} {u : Nat → Int32} : ∀ b, b ≠ a → fr_c T (pA σ a u) b = fr_c T σ b := fun b hb => c_congr rfl (fun _ => rfl) (fun _ => rfl) (by simp [gV, pA, hb]) rfl
theorem c_pB {T : Nat → ClassId} {σ : fr_S} {a : Nat} {u : Nat → Option Nat} : ∀ b, b ≠ a → fr_c T (pB σ a u) b = fr_c T σ b := fun b hb => c_congr rfl (fun _ => rfl) (fun _ => rfl) rfl (by simp [gQ, pB, hb])
theorem c_pN {T : Nat → ClassId} {σ : fr_S} {a : Nat} {k : fr_K} : ∀ b, b ≠ a → fr_c T (pN σ a k) b = fr_c T σ b := fun b hb => c_congr (by simp [gK, pN, hb]) (fun g => by simp [gI, pN, hb]) (fun g => by simp [gP, pN, hb]) (by simp [gV, pN, hb]) (by simp [gQ, pN, hb])
theorem gV_pA {σ : fr_S} {a : Nat} {u : Nat → Int32} : gV (pA σ a u) a = u := by simp [gV, pA]
theorem gQ_pB {σ : fr_S} {a : Nat} {u : Nat → Option Nat} : gQ (pB σ a u) a = u := by simp [gQ, pB]
section FRR
variable {p : Program} {l : Launch} {e : Env} {R : Room} {s : State} {m : MethodId} {args : Array Value} {below : List Frame} {meth : Method} {c : Code} {H : Heap} {locs : List Loc} {cells slots : Nat} {Q : State → Prop}
variable {cc : ByteArray} {pc : Nat} {ls : Array Slot} {rest : List Value} {D : va_G} {T : Nat → ClassId} {A : Nat → Prop} {a : Nat} {σ σ1 : fr_S} {H0 : Heap} {tys : List (ClassId × FieldType)}
theorem fr_gI (hx : p.tables.exec = Jvm.exec) (hb : c.code = cc) {own ref C : String} {Tt : u_T} {N ci index : Nat} {Ts : List Cond} (hts : ∀ w ∈ Ts, w.before args s = true) (hin : ∀ w ∈ u_ws C Tt N, w ∈ Ts) (hown : s.vm.findClass own = some m.cls) (hK : va_K D vwCl tys s) (hH : fr_H D T A σ H) {f : Nat} {v : Int32} (h : oI σ ci f a = some v) (hc : vwCl[ci]? = some (C, Tt, N)) (k : Nat) (hk : k < N) (hlink : (Cond.fieldLink own index ref (Tt k).2.1 (Tt k).2.2.1).before args s = true) (hsame : ∀ x, s.fieldFound? (Tt k).1 (Tt k).2.1 (Tt k).2.2.1 = some x → s.fieldFound? ref (Tt k).2.1 (Tt k).2.2.1 = some x) (hv : (fr_fl σ ci a)[k]? = some (.int (gI σ f a))) (hdg : decode cc pc = .ok (.getfield index, 3))
    (kk : W p l e R s m args below meth c H locs cells slots Q (F0 m (pc + 3) ls (.int v :: rest))) : W p l e R s m args below meth c H locs cells slots Q (F0 m pc ls (.ref a :: rest)) := by
  obtain ⟨hk0, hv0⟩ := oI_inv h
  subst hv0
  exact va_get hx hb hts hin hown hK (fr_one hH (c_obj hk0)) 0 rfl hc k hk hlink hsame hv hdg kk
theorem fr_gP (hx : p.tables.exec = Jvm.exec) (hb : c.code = cc) {own ref C : String} {Tt : u_T} {N ci index : Nat} {Ts : List Cond} (hts : ∀ w ∈ Ts, w.before args s = true) (hin : ∀ w ∈ u_ws C Tt N, w ∈ Ts) (hown : s.vm.findClass own = some m.cls) (hK : va_K D vwCl tys s) (hH : fr_H D T A σ H) {f r : Nat} (h : oP σ ci f a = some r) (hc : vwCl[ci]? = some (C, Tt, N)) (k : Nat) (hk : k < N) (hlink : (Cond.fieldLink own index ref (Tt k).2.1 (Tt k).2.2.1).before args s = true) (hsame : ∀ x, s.fieldFound? (Tt k).1 (Tt k).2.1 (Tt k).2.2.1 = some x → s.fieldFound? ref (Tt k).2.1 (Tt k).2.2.1 = some x) (hv : (fr_fl σ ci a)[k]? = some (va_rf (gP σ f a))) (hdg : decode cc pc = .ok (.getfield index, 3))
    (kk : W p l e R s m args below meth c H locs cells slots Q (F0 m (pc + 3) ls (.ref r :: rest))) : W p l e R s m args below meth c H locs cells slots Q (F0 m pc ls (.ref a :: rest)) := by
  obtain ⟨hk0, hv0⟩ := oP_inv h
  rw [hv0] at hv
  exact va_get hx hb hts hin hown hK (fr_one hH (c_obj hk0)) 0 rfl hc k hk hlink hsame hv hdg kk
theorem fr_putI (hx : p.tables.exec = Jvm.exec) (hb : c.code = cc) {own ref C : String} {Tt : u_T} {N ci index : Nat} {Ts : List Cond} (hts : ∀ w ∈ Ts, w.before args s = true) (hin : ∀ w ∈ u_ws C Tt N, w ∈ Ts) (ty0 : Nat → FieldType) (hty : ∀ k, k < N → parseFieldDescriptor (Tt k).2.2.1 = some (ty0 k)) (hnm : ∀ a, a < N → ∀ b, b < N → a ≠ b → (Tt a).2.1 ≠ (Tt b).2.1) (hown : s.vm.findClass own = some m.cls) (hK : va_K D vwCl tys s) (hH : fr_H D T A σ H) (hS : va_S A H0 H locs) {f : Nat} {v : Int32} (h : sI σ ci f a v = some σ1) (hc : vwCl[ci]? = some (C, Tt, N)) (k : Nat) (hk : k < N) (hlink : (Cond.fieldLink own index ref (Tt k).2.1 (Tt k).2.2.1).before args s = true) (hsame : ∀ x, s.fieldFound? (Tt k).1 (Tt k).2.1 (Tt k).2.2.1 = some x → s.fieldFound? ref (Tt k).2.1 (Tt k).2.2.1 = some x) (hfin : (Tt k).2.2.2 = false) (hd : parseFieldDescriptor (Tt k).2.2.1 = some .int)
    (hset : (fr_fl σ ci a).set k (.int v) = fr_fl (pI σ f a v) ci a) (hl : k < (fr_fl σ ci a).length) (hdg : decode cc pc = .ok (.putfield index, 3))
    (kk : ∀ (H1 : Heap) (locs1 : List Loc), fr_H D T A σ1 H1 → va_S A H0 H1 locs1 → W p l e R s m args below meth c H1 locs1 cells slots Q (F0 m (pc + 3) ls rest)) : W p l e R s m args below meth c H locs cells slots Q (F0 m pc ls (.int v :: .ref a :: rest)) := by
  obtain ⟨hk0, hs0⟩ := sI_inv h
  subst hs0
  obtain ⟨ws, hP, hD, hw⟩ := fr_list hH
  obtain ⟨q0, hq0⟩ := hw a _ (c_obj hk0)
  exact va_put hx hb hts hin ty0 hty hnm hown hK hP hD hS q0 hq0 hc k hk hlink hsame hfin hd rfl rfl hl hdg (fun H1 locs1 hP1 _ hS1 => kk H1 locs1 (fr_back hH hw hq0 hP1 (by rw [hset]; exact c_obj hk0) c_pI (fun _ => rfl)) hS1)
theorem fr_putZ (hx : p.tables.exec = Jvm.exec) (hb : c.code = cc) {own ref C : String} {Tt : u_T} {N ci index : Nat} {Ts : List Cond} (hts : ∀ w ∈ Ts, w.before args s = true) (hin : ∀ w ∈ u_ws C Tt N, w ∈ Ts) (ty0 : Nat → FieldType) (hty : ∀ k, k < N → parseFieldDescriptor (Tt k).2.2.1 = some (ty0 k)) (hnm : ∀ a, a < N → ∀ b, b < N → a ≠ b → (Tt a).2.1 ≠ (Tt b).2.1) (hown : s.vm.findClass own = some m.cls) (hK : va_K D vwCl tys s) (hH : fr_H D T A σ H) (hS : va_S A H0 H locs) {f : Nat} {v : Int32} (h : sZ σ ci f a v = some σ1) (hc : vwCl[ci]? = some (C, Tt, N)) (k : Nat) (hk : k < N) (hlink : (Cond.fieldLink own index ref (Tt k).2.1 (Tt k).2.2.1).before args s = true) (hsame : ∀ x, s.fieldFound? (Tt k).1 (Tt k).2.1 (Tt k).2.2.1 = some x → s.fieldFound? ref (Tt k).2.1 (Tt k).2.2.1 = some x) (hfin : (Tt k).2.2.2 = false) (hd : parseFieldDescriptor (Tt k).2.2.1 = some .boolean)
    (hset : (fr_fl σ ci a).set k (.int v) = fr_fl (pI σ f a v) ci a) (hl : k < (fr_fl σ ci a).length) (hdg : decode cc pc = .ok (.putfield index, 3))
    (kk : ∀ (H1 : Heap) (locs1 : List Loc), fr_H D T A σ1 H1 → va_S A H0 H1 locs1 → W p l e R s m args below meth c H1 locs1 cells slots Q (F0 m (pc + 3) ls rest)) : W p l e R s m args below meth c H locs cells slots Q (F0 m pc ls (.int v :: .ref a :: rest)) := by
  obtain ⟨hk0, hz, hs0⟩ := sZ_inv h
  subst hs0
  obtain ⟨ws, hP, hD, hw⟩ := fr_list hH
  obtain ⟨q0, hq0⟩ := hw a _ (c_obj hk0)
  exact va_put hx hb hts hin ty0 hty hnm hown hK hP hD hS q0 hq0 hc k hk hlink hsame hfin hd (by rcases hz with h1 | h1 <;> rw [h1] <;> rfl) (by rcases hz with h1 | h1 <;> rw [h1] <;> rfl) hl hdg (fun H1 locs1 hP1 _ hS1 => kk H1 locs1 (fr_back hH hw hq0 hP1 (by rw [hset]; exact c_obj hk0) c_pI (fun _ => rfl)) hS1)
theorem fr_ild (hx : p.tables.exec = Jvm.exec) (hb : c.code = cc) (hK : va_K D vwCl (fr_tys T) s) (hH : fr_H D T A σ H) {i v : Int32} (h : oV σ 0 a i = some v) (hdg : decode cc pc = .ok (.iaload, 1))
    (kk : W p l e R s m args below meth c H locs cells slots Q (F0 m (pc + 1) ls (.int v :: rest))) : W p l e R s m args below meth c H locs cells slots Q (F0 m pc ls (.int i :: .ref a :: rest)) := by
  obtain ⟨n, hk, hin, hv⟩ := oV_inv h
  subst hv
  exact va_iald hx hb hK (fr_one hH (c_arr hk)) 0 0 rfl rfl hin hdg kk
theorem fr_zld (hx : p.tables.exec = Jvm.exec) (hb : c.code = cc) (hK : va_K D vwCl (fr_tys T) s) (hH : fr_H D T A σ H) {i v : Int32} (h : oV σ 1 a i = some v) (hdg : decode cc pc = .ok (.baload, 1))
    (kk : W p l e R s m args below meth c H locs cells slots Q (F0 m (pc + 1) ls (.int v :: rest))) : W p l e R s m args below meth c H locs cells slots Q (F0 m pc ls (.int i :: .ref a :: rest)) := by
  obtain ⟨n, hk, hin, hv⟩ := oV_inv h
  subst hv
  exact va_zald hx hb hK (fr_one hH (c_arr hk)) 0 1 rfl rfl hin hdg kk
theorem fr_qld (hx : p.tables.exec = Jvm.exec) (hb : c.code = cc) (hK : va_K D vwCl (fr_tys T) s) (hH : fr_H D T A σ H) {i : Int32} {t r : Nat} {C : String} (h : oQ σ t a i = some r) (h2 : ¬ t < 2) (ht : (fr_tys T)[t]? = some (T t, .object C)) (hdg : decode cc pc = .ok (.aaload, 1))
    (kk : W p l e R s m args below meth c H locs cells slots Q (F0 m (pc + 1) ls (.ref r :: rest))) : W p l e R s m args below meth c H locs cells slots Q (F0 m pc ls (.int i :: .ref a :: rest)) := by
  obtain ⟨n, hk, hin, hv⟩ := oQ_inv h
  have hc := c_arr (T := T) hk
  unfold fr_el at hc
  rw [if_neg h2] at hc
  refine va_aldq hx hb hK (fr_one hH hc) 0 t rfl ht hin hdg ?_
  rw [hv]
  exact kk
theorem fr_len (hx : p.tables.exec = Jvm.exec) (hb : c.code = cc) (hK : va_K D vwCl (fr_tys T) s) (hH : fr_H D T A σ H) {t : Nat} {v : Int32} {ty : FieldType} (h : oN σ t a = some v) (ht : (fr_tys T)[t]? = some (T t, ty)) (hdg : decode cc pc = .ok (.arraylength, 1))
    (kk : W p l e R s m args below meth c H locs cells slots Q (F0 m (pc + 1) ls (.int v :: rest))) : W p l e R s m args below meth c H locs cells slots Q (F0 m pc ls (.ref a :: rest)) := by
  obtain ⟨n, hk, hv⟩ := oN_inv h
  exact va_alen hx hb hK (fr_one hH (c_arr hk)) 0 t rfl ht hv hdg kk
theorem fr_ist (hx : p.tables.exec = Jvm.exec) (hb : c.code = cc) (hK : va_K D vwCl (fr_tys T) s) (hH : fr_H D T A σ H) (hS : va_S A H0 H locs) {i v : Int32} (h : sV σ 0 a i v = some σ1) (hdg : decode cc pc = .ok (.iastore, 1))
    (kk : ∀ (H1 : Heap) (locs1 : List Loc), fr_H D T A σ1 H1 → va_S A H0 H1 locs1 → W p l e R s m args below meth c H1 locs1 cells slots Q (F0 m (pc + 1) ls rest)) : W p l e R s m args below meth c H locs cells slots Q (F0 m pc ls (.int v :: .int i :: .ref a :: rest)) := by
  obtain ⟨n, hk, hin, hs0⟩ := sV_inv h
  subst hs0
  obtain ⟨ws, hP, hD, hw⟩ := fr_list hH
  obtain ⟨q0, hq0⟩ := hw a _ (c_arr hk)
  refine va_iast hx hb hK hP hD hS q0 0 hq0 rfl hin hdg (fun H1 locs1 hP1 _ hS1 => kk H1 locs1 (fr_back hH hw hq0 hP1 ?_ c_pA (fun _ => rfl)) hS1)
  rw [c_arr (σ := pA σ a _) (t := 0) (n := n) hk]
  unfold fr_el
  rw [if_pos (by decide), gV_pA]
theorem fr_zst (hx : p.tables.exec = Jvm.exec) (hb : c.code = cc) (hK : va_K D vwCl (fr_tys T) s) (hH : fr_H D T A σ H) (hS : va_S A H0 H locs) {i v : Int32} (h : sV σ 1 a i (vp_nar .boolean v) = some σ1) (hdg : decode cc pc = .ok (.bastore, 1))
    (kk : ∀ (H1 : Heap) (locs1 : List Loc), fr_H D T A σ1 H1 → va_S A H0 H1 locs1 → W p l e R s m args below meth c H1 locs1 cells slots Q (F0 m (pc + 1) ls rest)) : W p l e R s m args below meth c H locs cells slots Q (F0 m pc ls (.int v :: .int i :: .ref a :: rest)) := by
  obtain ⟨n, hk, hin, hs0⟩ := sV_inv h
  subst hs0
  obtain ⟨ws, hP, hD, hw⟩ := fr_list hH
  obtain ⟨q0, hq0⟩ := hw a _ (c_arr hk)
  refine va_zast hx hb hK hP hD hS q0 1 hq0 rfl hin hdg (fun H1 locs1 hP1 _ hS1 => kk H1 locs1 (fr_back hH hw hq0 hP1 ?_ c_pA (fun _ => rfl)) hS1)
  rw [c_arr (σ := pA σ a _) (t := 1) (n := n) hk]
  unfold fr_el
  rw [if_pos (by decide), gV_pA]
theorem fr_cpy (hx : p.tables.exec = Jvm.exec) (hb : c.code = cc) (hml : c.maxLocals = ls.size) {own : String} {index : Nat} (hown : s.vm.findClass own = some m.cls) (hlink : (Cond.methodLink own index arraycopyName).before args s = true) (hnat : (Cond.native arraycopyName).before args s = true) (hstat : (Cond.static arraycopyName).before args s = true) (hini : (Cond.initialized "java/lang/System").before args s = true)
    (hK : va_K D vwCl (fr_tys T) s) (hH : fr_H D T A σ H) (hS : va_S A H0 H locs) {a0 : Nat} {sp dp n : Int32} (h : sC σ a0 sp a dp n = some σ1) (hframes : 1 ≤ R.frames) (hlocals : (rest.map fun v => v.category).sum + (nativeFrameWords "java/lang/System" "arraycopy" 5 + 11) ≤ R.locals) (hdg : decode cc pc = .ok (.invokestatic index, 3))
    (kk : ∀ (H1 : Heap) (locs1 : List Loc), fr_H D T A σ1 H1 → va_S A H0 H1 locs1 → W p l e R s m args below meth c H1 locs1 cells slots Q (F0 m (pc + 3) ls rest)) : W p l e R s m args below meth c H locs cells slots Q (F0 m pc ls (.int n :: .int dp :: .ref a :: .int sp :: .ref a0 :: rest)) := by
  obtain ⟨n0, n1, hk0, hk1, ⟨g1, g2, g3⟩, g4, g5, hs0⟩ := sC_inv h
  subst hs0
  obtain ⟨ws, hP, hD, hw⟩ := fr_list hH
  obtain ⟨q0, hq0⟩ := hw a0 _ (c_arr hk0)
  obtain ⟨q1, hq1⟩ := hw a _ (c_arr hk1)
  refine va_copyi hx hb hml hown hlink hnat hstat hini hK hP hD hS q0 q1 0 0 hq0 hq1 rfl rfl rfl g1 g2 g3 g4 g5 (fun _ _ => rfl) hframes hlocals hdg (fun H1 locs1 hP1 _ hS1 => kk H1 locs1 (fr_back hH hw hq1 hP1 ?_ c_pA (fun _ => rfl)) hS1)
  rw [c_arr (σ := pA σ a _) (t := 0) (n := n1) hk1]
  unfold fr_el
  rw [if_pos (by decide), gV_pA]
end FRR
end
section
/-! CONTRACTS over such states -/
def fr_X (U : State) : Prop := ∀ C ∈ fr_arrs, va_AO C U
theorem fr_X.moved {u U : State} (hvm : u.vm.Alike U.vm) (h : fr_X u) : fr_X U := fun C hC => va_AO.moved hvm (h C hC)
def fr_B (D : va_G) (T : Nat → ClassId) (A : Nat → Prop) (σ : fr_S) (U : State) : Prop := fr_H D T A σ U.heap ∧ va_K D vwCl (fr_tys T) U ∧ fr_X U
def fr_Qi (D : va_G) (T : Nat → ClassId) (A : Nat → Prop) (r : Int32) (σ1 : fr_S) : Array Value → State → Outcome → State → Prop := va_Qi (fun (r2 : Int32) (u : fr_S) => r2 = r ∧ u = σ1) (fr_B D T A) A
def fr_Qv (D : va_G) (T : Nat → ClassId) (A : Nat → Prop) (σ1 : fr_S) : Array Value → State → Outcome → State → Prop := va_Qv (fun u : fr_S => u = σ1) (fr_B D T A) A
/-- what a walk knows of its method -/
def fr_At (p : Program) (s : State) (m : MethodId) (args : Array Value) (meth : Method) (c : Code) (own : String) (cc : ByteArray) (nL : Nat) (ret : Option FieldType) : Prop :=
  p.tables.exec = Jvm.exec ∧ c.code = cc ∧ meth.sig.returnType = ret ∧ c.maxLocals = nL ∧ s.vm.findClass own = some m.cls ∧ (∀ w ∈ fr_W, w.before args s = true) ∧ meth.locks = false
theorem fr_at {p : Program} {l : Launch} {y : MethodName} {rm : Room} {cc : ByteArray} {maxL : Nat} {ret : Option FieldType} {e : Env} {s : State} {m : MethodId} {args : Array Value} {below : List Frame} {meth : Method} {c : Code} {s₁ : State} (B : BodyLoose p l y (headSpec (Cond.code y cc maxL ret :: fr_W) rm) cc maxL ret e s m args below meth c s₁) (hml : c.maxLocals = maxL) : fr_At p s m args meth c y.cls cc maxL ret :=
  ⟨B.exec, B.bytes, B.returns, hml, findClass_of_methodNamed B.named, fun w hw => atoms_spec (ws := Cond.code y cc maxL ret :: fr_W) B.pre w (List.mem_cons_of_mem _ hw), B.notSynchronized⟩
theorem fr_blind {D : va_G} {T : Nat → ClassId} {A : Nat → Prop} {σ : fr_S} {av : List Value} : FrameBlind (va_Pc av (fr_B D T A σ)) := fun a U g mk q => ⟨q.1, q.2.1, va_K.moved (u := U) (U := U.calling g mk a) (Vm.Alike.refl U.vm) q.2.2.1, fr_X.moved (u := U) (U := U.calling g mk a) (Vm.Alike.refl U.vm) q.2.2.2⟩
theorem fr_preV {D : va_G} {T : Nat → ClassId} {A : Nat → Prop} {σ : fr_S} {s : State} {H : Heap} (hK : va_K D vwCl (fr_tys T) s) (hX : fr_X s) (hH : fr_H D T A σ H) {ci b N : Nat} {C : String} {Tt : u_T} {u : Unit} (hk : oK σ ci b = some u) (hc : vwCl[ci]? = some (C, Tt, N)) (As : List Value) : PreV s H C b (va_Pc (.ref b :: As) (fr_B D T A σ)) As :=
  ⟨fr_blind, va_recv hK (fr_one hH (c_obj (oK_inv hk))) hc (q0 := 0) rfl, fun U hU hW => ⟨rfl, by rw [hU]; exact hH, va_K.moved hW.alike hK, hX.moved hW.alike⟩⟩
theorem fr_preS {D : va_G} {T : Nat → ClassId} {A : Nat → Prop} {σ : fr_S} {s : State} {H : Heap} (hK : va_K D vwCl (fr_tys T) s) (hX : fr_X s) (hH : fr_H D T A σ H) (As : List Value) : PreS s H (va_Pc As (fr_B D T A σ)) As :=
  ⟨fr_blind, fun U hU hW => ⟨rfl, by rw [hU]; exact hH, va_K.moved hW.alike hK, hX.moved hW.alike⟩⟩
section FRC
variable {p : Program} {l : Launch} {e : Env} {R : Room} {s : State} {m : MethodId} {args : Array Value} {below : List Frame} {meth : Method} {c : Code} {H : Heap} {locs : List Loc} {cells slots : Nat} {Q : State → Prop}
variable {cc : ByteArray} {pc : Nat} {ls : Array Slot} {rest st0 : List Value} {D : va_G} {T : Nat → ClassId} {A : Nat → Prop} {a : Array Value} {σ σ1 : fr_S} {H0 : Heap} {r v : Int32}
theorem fr_calli (hr : va_Run p l e R s m args below meth c H locs cells slots 0 0 (F0 m pc ls st0) rest (fr_Qi D T A r σ1 a) A) (hS : va_S A H0 H locs)
    (kk : ∀ (H1 : Heap) (locs1 : List Loc), fr_H D T A σ1 H1 → va_S A H0 H1 locs1 → W p l e R s m args below meth c H1 locs1 cells slots Q (F0 m (pc + 3) ls (.int r :: rest))) : W p l e R s m args below meth c H locs cells slots Q (F0 m pc ls st0) := by
  refine va_calli hr hS (fun q _ h => h) (fun q h => h) (fun r2 u t H1 locs1 ht hvm hw hB hz1 hk1 hS1 => ?_)
  obtain ⟨h1, h2⟩ := hw
  subst h1
  subst h2
  have hH1 := hB.1
  rw [ht] at hH1
  exact kk H1 locs1 hH1 hS1
theorem fr_callv (hr : va_Run p l e R s m args below meth c H locs cells slots 0 0 (F0 m pc ls st0) rest (fr_Qv D T A σ1 a) A) (hS : va_S A H0 H locs)
    (kk : ∀ (H1 : Heap) (locs1 : List Loc), fr_H D T A σ1 H1 → va_S A H0 H1 locs1 → W p l e R s m args below meth c H1 locs1 cells slots Q (F0 m (pc + 3) ls rest)) : W p l e R s m args below meth c H locs cells slots Q (F0 m pc ls st0) := by
  refine va_callv hr hS (fun q _ h => h) (fun q h => h) (fun u t H1 locs1 ht hvm hw hB hz1 hk1 hS1 => ?_)
  subst hw
  have hH1 := hB.1
  rw [ht] at hH1
  exact kk H1 locs1 hH1 hS1
theorem fr_iretO (hx : p.tables.exec = Jvm.exec) (hb : c.code = cc) (hr : meth.sig.returnType = some .int) (hlocks : meth.locks = false) (h : some v = some r) (hH : fr_H D T A σ H) (hK : va_K D vwCl (fr_tys T) s) (hX : fr_X s) (hS : va_S A s.heap H locs) (hdg : decode cc pc = .ok (.ireturn, 1)) : W p l e R s m args below meth c H locs cells slots (MQ below (fr_Qi D T A r σ) args s cells slots A) (F0 m pc ls [.int v]) := by
  cases h
  exact W.iret hx hb hr (fun t ht hW => ⟨⟨r, σ, rfl, ⟨rfl, rfl⟩, by rw [ht]; exact hH, va_K.moved hW.alike hK, hX.moved hW.alike⟩, hS.F ht⟩) hS.2.2 hdg (hlocks := hlocks)
theorem fr_iret (hx : p.tables.exec = Jvm.exec) (hb : c.code = cc) (hr : meth.sig.returnType = some .int) (hlocks : meth.locks = false) (h : some (v, σ) = some (r, σ1)) (hH : fr_H D T A σ H) (hK : va_K D vwCl (fr_tys T) s) (hX : fr_X s) (hS : va_S A s.heap H locs) (hdg : decode cc pc = .ok (.ireturn, 1)) : W p l e R s m args below meth c H locs cells slots (MQ below (fr_Qi D T A r σ1) args s cells slots A) (F0 m pc ls [.int v]) := by
  cases h
  exact fr_iretO hx hb hr hlocks rfl hH hK hX hS hdg
theorem fr_zretO (hx : p.tables.exec = Jvm.exec) (hb : c.code = cc) (hr : meth.sig.returnType = some .boolean) (hlocks : meth.locks = false) (hz : v = 0 ∨ v = 1) (h : some v = some r) (hH : fr_H D T A σ H) (hK : va_K D vwCl (fr_tys T) s) (hX : fr_X s) (hS : va_S A s.heap H locs) (hdg : decode cc pc = .ok (.ireturn, 1)) : W p l e R s m args below meth c H locs cells slots (MQ below (fr_Qi D T A r σ) args s cells slots A) (F0 m pc ls [.int v]) := by
  cases h
  exact W.zret (ty := .boolean) hx hb hr (by rcases hz with h1 | h1 <;> rw [h1] <;> rfl) (fun t ht hW => ⟨⟨r, σ, rfl, ⟨rfl, rfl⟩, by rw [ht]; exact hH, va_K.moved hW.alike hK, hX.moved hW.alike⟩, hS.F ht⟩) hS.2.2 hdg (hlocks := hlocks)
theorem fr_zret (hx : p.tables.exec = Jvm.exec) (hb : c.code = cc) (hr : meth.sig.returnType = some .boolean) (hlocks : meth.locks = false) (hz : v = 0 ∨ v = 1) (h : some (v, σ) = some (r, σ1)) (hH : fr_H D T A σ H) (hK : va_K D vwCl (fr_tys T) s) (hX : fr_X s) (hS : va_S A s.heap H locs) (hdg : decode cc pc = .ok (.ireturn, 1)) : W p l e R s m args below meth c H locs cells slots (MQ below (fr_Qi D T A r σ1) args s cells slots A) (F0 m pc ls [.int v]) := by
  cases h
  exact fr_zretO hx hb hr hlocks hz rfl hH hK hX hS hdg
theorem fr_vret (hx : p.tables.exec = Jvm.exec) (hb : c.code = cc) (hr : meth.sig.returnType = none) (hlocks : meth.locks = false) (h : some σ = some σ1) (hH : fr_H D T A σ H) (hK : va_K D vwCl (fr_tys T) s) (hX : fr_X s) (hS : va_S A s.heap H locs) (hdg : decode cc pc = .ok (.return_, 1)) : W p l e R s m args below meth c H locs cells slots (MQ below (fr_Qv D T A σ1) args s cells slots A) (F0 m pc ls []) := by
  cases h
  exact W.vret hx hb hr (fun t ht hW => ⟨⟨σ, rfl, rfl, by rw [ht]; exact hH, va_K.moved hW.alike hK, hX.moved hW.alike⟩, hS.F ht⟩) hS.2.2 hdg (hlocks := hlocks)
/-- a call of a method that makes no cell -/
theorem fr_V {nL mc ms n index maxL : Nat} {y : MethodName} {bytes : ByteArray} {ret : Option FieldType} {rm : Room} {Qc : Array Value → State → Outcome → State → Prop} {own C : String} {b : Nat} {As : List Value} (hfix : CallFix p m c cc nL s args fr_W own) (hM : Met l y (Cond.code y bytes maxL ret :: fr_W) rm (va_Pc (.ref b :: As) (fr_B D T A σ)) Qc 0 0 A) (h1 : Cond.methodLink own index y ∈ fr_W) (hy : fr_MV y C bytes maxL ret n) (hrc : rm.cells = 0) (hrs : rm.slots = 0) (hR : rm.frames + 1 ≤ R.frames ∧ 8 + (maxL + 11) + rm.locals ≤ R.locals) (hp : PreV s H C b (va_Pc (.ref b :: As) (fr_B D T A σ)) As)
    (hn : As.length = n) (hsize : ls.size = nL) (hst : st0 = As.reverse ++ .ref b :: rest) (hW : (rest.map fun v => v.category).sum ≤ 8) (hdg : decode cc pc = .ok (.invokevirtual index, 3)) (hf : cells + 0 ≤ R.cells ∧ slots + 0 ≤ R.slots) : va_Run p l e R s m args below meth c H locs cells slots 0 0 (F0 m pc ls st0) rest (Qc (Value.ref b :: As).toArray) A := by
  obtain ⟨k2, k3, k4, k5, kd⟩ := hy
  exact va_runV hfix hM (cwV n hfix.2.2.2.2 (fr_GV h1 k2 k3 k4 k5) rfl hrc hrs kd hR) hp rfl hn hsize hst (lv_room hW) hdg hf
theorem fr_Sc {nL mc ms n index maxL : Nat} {y : MethodName} {bytes : ByteArray} {ret : Option FieldType} {rm : Room} {Qc : Array Value → State → Outcome → State → Prop} {own : String} {As : List Value} (hfix : CallFix p m c cc nL s args fr_W own) (hM : Met l y (Cond.code y bytes maxL ret :: fr_W) rm (va_Pc As (fr_B D T A σ)) Qc 0 0 A) (h1 : Cond.methodLink own index y ∈ fr_W) (hy : fr_MS y bytes maxL ret n) (hrc : rm.cells = 0) (hrs : rm.slots = 0) (hR : rm.frames + 1 ≤ R.frames ∧ 8 + (maxL + 11) + rm.locals ≤ R.locals)
    (hp : PreS s H (va_Pc As (fr_B D T A σ)) As) (hn : As.length = n) (hsize : ls.size = nL) (hst : st0 = As.reverse ++ rest) (hW : (rest.map fun v => v.category).sum ≤ 8) (hdg : decode cc pc = .ok (.invokestatic index, 3)) (hf : cells + 0 ≤ R.cells ∧ slots + 0 ≤ R.slots) : va_Run p l e R s m args below meth c H locs cells slots 0 0 (F0 m pc ls st0) rest (Qc As.toArray) A := by
  obtain ⟨k2, k4, k5, kd⟩ := hy
  have hts := hfix.2.2.2.2
  exact va_runS hfix hM ⟨callB_of n hts (fr_G k5) rfl hrc hrs (hts _ k4) (hts _ h1) kd hR, hts _ k2⟩ hp rfl hn hsize hst (lv_room hW) hdg hf
end FRC
end
