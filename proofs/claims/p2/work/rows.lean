section
/-- a private method of a class that the tables say can be made, by its rows of tables_1 -/
def lw_okq (q : MethodName × Nat) : Prop := (q.1.cls ≠ "java/lang/invoke/MethodHandle" ∧ q.1.cls ≠ "java/lang/invoke/VarHandle") ∧ Cond.instantiable q.1.cls q.2 ∈ tables_1 ∧ Cond.privateMethod q.1 ∈ tables_1 ∧ Cond.instanceMethod q.1 ∈ tables_1
theorem lw_p0 : lw_okq (⟨"FetchRules", "isPlace", "(I)Z"⟩, 14) := ⟨⟨by decide +kernel, by decide +kernel⟩, List.mem_of_getElem? (i := 13) (by decide +kernel), List.mem_of_getElem? (i := 268) (by decide +kernel), List.mem_of_getElem? (i := 269) (by decide +kernel)⟩
theorem lw_p1 : lw_okq (⟨"FetchRules", "isWant", "(I)Z"⟩, 14) := ⟨⟨by decide +kernel, by decide +kernel⟩, List.mem_of_getElem? (i := 13) (by decide +kernel), List.mem_of_getElem? (i := 301) (by decide +kernel), List.mem_of_getElem? (i := 302) (by decide +kernel)⟩
theorem lw_p2 : lw_okq (⟨"FetchRules", "noteLacking", "(I)V"⟩, 14) := ⟨⟨by decide +kernel, by decide +kernel⟩, List.mem_of_getElem? (i := 13) (by decide +kernel), List.mem_of_getElem? (i := 332) (by decide +kernel), List.mem_of_getElem? (i := 333) (by decide +kernel)⟩
theorem lw_p3 : lw_okq (⟨"FetchRules", "fetchFrom", "(LFetchRules$Want;I)V"⟩, 14) := ⟨⟨by decide +kernel, by decide +kernel⟩, List.mem_of_getElem? (i := 13) (by decide +kernel), List.mem_of_getElem? (i := 336) (by decide +kernel), List.mem_of_getElem? (i := 337) (by decide +kernel)⟩
theorem lw_p4 : lw_okq (⟨"FetchRules", "moveClock", "()V"⟩, 14) := ⟨⟨by decide +kernel, by decide +kernel⟩, List.mem_of_getElem? (i := 13) (by decide +kernel), List.mem_of_getElem? (i := 348) (by decide +kernel), List.mem_of_getElem? (i := 349) (by decide +kernel)⟩
theorem lw_p5 : lw_okq (⟨"FetchRules", "takeTurn", "(I)V"⟩, 14) := ⟨⟨by decide +kernel, by decide +kernel⟩, List.mem_of_getElem? (i := 13) (by decide +kernel), List.mem_of_getElem? (i := 352) (by decide +kernel), List.mem_of_getElem? (i := 353) (by decide +kernel)⟩
theorem lw_p6 : lw_okq (⟨"FetchRules", "ask", "(I)I"⟩, 14) := ⟨⟨by decide +kernel, by decide +kernel⟩, List.mem_of_getElem? (i := 13) (by decide +kernel), List.mem_of_getElem? (i := 360) (by decide +kernel), List.mem_of_getElem? (i := 361) (by decide +kernel)⟩
theorem lw_p7 : lw_okq (⟨"FetchRules", "countSent", "(IZ)V"⟩, 14) := ⟨⟨by decide +kernel, by decide +kernel⟩, List.mem_of_getElem? (i := 13) (by decide +kernel), List.mem_of_getElem? (i := 364) (by decide +kernel), List.mem_of_getElem? (i := 365) (by decide +kernel)⟩
theorem lw_p8 : lw_okq (⟨"FetchRules", "giveUp", "(LFetchRules$Want;)V"⟩, 14) := ⟨⟨by decide +kernel, by decide +kernel⟩, List.mem_of_getElem? (i := 13) (by decide +kernel), List.mem_of_getElem? (i := 376) (by decide +kernel), List.mem_of_getElem? (i := 377) (by decide +kernel)⟩
theorem lw_p9 : lw_okq (⟨"FetchRules$Place", "givenByte", "(I)I"⟩, 10) := ⟨⟨by decide +kernel, by decide +kernel⟩, List.mem_of_getElem? (i := 117) (by decide +kernel), List.mem_of_getElem? (i := 385) (by decide +kernel), List.mem_of_getElem? (i := 386) (by decide +kernel)⟩
theorem lw_p10 : lw_okq (⟨"FetchRules", "checkDigest", "(I)V"⟩, 14) := ⟨⟨by decide +kernel, by decide +kernel⟩, List.mem_of_getElem? (i := 13) (by decide +kernel), List.mem_of_getElem? (i := 394) (by decide +kernel), List.mem_of_getElem? (i := 395) (by decide +kernel)⟩
theorem lw_p11 : lw_okq (⟨"FetchRules", "falter", "(LFetchRules$Want;)V"⟩, 14) := ⟨⟨by decide +kernel, by decide +kernel⟩, List.mem_of_getElem? (i := 13) (by decide +kernel), List.mem_of_getElem? (i := 408) (by decide +kernel), List.mem_of_getElem? (i := 409) (by decide +kernel)⟩
theorem lw_p12 : lw_okq (⟨"FetchRules", "countBusy", "()I"⟩, 14) := ⟨⟨by decide +kernel, by decide +kernel⟩, List.mem_of_getElem? (i := 13) (by decide +kernel), List.mem_of_getElem? (i := 412) (by decide +kernel), List.mem_of_getElem? (i := 413) (by decide +kernel)⟩
theorem lw_p13 : lw_okq (⟨"FetchRules$Files", "put", "(LFetchRules$Row;II)V"⟩, 5) := ⟨⟨by decide +kernel, by decide +kernel⟩, List.mem_of_getElem? (i := 85) (by decide +kernel), List.mem_of_getElem? (i := 479) (by decide +kernel), List.mem_of_getElem? (i := 480) (by decide +kernel)⟩
theorem lw_p14 : lw_okq (⟨"FetchRules$Files", "findPath", "(LFetchRules$Row;II)I"⟩, 5) := ⟨⟨by decide +kernel, by decide +kernel⟩, List.mem_of_getElem? (i := 85) (by decide +kernel), List.mem_of_getElem? (i := 483) (by decide +kernel), List.mem_of_getElem? (i := 484) (by decide +kernel)⟩
theorem lw_p15 : lw_okq (⟨"FetchRulesModel", "isPlace", "(I)Z"⟩, 44) := ⟨⟨by decide +kernel, by decide +kernel⟩, List.mem_of_getElem? (i := 505) (by decide +kernel), List.mem_of_getElem? (i := 656) (by decide +kernel), List.mem_of_getElem? (i := 657) (by decide +kernel)⟩
def lw_privs_1 : List (MethodName × Nat) := [(⟨"FetchRules", "isPlace", "(I)Z"⟩, 14), (⟨"FetchRules", "isWant", "(I)Z"⟩, 14), (⟨"FetchRules", "noteLacking", "(I)V"⟩, 14), (⟨"FetchRules", "fetchFrom", "(LFetchRules$Want;I)V"⟩, 14), (⟨"FetchRules", "moveClock", "()V"⟩, 14), (⟨"FetchRules", "takeTurn", "(I)V"⟩, 14), (⟨"FetchRules", "ask", "(I)I"⟩, 14), (⟨"FetchRules", "countSent", "(IZ)V"⟩, 14), (⟨"FetchRules", "giveUp", "(LFetchRules$Want;)V"⟩, 14), (⟨"FetchRules$Place", "givenByte", "(I)I"⟩, 10), (⟨"FetchRules", "checkDigest", "(I)V"⟩, 14), (⟨"FetchRules", "falter", "(LFetchRules$Want;)V"⟩, 14), (⟨"FetchRules", "countBusy", "()I"⟩, 14), (⟨"FetchRules$Files", "put", "(LFetchRules$Row;II)V"⟩, 5), (⟨"FetchRules$Files", "findPath", "(LFetchRules$Row;II)I"⟩, 5), (⟨"FetchRulesModel", "isPlace", "(I)Z"⟩, 44)]
theorem lw_r1 : ∀ q ∈ lw_privs_1, lw_okq q := List.forall_mem_cons.mpr ⟨lw_p0, List.forall_mem_cons.mpr ⟨lw_p1, List.forall_mem_cons.mpr ⟨lw_p2, List.forall_mem_cons.mpr ⟨lw_p3, List.forall_mem_cons.mpr ⟨lw_p4, List.forall_mem_cons.mpr ⟨lw_p5, List.forall_mem_cons.mpr ⟨lw_p6, List.forall_mem_cons.mpr ⟨lw_p7, List.forall_mem_cons.mpr ⟨lw_p8, List.forall_mem_cons.mpr ⟨lw_p9, List.forall_mem_cons.mpr ⟨lw_p10, List.forall_mem_cons.mpr ⟨lw_p11, List.forall_mem_cons.mpr ⟨lw_p12, List.forall_mem_cons.mpr ⟨lw_p13, List.forall_mem_cons.mpr ⟨lw_p14, List.forall_mem_cons.mpr ⟨lw_p15, fun _ h => absurd h List.not_mem_nil⟩⟩⟩⟩⟩⟩⟩⟩⟩⟩⟩⟩⟩⟩⟩⟩
theorem lw_p16 : lw_okq (⟨"FetchRulesModel", "isWant", "(I)Z"⟩, 44) := ⟨⟨by decide +kernel, by decide +kernel⟩, List.mem_of_getElem? (i := 505) (by decide +kernel), List.mem_of_getElem? (i := 685) (by decide +kernel), List.mem_of_getElem? (i := 686) (by decide +kernel)⟩
theorem lw_p17 : lw_okq (⟨"FetchRulesModel", "keptOf", "(I)I"⟩, 44) := ⟨⟨by decide +kernel, by decide +kernel⟩, List.mem_of_getElem? (i := 505) (by decide +kernel), List.mem_of_getElem? (i := 697) (by decide +kernel), List.mem_of_getElem? (i := 698) (by decide +kernel)⟩
theorem lw_p18 : lw_okq (⟨"FetchRulesModel", "tellLack", "(I)V"⟩, 44) := ⟨⟨by decide +kernel, by decide +kernel⟩, List.mem_of_getElem? (i := 505) (by decide +kernel), List.mem_of_getElem? (i := 701) (by decide +kernel), List.mem_of_getElem? (i := 702) (by decide +kernel)⟩
theorem lw_p19 : lw_okq (⟨"FetchRulesModel", "goOn", "(II)V"⟩, 44) := ⟨⟨by decide +kernel, by decide +kernel⟩, List.mem_of_getElem? (i := 505) (by decide +kernel), List.mem_of_getElem? (i := 705) (by decide +kernel), List.mem_of_getElem? (i := 706) (by decide +kernel)⟩
theorem lw_p20 : lw_okq (⟨"FetchRulesModel", "turn", "(I)V"⟩, 44) := ⟨⟨by decide +kernel, by decide +kernel⟩, List.mem_of_getElem? (i := 505) (by decide +kernel), List.mem_of_getElem? (i := 713) (by decide +kernel), List.mem_of_getElem? (i := 714) (by decide +kernel)⟩
theorem lw_p21 : lw_okq (⟨"FetchRulesModel", "ask", "(I)I"⟩, 44) := ⟨⟨by decide +kernel, by decide +kernel⟩, List.mem_of_getElem? (i := 505) (by decide +kernel), List.mem_of_getElem? (i := 717) (by decide +kernel), List.mem_of_getElem? (i := 718) (by decide +kernel)⟩
theorem lw_p22 : lw_okq (⟨"FetchRulesModel", "judge", "(I)V"⟩, 44) := ⟨⟨by decide +kernel, by decide +kernel⟩, List.mem_of_getElem? (i := 505) (by decide +kernel), List.mem_of_getElem? (i := 721) (by decide +kernel), List.mem_of_getElem? (i := 722) (by decide +kernel)⟩
theorem lw_p23 : lw_okq (⟨"FetchRulesModel", "keep", "(I)V"⟩, 44) := ⟨⟨by decide +kernel, by decide +kernel⟩, List.mem_of_getElem? (i := 505) (by decide +kernel), List.mem_of_getElem? (i := 725) (by decide +kernel), List.mem_of_getElem? (i := 726) (by decide +kernel)⟩
theorem lw_p24 : lw_okq (⟨"FetchRulesModel", "falter", "(I)V"⟩, 44) := ⟨⟨by decide +kernel, by decide +kernel⟩, List.mem_of_getElem? (i := 505) (by decide +kernel), List.mem_of_getElem? (i := 729) (by decide +kernel), List.mem_of_getElem? (i := 730) (by decide +kernel)⟩
theorem lw_p25 : lw_okq (⟨"FetchRulesModel", "read", "(IIZ)I"⟩, 44) := ⟨⟨by decide +kernel, by decide +kernel⟩, List.mem_of_getElem? (i := 505) (by decide +kernel), List.mem_of_getElem? (i := 761) (by decide +kernel), List.mem_of_getElem? (i := 762) (by decide +kernel)⟩
theorem lw_p26 : lw_okq (⟨"FetchRulesModel", "isRight", "(II)Z"⟩, 44) := ⟨⟨by decide +kernel, by decide +kernel⟩, List.mem_of_getElem? (i := 505) (by decide +kernel), List.mem_of_getElem? (i := 765) (by decide +kernel), List.mem_of_getElem? (i := 766) (by decide +kernel)⟩
theorem lw_p27 : lw_okq (⟨"FetchRulesModel", "strip", "(III)I"⟩, 44) := ⟨⟨by decide +kernel, by decide +kernel⟩, List.mem_of_getElem? (i := 505) (by decide +kernel), List.mem_of_getElem? (i := 772) (by decide +kernel), List.mem_of_getElem? (i := 773) (by decide +kernel)⟩
theorem lw_p28 : lw_okq (⟨"FetchRulesModel", "putFile", "(IIIII)V"⟩, 44) := ⟨⟨by decide +kernel, by decide +kernel⟩, List.mem_of_getElem? (i := 505) (by decide +kernel), List.mem_of_getElem? (i := 776) (by decide +kernel), List.mem_of_getElem? (i := 777) (by decide +kernel)⟩
theorem lw_p29 : lw_okq (⟨"FetchRulesModel", "isSamePath", "(IIII)Z"⟩, 44) := ⟨⟨by decide +kernel, by decide +kernel⟩, List.mem_of_getElem? (i := 505) (by decide +kernel), List.mem_of_getElem? (i := 780) (by decide +kernel), List.mem_of_getElem? (i := 781) (by decide +kernel)⟩
def lw_privs_2 : List (MethodName × Nat) := [(⟨"FetchRulesModel", "isWant", "(I)Z"⟩, 44), (⟨"FetchRulesModel", "keptOf", "(I)I"⟩, 44), (⟨"FetchRulesModel", "tellLack", "(I)V"⟩, 44), (⟨"FetchRulesModel", "goOn", "(II)V"⟩, 44), (⟨"FetchRulesModel", "turn", "(I)V"⟩, 44), (⟨"FetchRulesModel", "ask", "(I)I"⟩, 44), (⟨"FetchRulesModel", "judge", "(I)V"⟩, 44), (⟨"FetchRulesModel", "keep", "(I)V"⟩, 44), (⟨"FetchRulesModel", "falter", "(I)V"⟩, 44), (⟨"FetchRulesModel", "read", "(IIZ)I"⟩, 44), (⟨"FetchRulesModel", "isRight", "(II)Z"⟩, 44), (⟨"FetchRulesModel", "strip", "(III)I"⟩, 44), (⟨"FetchRulesModel", "putFile", "(IIIII)V"⟩, 44), (⟨"FetchRulesModel", "isSamePath", "(IIII)Z"⟩, 44)]
theorem lw_r2 : ∀ q ∈ lw_privs_2, lw_okq q := List.forall_mem_cons.mpr ⟨lw_p16, List.forall_mem_cons.mpr ⟨lw_p17, List.forall_mem_cons.mpr ⟨lw_p18, List.forall_mem_cons.mpr ⟨lw_p19, List.forall_mem_cons.mpr ⟨lw_p20, List.forall_mem_cons.mpr ⟨lw_p21, List.forall_mem_cons.mpr ⟨lw_p22, List.forall_mem_cons.mpr ⟨lw_p23, List.forall_mem_cons.mpr ⟨lw_p24, List.forall_mem_cons.mpr ⟨lw_p25, List.forall_mem_cons.mpr ⟨lw_p26, List.forall_mem_cons.mpr ⟨lw_p27, List.forall_mem_cons.mpr ⟨lw_p28, List.forall_mem_cons.mpr ⟨lw_p29, fun _ h => absurd h List.not_mem_nil⟩⟩⟩⟩⟩⟩⟩⟩⟩⟩⟩⟩⟩⟩
def lw_privs : List (MethodName × Nat) := lw_privs_1 ++ (lw_privs_2)
def lw_tbl : List Cond := k2_sels lw_privs ++ tables_1
theorem lw_privs_ok : ∀ q ∈ lw_privs, lw_okq q := by
  show ∀ q ∈ lw_privs_1 ++ (lw_privs_2), lw_okq q
  exact List.forall_mem_append.mpr ⟨lw_r1, lw_r2⟩

/-- the words that a call carries on -/
def fr_W : List Cond := lw_tbl.filter goodWord
theorem fr_m {w : Cond} (i : Nat) (h : lw_tbl[i]? = some w) (hg : goodWord w = true) : w ∈ fr_W := List.mem_filter.mpr ⟨List.mem_of_getElem? h, hg⟩
theorem fr_allgood : fr_W.all goodWord = true := List.all_eq_true.mpr (fun _ h => (List.mem_filter.mp h).2)
theorem fr_sub {ws : List Cond} (is : List Nat) (h : ws = is.filterMap (fun i => lw_tbl[i]?)) (hg : ws.all goodWord = true) : ∀ w ∈ ws, w ∈ fr_W := by
  intro w hw
  have h1 := List.all_eq_true.mp hg w hw
  rw [h] at hw
  obtain ⟨i, -, hi⟩ := List.mem_filterMap.mp hw
  exact fr_m i hi h1
end
section
def T_FR : u_T := fun k => match k with
  | 0 => ("FetchRules", "retries", "I", true)
  | 1 => ("FetchRules", "credentials", "[Z", true)
  | 2 => ("FetchRules", "sentCounts", "[I", true)
  | 3 => ("FetchRules", "places", "[LFetchRules$Place;", true)
  | 4 => ("FetchRules", "placeCount", "I", false)
  | 5 => ("FetchRules", "wants", "[LFetchRules$Want;", true)
  | 6 => ("FetchRules", "wantCount", "I", false)
  | 7 => ("FetchRules", "store", "LFetchRules$Store;", true)
  | 8 => ("FetchRules", "tellings", "LFetchRules$Tellings;", true)
  | 9 => ("FetchRules", "lacking", "[I", true)
  | 10 => ("FetchRules", "lackingCount", "I", false)
  | 11 => ("FetchRules", "files", "LFetchRules$Files;", true)
  | 12 => ("FetchRules", "isOffLine", "Z", false)
  | _ => ("FetchRules", "clock", "I", false)
def ty_FR : Nat → FieldType := fun k => match k with
  | 0 => .int
  | 1 => .array (.boolean)
  | 2 => .array (.int)
  | 3 => .array (.object "FetchRules$Place")
  | 4 => .int
  | 5 => .array (.object "FetchRules$Want")
  | 6 => .int
  | 7 => .object "FetchRules$Store"
  | 8 => .object "FetchRules$Tellings"
  | 9 => .array (.int)
  | 10 => .int
  | 11 => .object "FetchRules$Files"
  | 12 => .boolean
  | _ => .int
theorem nm_FR : ∀ a, a < 14 → ∀ b, b < 14 → a ≠ b → (T_FR a).2.1 ≠ (T_FR b).2.1 := by decide +kernel
theorem tk_FR : ∀ k, k < 14 → parseFieldDescriptor (T_FR k).2.2.1 = some (ty_FR k) := by decide +kernel
theorem in_FR : ∀ w ∈ u_ws "FetchRules" T_FR 14, w ∈ fr_W := fr_sub [253, 255, 257, 259, 261, 263, 265, 267, 269, 271, 273, 275, 277, 279] (by decide +kernel) (by decide +kernel)
def T_Files : u_T := fun k => match k with
  | 0 => ("FetchRules$Files", "bytesStarts", "[I", true)
  | 1 => ("FetchRules$Files", "bytesLengths", "[I", true)
  | 2 => ("FetchRules$Files", "pathStarts", "[I", true)
  | 3 => ("FetchRules$Files", "pathLengths", "[I", true)
  | _ => ("FetchRules$Files", "count", "I", false)
def ty_Files : Nat → FieldType := fun k => match k with
  | 0 => .array (.int)
  | 1 => .array (.int)
  | 2 => .array (.int)
  | 3 => .array (.int)
  | _ => .int
theorem nm_Files : ∀ a, a < 5 → ∀ b, b < 5 → a ≠ b → (T_Files a).2.1 ≠ (T_Files b).2.1 := by decide +kernel
theorem tk_Files : ∀ k, k < 5 → parseFieldDescriptor (T_Files k).2.2.1 = some (ty_Files k) := by decide +kernel
theorem in_Files : ∀ w ∈ u_ws "FetchRules$Files" T_Files 5, w ∈ fr_W := fr_sub [130, 132, 134, 136, 138] (by decide +kernel) (by decide +kernel)
def T_Place : u_T := fun k => match k with
  | 0 => ("FetchRules$Place", "bytes", "LFetchRules$Row;", true)
  | 1 => ("FetchRules$Place", "host", "I", false)
  | 2 => ("FetchRules$Place", "rate", "I", false)
  | 3 => ("FetchRules$Place", "leadsTo", "I", false)
  | 4 => ("FetchRules$Place", "cutsLeft", "I", false)
  | 5 => ("FetchRules$Place", "cutBytes", "I", false)
  | 6 => ("FetchRules$Place", "isGone", "Z", false)
  | 7 => ("FetchRules$Place", "wantsCredential", "Z", false)
  | 8 => ("FetchRules$Place", "lies", "Z", false)
  | _ => ("FetchRules$Place", "isBarred", "Z", false)
def ty_Place : Nat → FieldType := fun k => match k with
  | 0 => .object "FetchRules$Row"
  | 1 => .int
  | 2 => .int
  | 3 => .int
  | 4 => .int
  | 5 => .int
  | 6 => .boolean
  | 7 => .boolean
  | 8 => .boolean
  | _ => .boolean
theorem nm_Place : ∀ a, a < 10 → ∀ b, b < 10 → a ≠ b → (T_Place a).2.1 ≠ (T_Place b).2.1 := by decide +kernel
theorem tk_Place : ∀ k, k < 10 → parseFieldDescriptor (T_Place k).2.2.1 = some (ty_Place k) := by decide +kernel
theorem in_Place : ∀ w ∈ u_ws "FetchRules$Place" T_Place 10, w ∈ fr_W := fr_sub [174, 176, 178, 180, 182, 184, 186, 188, 190, 192] (by decide +kernel) (by decide +kernel)
def T_Row : u_T := fun k => match k with
  | 0 => ("FetchRules$Row", "values", "[I", true)
  | _ => ("FetchRules$Row", "length", "I", false)
def ty_Row : Nat → FieldType := fun k => match k with
  | 0 => .array (.int)
  | _ => .int
theorem nm_Row : ∀ a, a < 2 → ∀ b, b < 2 → a ≠ b → (T_Row a).2.1 ≠ (T_Row b).2.1 := by decide +kernel
theorem tk_Row : ∀ k, k < 2 → parseFieldDescriptor (T_Row k).2.2.1 = some (ty_Row k) := by decide +kernel
theorem in_Row : ∀ w ∈ u_ws "FetchRules$Row" T_Row 2, w ∈ fr_W := fr_sub [74, 76] (by decide +kernel) (by decide +kernel)
def T_Store : u_T := fun k => match k with
  | 0 => ("FetchRules$Store", "digests", "[I", true)
  | 1 => ("FetchRules$Store", "rows", "[LFetchRules$Row;", true)
  | _ => ("FetchRules$Store", "count", "I", false)
def ty_Store : Nat → FieldType := fun k => match k with
  | 0 => .array (.int)
  | 1 => .array (.object "FetchRules$Row")
  | _ => .int
theorem nm_Store : ∀ a, a < 3 → ∀ b, b < 3 → a ≠ b → (T_Store a).2.1 ≠ (T_Store b).2.1 := by decide +kernel
theorem tk_Store : ∀ k, k < 3 → parseFieldDescriptor (T_Store k).2.2.1 = some (ty_Store k) := by decide +kernel
theorem in_Store : ∀ w ∈ u_ws "FetchRules$Store" T_Store 3, w ∈ fr_W := fr_sub [85, 87, 89] (by decide +kernel) (by decide +kernel)
def T_Tellings : u_T := fun k => match k with
  | 0 => ("FetchRules$Tellings", "wantNumbers", "[I", true)
  | 1 => ("FetchRules$Tellings", "placeNumbers", "[I", true)
  | 2 => ("FetchRules$Tellings", "digests", "[I", true)
  | _ => ("FetchRules$Tellings", "count", "I", false)
def ty_Tellings : Nat → FieldType := fun k => match k with
  | 0 => .array (.int)
  | 1 => .array (.int)
  | 2 => .array (.int)
  | _ => .int
theorem nm_Tellings : ∀ a, a < 4 → ∀ b, b < 4 → a ≠ b → (T_Tellings a).2.1 ≠ (T_Tellings b).2.1 := by decide +kernel
theorem tk_Tellings : ∀ k, k < 4 → parseFieldDescriptor (T_Tellings k).2.2.1 = some (ty_Tellings k) := by decide +kernel
theorem in_Tellings : ∀ w ∈ u_ws "FetchRules$Tellings" T_Tellings 4, w ∈ fr_W := fr_sub [105, 107, 109, 111] (by decide +kernel) (by decide +kernel)
def T_Want : u_T := fun k => match k with
  | 0 => ("FetchRules$Want", "bytes", "LFetchRules$Row;", true)
  | 1 => ("FetchRules$Want", "placeNumbers", "[I", true)
  | 2 => ("FetchRules$Want", "placeCount", "I", false)
  | 3 => ("FetchRules$Want", "wantedDigest", "I", false)
  | 4 => ("FetchRules$Want", "state", "I", false)
  | 5 => ("FetchRules$Want", "current", "I", false)
  | 6 => ("FetchRules$Want", "falters", "I", false)
  | 7 => ("FetchRules$Want", "waitsTill", "I", false)
  | _ => ("FetchRules$Want", "turns", "I", false)
def ty_Want : Nat → FieldType := fun k => match k with
  | 0 => .object "FetchRules$Row"
  | 1 => .array (.int)
  | 2 => .int
  | 3 => .int
  | 4 => .int
  | 5 => .int
  | 6 => .int
  | 7 => .int
  | _ => .int
theorem nm_Want : ∀ a, a < 9 → ∀ b, b < 9 → a ≠ b → (T_Want a).2.1 ≠ (T_Want b).2.1 := by decide +kernel
theorem tk_Want : ∀ k, k < 9 → parseFieldDescriptor (T_Want k).2.2.1 = some (ty_Want k) := by decide +kernel
theorem in_Want : ∀ w ∈ u_ws "FetchRules$Want" T_Want 9, w ∈ fr_W := fr_sub [220, 222, 224, 226, 228, 230, 232, 234, 236] (by decide +kernel) (by decide +kernel)
def T_Md : u_T := fun k => match k with
  | 0 => ("FetchRulesModel", "retries", "I", true)
  | 1 => ("FetchRulesModel", "code", "I", false)
  | 2 => ("FetchRulesModel", "clock", "I", false)
  | 3 => ("FetchRulesModel", "isOffLine", "Z", false)
  | 4 => ("FetchRulesModel", "hasCredential", "[Z", true)
  | 5 => ("FetchRulesModel", "sent", "[I", true)
  | 6 => ("FetchRulesModel", "places", "I", false)
  | 7 => ("FetchRulesModel", "wants", "I", false)
  | 8 => ("FetchRulesModel", "keptMany", "I", false)
  | 9 => ("FetchRulesModel", "told", "I", false)
  | 10 => ("FetchRulesModel", "lacking", "I", false)
  | 11 => ("FetchRulesModel", "host", "[I", true)
  | 12 => ("FetchRulesModel", "rate", "[I", true)
  | 13 => ("FetchRulesModel", "size", "[I", true)
  | 14 => ("FetchRulesModel", "leads", "[I", true)
  | 15 => ("FetchRulesModel", "cuts", "[I", true)
  | 16 => ("FetchRulesModel", "cutBytes", "[I", true)
  | 17 => ("FetchRulesModel", "bytes", "[I", true)
  | 18 => ("FetchRulesModel", "isGone", "[Z", true)
  | 19 => ("FetchRulesModel", "asks", "[Z", true)
  | 20 => ("FetchRulesModel", "lies", "[Z", true)
  | 21 => ("FetchRulesModel", "isBarred", "[Z", true)
  | 22 => ("FetchRulesModel", "goal", "[I", true)
  | 23 => ("FetchRulesModel", "placeMany", "[I", true)
  | 24 => ("FetchRulesModel", "placeOf", "[I", true)
  | 25 => ("FetchRulesModel", "state", "[I", true)
  | 26 => ("FetchRulesModel", "at", "[I", true)
  | 27 => ("FetchRulesModel", "has", "[I", true)
  | 28 => ("FetchRulesModel", "row", "[I", true)
  | 29 => ("FetchRulesModel", "till", "[I", true)
  | 30 => ("FetchRulesModel", "turns", "[I", true)
  | 31 => ("FetchRulesModel", "falters", "[I", true)
  | 32 => ("FetchRulesModel", "kept", "[I", true)
  | 33 => ("FetchRulesModel", "keptSize", "[I", true)
  | 34 => ("FetchRulesModel", "keptRow", "[I", true)
  | 35 => ("FetchRulesModel", "toldWant", "[I", true)
  | 36 => ("FetchRulesModel", "toldPlace", "[I", true)
  | 37 => ("FetchRulesModel", "toldDigest", "[I", true)
  | 38 => ("FetchRulesModel", "lack", "[I", true)
  | 39 => ("FetchRulesModel", "files", "I", false)
  | 40 => ("FetchRulesModel", "fileAt", "[I", true)
  | 41 => ("FetchRulesModel", "fileMany", "[I", true)
  | 42 => ("FetchRulesModel", "pathAt", "[I", true)
  | _ => ("FetchRulesModel", "pathMany", "[I", true)
def ty_Md : Nat → FieldType := fun k => match k with
  | 0 => .int
  | 1 => .int
  | 2 => .int
  | 3 => .boolean
  | 4 => .array (.boolean)
  | 5 => .array (.int)
  | 6 => .int
  | 7 => .int
  | 8 => .int
  | 9 => .int
  | 10 => .int
  | 11 => .array (.int)
  | 12 => .array (.int)
  | 13 => .array (.int)
  | 14 => .array (.int)
  | 15 => .array (.int)
  | 16 => .array (.int)
  | 17 => .array (.int)
  | 18 => .array (.boolean)
  | 19 => .array (.boolean)
  | 20 => .array (.boolean)
  | 21 => .array (.boolean)
  | 22 => .array (.int)
  | 23 => .array (.int)
  | 24 => .array (.int)
  | 25 => .array (.int)
  | 26 => .array (.int)
  | 27 => .array (.int)
  | 28 => .array (.int)
  | 29 => .array (.int)
  | 30 => .array (.int)
  | 31 => .array (.int)
  | 32 => .array (.int)
  | 33 => .array (.int)
  | 34 => .array (.int)
  | 35 => .array (.int)
  | 36 => .array (.int)
  | 37 => .array (.int)
  | 38 => .array (.int)
  | 39 => .int
  | 40 => .array (.int)
  | 41 => .array (.int)
  | 42 => .array (.int)
  | _ => .array (.int)
theorem nm_Md : ∀ a, a < 44 → ∀ b, b < 44 → a ≠ b → (T_Md a).2.1 ≠ (T_Md b).2.1 := by decide +kernel
theorem tk_Md : ∀ k, k < 44 → parseFieldDescriptor (T_Md k).2.2.1 = some (ty_Md k) := by decide +kernel
theorem in_Md : ∀ w ∈ u_ws "FetchRulesModel" T_Md 44, w ∈ fr_W := fr_sub [584, 586, 588, 590, 592, 594, 596, 598, 600, 602, 604, 606, 608, 610, 612, 614, 616, 618, 620, 622, 624, 626, 628, 630, 632, 634, 636, 638, 640, 642, 644, 646, 648, 650, 652, 654, 656, 658, 660, 662, 664, 666, 668, 670] (by decide +kernel) (by decide +kernel)
abbrev vwCl : List vw_C := [("FetchRules", T_FR, 14), ("FetchRules$Files", T_Files, 5), ("FetchRules$Place", T_Place, 10), ("FetchRules$Row", T_Row, 2), ("FetchRules$Store", T_Store, 3), ("FetchRules$Tellings", T_Tellings, 4), ("FetchRules$Want", T_Want, 9), ("FetchRulesModel", T_Md, 44)]
def fr_arrs : List String := ["FetchRules$Place", "FetchRules$Want", "FetchRules$Row"]
abbrev fr_tys (T : Nat → ClassId) : List (ClassId × FieldType) := [(T 0, .int), (T 1, .boolean), (T 2, .object "FetchRules$Place"), (T 3, .object "FetchRules$Want"), (T 4, .object "FetchRules$Row")]
def y_FR_init : MethodName := ⟨"FetchRules", "<init>", "(I)V"⟩
abbrev b_FR_init : ByteArray := prog_1_method_1_code
def y_FR_credential : MethodName := ⟨"FetchRules", "credential", "(IZ)Z"⟩
abbrev b_FR_credential : ByteArray := prog_1_method_2_code
def y_FR_place : MethodName := ⟨"FetchRules", "place", "(II)I"⟩
abbrev b_FR_place : ByteArray := prog_1_method_3_code
def y_FR_content : MethodName := ⟨"FetchRules", "content", "(IJI)Z"⟩
abbrev b_FR_content : ByteArray := prog_1_method_4_code
def y_FR_does : MethodName := ⟨"FetchRules", "does", "(III)Z"⟩
abbrev b_FR_does : ByteArray := prog_1_method_5_code
def y_FR_cut : MethodName := ⟨"FetchRules", "cut", "(III)Z"⟩
abbrev b_FR_cut : ByteArray := prog_1_method_6_code
def y_FR_digest : MethodName := ⟨"FetchRules", "digest", "(I)I"⟩
abbrev b_FR_digest : ByteArray := prog_1_method_7_code
def y_FR_want : MethodName := ⟨"FetchRules", "want", "(I)I"⟩
abbrev b_FR_want : ByteArray := prog_1_method_8_code
def y_FR_from : MethodName := ⟨"FetchRules", "from", "(II)Z"⟩
abbrev b_FR_from : ByteArray := prog_1_method_9_code
def y_FR_offLine : MethodName := ⟨"FetchRules", "offLine", "(Z)V"⟩
abbrev b_FR_offLine : ByteArray := prog_1_method_10_code
def y_FR_begin : MethodName := ⟨"FetchRules", "begin", "(I)I"⟩
abbrev b_FR_begin : ByteArray := prog_1_method_11_code
def y_FR_tick : MethodName := ⟨"FetchRules", "tick", "(I)I"⟩
abbrev b_FR_tick : ByteArray := prog_1_method_12_code
def y_FR_about : MethodName := ⟨"FetchRules", "about", "(II)I"⟩
abbrev b_FR_about : ByteArray := prog_1_method_13_code
def y_FR_byteOf : MethodName := ⟨"FetchRules", "byteOf", "(II)I"⟩
abbrev b_FR_byteOf : ByteArray := prog_1_method_14_code
def y_FR_barred : MethodName := ⟨"FetchRules", "barred", "(II)I"⟩
abbrev b_FR_barred : ByteArray := prog_1_method_15_code
def y_FR_came : MethodName := ⟨"FetchRules", "came", "(I)I"⟩
abbrev b_FR_came : ByteArray := prog_1_method_16_code
def y_FR_lacks : MethodName := ⟨"FetchRules", "lacks", "(I)I"⟩
abbrev b_FR_lacks : ByteArray := prog_1_method_17_code
def y_FR_sent : MethodName := ⟨"FetchRules", "sent", "(I)I"⟩
abbrev b_FR_sent : ByteArray := prog_1_method_18_code
def y_FR_unpack : MethodName := ⟨"FetchRules", "unpack", "(II)I"⟩
abbrev b_FR_unpack : ByteArray := prog_1_method_19_code
def y_FR_file : MethodName := ⟨"FetchRules", "file", "(II)I"⟩
abbrev b_FR_file : ByteArray := prog_1_method_20_code
def y_FR_isHost : MethodName := ⟨"FetchRules", "isHost", "(I)Z"⟩
abbrev b_FR_isHost : ByteArray := prog_1_method_21_code
def y_FR_isPlace : MethodName := ⟨"FetchRules", "isPlace", "(I)Z"⟩
abbrev b_FR_isPlace : ByteArray := prog_1_method_22_code
def y_FR_isWant : MethodName := ⟨"FetchRules", "isWant", "(I)Z"⟩
abbrev b_FR_isWant : ByteArray := prog_1_method_23_code
def y_FR_noteLacking : MethodName := ⟨"FetchRules", "noteLacking", "(I)V"⟩
abbrev b_FR_noteLacking : ByteArray := prog_1_method_24_code
def y_FR_countBusy : MethodName := ⟨"FetchRules", "countBusy", "()I"⟩
abbrev b_FR_countBusy : ByteArray := prog_1_method_25_code
def y_FR_moveClock : MethodName := ⟨"FetchRules", "moveClock", "()V"⟩
abbrev b_FR_moveClock : ByteArray := prog_1_method_26_code
def y_FR_takeTurn : MethodName := ⟨"FetchRules", "takeTurn", "(I)V"⟩
abbrev b_FR_takeTurn : ByteArray := prog_1_method_27_code
def y_FR_ask : MethodName := ⟨"FetchRules", "ask", "(I)I"⟩
abbrev b_FR_ask : ByteArray := prog_1_method_28_code
def y_FR_countSent : MethodName := ⟨"FetchRules", "countSent", "(IZ)V"⟩
abbrev b_FR_countSent : ByteArray := prog_1_method_29_code
def y_FR_checkDigest : MethodName := ⟨"FetchRules", "checkDigest", "(I)V"⟩
abbrev b_FR_checkDigest : ByteArray := prog_1_method_30_code
def y_FR_falter : MethodName := ⟨"FetchRules", "falter", "(LFetchRules$Want;)V"⟩
abbrev b_FR_falter : ByteArray := prog_1_method_31_code
def y_FR_giveUp : MethodName := ⟨"FetchRules", "giveUp", "(LFetchRules$Want;)V"⟩
abbrev b_FR_giveUp : ByteArray := prog_1_method_32_code
def y_FR_fetchFrom : MethodName := ⟨"FetchRules", "fetchFrom", "(LFetchRules$Want;I)V"⟩
abbrev b_FR_fetchFrom : ByteArray := prog_1_method_33_code
def y_Md_init : MethodName := ⟨"FetchRulesModel", "<init>", "(I)V"⟩
abbrev b_Md_init : ByteArray := prog_10_method_1_code
def y_Md_isPlace : MethodName := ⟨"FetchRulesModel", "isPlace", "(I)Z"⟩
abbrev b_Md_isPlace : ByteArray := prog_10_method_3_code
def y_Md_isWant : MethodName := ⟨"FetchRulesModel", "isWant", "(I)Z"⟩
abbrev b_Md_isWant : ByteArray := prog_10_method_4_code
def y_Md_credential : MethodName := ⟨"FetchRulesModel", "credential", "(IZ)Z"⟩
abbrev b_Md_credential : ByteArray := prog_10_method_5_code
def y_Md_place : MethodName := ⟨"FetchRulesModel", "place", "(II)I"⟩
abbrev b_Md_place : ByteArray := prog_10_method_6_code
def y_Md_content : MethodName := ⟨"FetchRulesModel", "content", "(IJI)Z"⟩
abbrev b_Md_content : ByteArray := prog_10_method_7_code
def y_Md_does : MethodName := ⟨"FetchRulesModel", "does", "(III)Z"⟩
abbrev b_Md_does : ByteArray := prog_10_method_8_code
def y_Md_cut : MethodName := ⟨"FetchRulesModel", "cut", "(III)Z"⟩
abbrev b_Md_cut : ByteArray := prog_10_method_9_code
def y_Md_next : MethodName := ⟨"FetchRulesModel", "next", "(II)I"⟩
abbrev b_Md_next : ByteArray := prog_10_method_10_code
def y_Md_digest : MethodName := ⟨"FetchRulesModel", "digest", "(I)I"⟩
abbrev b_Md_digest : ByteArray := prog_10_method_11_code
def y_Md_want : MethodName := ⟨"FetchRulesModel", "want", "(I)I"⟩
abbrev b_Md_want : ByteArray := prog_10_method_12_code
def y_Md_from : MethodName := ⟨"FetchRulesModel", "from", "(II)Z"⟩
abbrev b_Md_from : ByteArray := prog_10_method_13_code
def y_Md_offLine : MethodName := ⟨"FetchRulesModel", "offLine", "(Z)V"⟩
abbrev b_Md_offLine : ByteArray := prog_10_method_14_code
def y_Md_keptOf : MethodName := ⟨"FetchRulesModel", "keptOf", "(I)I"⟩
abbrev b_Md_keptOf : ByteArray := prog_10_method_15_code
def y_Md_goOn : MethodName := ⟨"FetchRulesModel", "goOn", "(II)V"⟩
abbrev b_Md_goOn : ByteArray := prog_10_method_16_code
def y_Md_tellLack : MethodName := ⟨"FetchRulesModel", "tellLack", "(I)V"⟩
abbrev b_Md_tellLack : ByteArray := prog_10_method_17_code
def y_Md_begin : MethodName := ⟨"FetchRulesModel", "begin", "(I)I"⟩
abbrev b_Md_begin : ByteArray := prog_10_method_18_code
def y_Md_keep : MethodName := ⟨"FetchRulesModel", "keep", "(I)V"⟩
abbrev b_Md_keep : ByteArray := prog_10_method_19_code
def y_Md_ask : MethodName := ⟨"FetchRulesModel", "ask", "(I)I"⟩
abbrev b_Md_ask : ByteArray := prog_10_method_20_code
def y_Md_falter : MethodName := ⟨"FetchRulesModel", "falter", "(I)V"⟩
abbrev b_Md_falter : ByteArray := prog_10_method_21_code
def y_Md_judge : MethodName := ⟨"FetchRulesModel", "judge", "(I)V"⟩
abbrev b_Md_judge : ByteArray := prog_10_method_22_code
def y_Md_turn : MethodName := ⟨"FetchRulesModel", "turn", "(I)V"⟩
abbrev b_Md_turn : ByteArray := prog_10_method_23_code
def y_Md_tick : MethodName := ⟨"FetchRulesModel", "tick", "(I)I"⟩
abbrev b_Md_tick : ByteArray := prog_10_method_24_code
def y_Md_about : MethodName := ⟨"FetchRulesModel", "about", "(II)I"⟩
abbrev b_Md_about : ByteArray := prog_10_method_25_code
def y_Md_byteOf : MethodName := ⟨"FetchRulesModel", "byteOf", "(II)I"⟩
abbrev b_Md_byteOf : ByteArray := prog_10_method_26_code
def y_Md_barred : MethodName := ⟨"FetchRulesModel", "barred", "(II)I"⟩
abbrev b_Md_barred : ByteArray := prog_10_method_27_code
def y_Md_came : MethodName := ⟨"FetchRulesModel", "came", "(I)I"⟩
abbrev b_Md_came : ByteArray := prog_10_method_28_code
def y_Md_lacks : MethodName := ⟨"FetchRulesModel", "lacks", "(I)I"⟩
abbrev b_Md_lacks : ByteArray := prog_10_method_29_code
def y_Md_sent : MethodName := ⟨"FetchRulesModel", "sent", "(I)I"⟩
abbrev b_Md_sent : ByteArray := prog_10_method_30_code
def y_Md_isSign : MethodName := ⟨"FetchRulesModel", "isSign", "(I)Z"⟩
abbrev b_Md_isSign : ByteArray := prog_10_method_31_code
def y_Md_isRight : MethodName := ⟨"FetchRulesModel", "isRight", "(II)Z"⟩
abbrev b_Md_isRight : ByteArray := prog_10_method_32_code
def y_Md_strip : MethodName := ⟨"FetchRulesModel", "strip", "(III)I"⟩
abbrev b_Md_strip : ByteArray := prog_10_method_33_code
def y_Md_isSamePath : MethodName := ⟨"FetchRulesModel", "isSamePath", "(IIII)Z"⟩
abbrev b_Md_isSamePath : ByteArray := prog_10_method_34_code
def y_Md_putFile : MethodName := ⟨"FetchRulesModel", "putFile", "(IIIII)V"⟩
abbrev b_Md_putFile : ByteArray := prog_10_method_35_code
def y_Md_read : MethodName := ⟨"FetchRulesModel", "read", "(IIZ)I"⟩
abbrev b_Md_read : ByteArray := prog_10_method_36_code
def y_Md_unpack : MethodName := ⟨"FetchRulesModel", "unpack", "(II)I"⟩
abbrev b_Md_unpack : ByteArray := prog_10_method_37_code
def y_Md_file : MethodName := ⟨"FetchRulesModel", "file", "(II)I"⟩
abbrev b_Md_file : ByteArray := prog_10_method_38_code
def y_Archive_findIll : MethodName := ⟨"FetchRules$Archive", "findIll", "(LFetchRules$Row;)I"⟩
abbrev b_Archive_findIll : ByteArray := prog_2_method_2_code
def y_Archive_findIllOfEntry : MethodName := ⟨"FetchRules$Archive", "findIllOfEntry", "(LFetchRules$Row;I)I"⟩
abbrev b_Archive_findIllOfEntry : ByteArray := prog_2_method_3_code
def y_Archive_pathEnd : MethodName := ⟨"FetchRules$Archive", "pathEnd", "(LFetchRules$Row;I)I"⟩
abbrev b_Archive_pathEnd : ByteArray := prog_2_method_4_code
def y_Archive_entryEnd : MethodName := ⟨"FetchRules$Archive", "entryEnd", "(LFetchRules$Row;I)I"⟩
abbrev b_Archive_entryEnd : ByteArray := prog_2_method_5_code
def y_Archive_isRightPath : MethodName := ⟨"FetchRules$Archive", "isRightPath", "(LFetchRules$Row;II)Z"⟩
abbrev b_Archive_isRightPath : ByteArray := prog_2_method_6_code
def y_Archive_isPathCharacter : MethodName := ⟨"FetchRules$Archive", "isPathCharacter", "(I)Z"⟩
abbrev b_Archive_isPathCharacter : ByteArray := prog_2_method_7_code
def y_Archive_isRightSegment : MethodName := ⟨"FetchRules$Archive", "isRightSegment", "(LFetchRules$Row;II)Z"⟩
abbrev b_Archive_isRightSegment : ByteArray := prog_2_method_8_code
def y_Archive_strippedStart : MethodName := ⟨"FetchRules$Archive", "strippedStart", "(LFetchRules$Row;III)I"⟩
abbrev b_Archive_strippedStart : ByteArray := prog_2_method_9_code
def y_Files_init : MethodName := ⟨"FetchRules$Files", "<init>", "()V"⟩
abbrev b_Files_init : ByteArray := prog_3_method_1_code
def y_Files_has : MethodName := ⟨"FetchRules$Files", "has", "(I)Z"⟩
abbrev b_Files_has : ByteArray := prog_3_method_2_code
def y_Files_fill : MethodName := ⟨"FetchRules$Files", "fill", "(LFetchRules$Row;I)V"⟩
abbrev b_Files_fill : ByteArray := prog_3_method_3_code
def y_Files_put : MethodName := ⟨"FetchRules$Files", "put", "(LFetchRules$Row;II)V"⟩
abbrev b_Files_put : ByteArray := prog_3_method_4_code
def y_Files_findPath : MethodName := ⟨"FetchRules$Files", "findPath", "(LFetchRules$Row;II)I"⟩
abbrev b_Files_findPath : ByteArray := prog_3_method_5_code
def y_Place_init : MethodName := ⟨"FetchRules$Place", "<init>", "()V"⟩
abbrev b_Place_init : ByteArray := prog_4_method_1_code
def y_Place_leadsOn : MethodName := ⟨"FetchRules$Place", "leadsOn", "()Z"⟩
abbrev b_Place_leadsOn : ByteArray := prog_4_method_2_code
def y_Place_gives : MethodName := ⟨"FetchRules$Place", "gives", "(Z)Z"⟩
abbrev b_Place_gives : ByteArray := prog_4_method_3_code
def y_Place_giveTo : MethodName := ⟨"FetchRules$Place", "giveTo", "(LFetchRules$Row;)Z"⟩
abbrev b_Place_giveTo : ByteArray := prog_4_method_4_code
def y_Place_givenByte : MethodName := ⟨"FetchRules$Place", "givenByte", "(I)I"⟩
abbrev b_Place_givenByte : ByteArray := prog_4_method_5_code
def y_Row_init : MethodName := ⟨"FetchRules$Row", "<init>", "()V"⟩
abbrev b_Row_init : ByteArray := prog_5_method_1_code
def y_Row_at : MethodName := ⟨"FetchRules$Row", "at", "(I)I"⟩
abbrev b_Row_at : ByteArray := prog_5_method_2_code
def y_Row_append : MethodName := ⟨"FetchRules$Row", "append", "(I)V"⟩
abbrev b_Row_append : ByteArray := prog_5_method_3_code
def y_Row_copyFrom : MethodName := ⟨"FetchRules$Row", "copyFrom", "(LFetchRules$Row;)V"⟩
abbrev b_Row_copyFrom : ByteArray := prog_5_method_4_code
def y_Row_computeDigest : MethodName := ⟨"FetchRules$Row", "computeDigest", "()I"⟩
abbrev b_Row_computeDigest : ByteArray := prog_5_method_5_code
def y_Row_hasSame : MethodName := ⟨"FetchRules$Row", "hasSame", "(III)Z"⟩
abbrev b_Row_hasSame : ByteArray := prog_5_method_6_code
def y_Store_init : MethodName := ⟨"FetchRules$Store", "<init>", "()V"⟩
abbrev b_Store_init : ByteArray := prog_6_method_1_code
def y_Store_find : MethodName := ⟨"FetchRules$Store", "find", "(I)I"⟩
abbrev b_Store_find : ByteArray := prog_6_method_2_code
def y_Store_keep : MethodName := ⟨"FetchRules$Store", "keep", "(ILFetchRules$Row;)V"⟩
abbrev b_Store_keep : ByteArray := prog_6_method_3_code
def y_Tellings_init : MethodName := ⟨"FetchRules$Tellings", "<init>", "()V"⟩
abbrev b_Tellings_init : ByteArray := prog_7_method_1_code
def y_Tellings_has : MethodName := ⟨"FetchRules$Tellings", "has", "(I)Z"⟩
abbrev b_Tellings_has : ByteArray := prog_7_method_2_code
def y_Tellings_tell : MethodName := ⟨"FetchRules$Tellings", "tell", "(III)V"⟩
abbrev b_Tellings_tell : ByteArray := prog_7_method_3_code
def y_Want_init : MethodName := ⟨"FetchRules$Want", "<init>", "()V"⟩
abbrev b_Want_init : ByteArray := prog_8_method_1_code
def y_Want_isBusy : MethodName := ⟨"FetchRules$Want", "isBusy", "()Z"⟩
abbrev b_Want_isBusy : ByteArray := prog_8_method_2_code
def y_Want_currentPlace : MethodName := ⟨"FetchRules$Want", "currentPlace", "()I"⟩
abbrev b_Want_currentPlace : ByteArray := prog_8_method_3_code
def y_Want_addPlace : MethodName := ⟨"FetchRules$Want", "addPlace", "(I)Z"⟩
abbrev b_Want_addPlace : ByteArray := prog_8_method_4_code
def y_Want_startAt : MethodName := ⟨"FetchRules$Want", "startAt", "(I)V"⟩
abbrev b_Want_startAt : ByteArray := prog_8_method_5_code
def fr_nests : List (String × Nat × MethodName × String) := [("FetchRules$Store", 25, y_Row_init, "FetchRules"), ("FetchRules", 45, y_Tellings_init, "FetchRules"), ("FetchRules", 58, y_Files_init, "FetchRules"), ("FetchRules", 82, y_Place_init, "FetchRules"), ("FetchRules$Place", 11, y_Row_init, "FetchRules"), ("FetchRules", 83, y_Want_init, "FetchRules"), ("FetchRules$Want", 11, y_Row_init, "FetchRules")]
end
section
theorem k_0 : Cond.selects "FetchRules" y_FR_isPlace y_FR_isPlace ∈ fr_W := fr_m 0 (by decide +kernel) (by decide +kernel)
theorem k_1 : Cond.selects "FetchRules" y_FR_isWant y_FR_isWant ∈ fr_W := fr_m 1 (by decide +kernel) (by decide +kernel)
theorem k_2 : Cond.selects "FetchRules" y_FR_noteLacking y_FR_noteLacking ∈ fr_W := fr_m 2 (by decide +kernel) (by decide +kernel)
theorem k_3 : Cond.selects "FetchRules" y_FR_fetchFrom y_FR_fetchFrom ∈ fr_W := fr_m 3 (by decide +kernel) (by decide +kernel)
theorem k_4 : Cond.selects "FetchRules" y_FR_moveClock y_FR_moveClock ∈ fr_W := fr_m 4 (by decide +kernel) (by decide +kernel)
theorem k_5 : Cond.selects "FetchRules" y_FR_takeTurn y_FR_takeTurn ∈ fr_W := fr_m 5 (by decide +kernel) (by decide +kernel)
theorem k_6 : Cond.selects "FetchRules" y_FR_ask y_FR_ask ∈ fr_W := fr_m 6 (by decide +kernel) (by decide +kernel)
theorem k_7 : Cond.selects "FetchRules" y_FR_countSent y_FR_countSent ∈ fr_W := fr_m 7 (by decide +kernel) (by decide +kernel)
theorem k_8 : Cond.selects "FetchRules" y_FR_giveUp y_FR_giveUp ∈ fr_W := fr_m 8 (by decide +kernel) (by decide +kernel)
theorem k_9 : Cond.selects "FetchRules$Place" y_Place_givenByte y_Place_givenByte ∈ fr_W := fr_m 9 (by decide +kernel) (by decide +kernel)
theorem k_10 : Cond.selects "FetchRules" y_FR_checkDigest y_FR_checkDigest ∈ fr_W := fr_m 10 (by decide +kernel) (by decide +kernel)
theorem k_11 : Cond.selects "FetchRules" y_FR_falter y_FR_falter ∈ fr_W := fr_m 11 (by decide +kernel) (by decide +kernel)
theorem k_12 : Cond.selects "FetchRules" y_FR_countBusy y_FR_countBusy ∈ fr_W := fr_m 12 (by decide +kernel) (by decide +kernel)
theorem k_13 : Cond.selects "FetchRules$Files" y_Files_put y_Files_put ∈ fr_W := fr_m 13 (by decide +kernel) (by decide +kernel)
theorem k_14 : Cond.selects "FetchRules$Files" y_Files_findPath y_Files_findPath ∈ fr_W := fr_m 14 (by decide +kernel) (by decide +kernel)
theorem k_15 : Cond.selects "FetchRulesModel" y_Md_isPlace y_Md_isPlace ∈ fr_W := fr_m 15 (by decide +kernel) (by decide +kernel)
theorem k_16 : Cond.selects "FetchRulesModel" y_Md_isWant y_Md_isWant ∈ fr_W := fr_m 16 (by decide +kernel) (by decide +kernel)
theorem k_17 : Cond.selects "FetchRulesModel" y_Md_keptOf y_Md_keptOf ∈ fr_W := fr_m 17 (by decide +kernel) (by decide +kernel)
theorem k_18 : Cond.selects "FetchRulesModel" y_Md_tellLack y_Md_tellLack ∈ fr_W := fr_m 18 (by decide +kernel) (by decide +kernel)
theorem k_19 : Cond.selects "FetchRulesModel" y_Md_goOn y_Md_goOn ∈ fr_W := fr_m 19 (by decide +kernel) (by decide +kernel)
theorem k_20 : Cond.selects "FetchRulesModel" y_Md_turn y_Md_turn ∈ fr_W := fr_m 20 (by decide +kernel) (by decide +kernel)
theorem k_21 : Cond.selects "FetchRulesModel" y_Md_ask y_Md_ask ∈ fr_W := fr_m 21 (by decide +kernel) (by decide +kernel)
theorem k_22 : Cond.selects "FetchRulesModel" y_Md_judge y_Md_judge ∈ fr_W := fr_m 22 (by decide +kernel) (by decide +kernel)
theorem k_23 : Cond.selects "FetchRulesModel" y_Md_keep y_Md_keep ∈ fr_W := fr_m 23 (by decide +kernel) (by decide +kernel)
theorem k_24 : Cond.selects "FetchRulesModel" y_Md_falter y_Md_falter ∈ fr_W := fr_m 24 (by decide +kernel) (by decide +kernel)
theorem k_25 : Cond.selects "FetchRulesModel" y_Md_read y_Md_read ∈ fr_W := fr_m 25 (by decide +kernel) (by decide +kernel)
theorem k_26 : Cond.selects "FetchRulesModel" y_Md_isRight y_Md_isRight ∈ fr_W := fr_m 26 (by decide +kernel) (by decide +kernel)
theorem k_27 : Cond.selects "FetchRulesModel" y_Md_strip y_Md_strip ∈ fr_W := fr_m 27 (by decide +kernel) (by decide +kernel)
theorem k_28 : Cond.selects "FetchRulesModel" y_Md_putFile y_Md_putFile ∈ fr_W := fr_m 28 (by decide +kernel) (by decide +kernel)
theorem k_29 : Cond.selects "FetchRulesModel" y_Md_isSamePath y_Md_isSamePath ∈ fr_W := fr_m 29 (by decide +kernel) (by decide +kernel)
theorem k_31 : Cond.initialized "FetchRules" ∈ fr_W := fr_m 31 (by decide +kernel) (by decide +kernel)
theorem k_32 : Cond.initialized "FetchRules$Store" ∈ fr_W := fr_m 32 (by decide +kernel) (by decide +kernel)
theorem k_33 : Cond.initialized "FetchRules$Row" ∈ fr_W := fr_m 33 (by decide +kernel) (by decide +kernel)
theorem k_34 : Cond.initialized "FetchRules$Tellings" ∈ fr_W := fr_m 34 (by decide +kernel) (by decide +kernel)
theorem k_35 : Cond.initialized "FetchRules$Files" ∈ fr_W := fr_m 35 (by decide +kernel) (by decide +kernel)
theorem k_36 : Cond.initialized "java/lang/Math" ∈ fr_W := fr_m 36 (by decide +kernel) (by decide +kernel)
theorem k_37 : Cond.initialized "FetchRules$Place" ∈ fr_W := fr_m 37 (by decide +kernel) (by decide +kernel)
theorem k_38 : Cond.initialized "FetchRules$Want" ∈ fr_W := fr_m 38 (by decide +kernel) (by decide +kernel)
theorem k_39 : Cond.initialized "FetchRulesModel" ∈ fr_W := fr_m 39 (by decide +kernel) (by decide +kernel)
theorem k_40 : Cond.initialized "java/lang/System" ∈ fr_W := fr_m 40 (by decide +kernel) (by decide +kernel)
theorem k_41 : Cond.initialized "FetchRules$Archive" ∈ fr_W := fr_m 41 (by decide +kernel) (by decide +kernel)
theorem k_47 : Cond.methodLink "FetchRules" 3 objectInit ∈ fr_W := fr_m 47 (by decide +kernel) (by decide +kernel)
theorem k_48 : Cond.instanceMethod objectInit ∈ fr_W := fr_m 48 (by decide +kernel) (by decide +kernel)
theorem k_49 : Cond.code objectInit ⟨#[0xb1]⟩ 1 none ∈ fr_W := fr_m 49 (by decide +kernel) (by decide +kernel)
theorem k_50 : Cond.classLink "FetchRules" 17 "FetchRules$Place" ∈ fr_W := fr_m 50 (by decide +kernel) (by decide +kernel)
theorem k_52 : Cond.classLink "FetchRules" 27 "FetchRules$Want" ∈ fr_W := fr_m 52 (by decide +kernel) (by decide +kernel)
theorem k_54 : Cond.classLink "FetchRules" 36 "FetchRules$Store" ∈ fr_W := fr_m 54 (by decide +kernel) (by decide +kernel)
theorem k_55 : Cond.instantiable "FetchRules$Store" 3 ∈ fr_W := fr_m 55 (by decide +kernel) (by decide +kernel)
theorem k_56 : Cond.methodLink "FetchRules" 38 y_Store_init ∈ fr_W := fr_m 56 (by decide +kernel) (by decide +kernel)
theorem k_57 : Cond.instanceMethod y_Store_init ∈ fr_W := fr_m 57 (by decide +kernel) (by decide +kernel)
theorem k_58 : Cond.code y_Store_init b_Store_init 2 none ∈ fr_W := fr_m 58 (by decide +kernel) (by decide +kernel)
theorem k_59 : Cond.methodLink "FetchRules$Store" 3 objectInit ∈ fr_W := fr_m 59 (by decide +kernel) (by decide +kernel)
theorem k_60 : Cond.classLink "FetchRules$Store" 15 "FetchRules$Row" ∈ fr_W := fr_m 60 (by decide +kernel) (by decide +kernel)
theorem k_62 : Cond.instantiable "FetchRules$Row" 2 ∈ fr_W := fr_m 62 (by decide +kernel) (by decide +kernel)
theorem k_64 : Cond.instanceMethod y_Row_init ∈ fr_W := fr_m 64 (by decide +kernel) (by decide +kernel)
theorem k_65 : Cond.code y_Row_init b_Row_init 1 none ∈ fr_W := fr_m 65 (by decide +kernel) (by decide +kernel)
theorem k_66 : Cond.methodLink "FetchRules$Row" 3 objectInit ∈ fr_W := fr_m 66 (by decide +kernel) (by decide +kernel)
theorem k_67 : Cond.fieldLink "FetchRules$Row" 9 "FetchRules$Row" "values" "[I" ∈ fr_W := fr_m 67 (by decide +kernel) (by decide +kernel)
theorem k_68 : Cond.fieldLink "FetchRules$Row" 15 "FetchRules$Row" "length" "I" ∈ fr_W := fr_m 68 (by decide +kernel) (by decide +kernel)
theorem k_69 : Cond.fieldLink "FetchRules$Archive" 9 "FetchRules$Row" "length" "I" ∈ fr_W := fr_m 69 (by decide +kernel) (by decide +kernel)
theorem k_70 : Cond.fieldLink "FetchRules$Files" 28 "FetchRules$Row" "length" "I" ∈ fr_W := fr_m 70 (by decide +kernel) (by decide +kernel)
theorem k_71 : Cond.fieldLink "FetchRules" 101 "FetchRules$Row" "length" "I" ∈ fr_W := fr_m 71 (by decide +kernel) (by decide +kernel)
theorem k_72 : Cond.fieldLink "FetchRules$Place" 53 "FetchRules$Row" "length" "I" ∈ fr_W := fr_m 72 (by decide +kernel) (by decide +kernel)
theorem k_73 : Cond.fieldLink "FetchRules$Want" 44 "FetchRules$Row" "length" "I" ∈ fr_W := fr_m 73 (by decide +kernel) (by decide +kernel)
theorem k_79 : Cond.arrayClass .boolean ∈ fr_W := fr_m 79 (by decide +kernel) (by decide +kernel)
theorem k_80 : Cond.arrayClass .int ∈ fr_W := fr_m 80 (by decide +kernel) (by decide +kernel)
theorem k_81 : Cond.fieldLink "FetchRules$Store" 9 "FetchRules$Store" "digests" "[I" ∈ fr_W := fr_m 81 (by decide +kernel) (by decide +kernel)
theorem k_82 : Cond.fieldLink "FetchRules$Store" 17 "FetchRules$Store" "rows" "[LFetchRules$Row;" ∈ fr_W := fr_m 82 (by decide +kernel) (by decide +kernel)
theorem k_83 : Cond.fieldLink "FetchRules" 153 "FetchRules$Store" "rows" "[LFetchRules$Row;" ∈ fr_W := fr_m 83 (by decide +kernel) (by decide +kernel)
theorem k_84 : Cond.fieldLink "FetchRules$Store" 21 "FetchRules$Store" "count" "I" ∈ fr_W := fr_m 84 (by decide +kernel) (by decide +kernel)
theorem k_92 : Cond.classLink "FetchRules" 43 "FetchRules$Tellings" ∈ fr_W := fr_m 92 (by decide +kernel) (by decide +kernel)
theorem k_93 : Cond.instantiable "FetchRules$Tellings" 4 ∈ fr_W := fr_m 93 (by decide +kernel) (by decide +kernel)
theorem k_95 : Cond.instanceMethod y_Tellings_init ∈ fr_W := fr_m 95 (by decide +kernel) (by decide +kernel)
theorem k_96 : Cond.code y_Tellings_init b_Tellings_init 1 none ∈ fr_W := fr_m 96 (by decide +kernel) (by decide +kernel)
theorem k_97 : Cond.methodLink "FetchRules$Tellings" 3 objectInit ∈ fr_W := fr_m 97 (by decide +kernel) (by decide +kernel)
theorem k_98 : Cond.fieldLink "FetchRules$Tellings" 9 "FetchRules$Tellings" "wantNumbers" "[I" ∈ fr_W := fr_m 98 (by decide +kernel) (by decide +kernel)
theorem k_99 : Cond.fieldLink "FetchRules" 189 "FetchRules$Tellings" "wantNumbers" "[I" ∈ fr_W := fr_m 99 (by decide +kernel) (by decide +kernel)
theorem k_100 : Cond.fieldLink "FetchRules$Tellings" 15 "FetchRules$Tellings" "placeNumbers" "[I" ∈ fr_W := fr_m 100 (by decide +kernel) (by decide +kernel)
theorem k_101 : Cond.fieldLink "FetchRules" 192 "FetchRules$Tellings" "placeNumbers" "[I" ∈ fr_W := fr_m 101 (by decide +kernel) (by decide +kernel)
theorem k_102 : Cond.fieldLink "FetchRules$Tellings" 18 "FetchRules$Tellings" "digests" "[I" ∈ fr_W := fr_m 102 (by decide +kernel) (by decide +kernel)
theorem k_103 : Cond.fieldLink "FetchRules" 195 "FetchRules$Tellings" "digests" "[I" ∈ fr_W := fr_m 103 (by decide +kernel) (by decide +kernel)
theorem k_104 : Cond.fieldLink "FetchRules$Tellings" 21 "FetchRules$Tellings" "count" "I" ∈ fr_W := fr_m 104 (by decide +kernel) (by decide +kernel)
theorem k_114 : Cond.classLink "FetchRules" 56 "FetchRules$Files" ∈ fr_W := fr_m 114 (by decide +kernel) (by decide +kernel)
theorem k_115 : Cond.instantiable "FetchRules$Files" 5 ∈ fr_W := fr_m 115 (by decide +kernel) (by decide +kernel)
theorem k_117 : Cond.instanceMethod y_Files_init ∈ fr_W := fr_m 117 (by decide +kernel) (by decide +kernel)
theorem k_118 : Cond.code y_Files_init b_Files_init 1 none ∈ fr_W := fr_m 118 (by decide +kernel) (by decide +kernel)
theorem k_119 : Cond.methodLink "FetchRules$Files" 3 objectInit ∈ fr_W := fr_m 119 (by decide +kernel) (by decide +kernel)
theorem k_120 : Cond.fieldLink "FetchRules$Files" 9 "FetchRules$Files" "bytesStarts" "[I" ∈ fr_W := fr_m 120 (by decide +kernel) (by decide +kernel)
theorem k_121 : Cond.fieldLink "FetchRules" 212 "FetchRules$Files" "bytesStarts" "[I" ∈ fr_W := fr_m 121 (by decide +kernel) (by decide +kernel)
theorem k_122 : Cond.fieldLink "FetchRules$Files" 15 "FetchRules$Files" "bytesLengths" "[I" ∈ fr_W := fr_m 122 (by decide +kernel) (by decide +kernel)
theorem k_123 : Cond.fieldLink "FetchRules" 215 "FetchRules$Files" "bytesLengths" "[I" ∈ fr_W := fr_m 123 (by decide +kernel) (by decide +kernel)
theorem k_124 : Cond.fieldLink "FetchRules$Files" 18 "FetchRules$Files" "pathStarts" "[I" ∈ fr_W := fr_m 124 (by decide +kernel) (by decide +kernel)
theorem k_125 : Cond.fieldLink "FetchRules" 218 "FetchRules$Files" "pathStarts" "[I" ∈ fr_W := fr_m 125 (by decide +kernel) (by decide +kernel)
theorem k_126 : Cond.fieldLink "FetchRules$Files" 21 "FetchRules$Files" "pathLengths" "[I" ∈ fr_W := fr_m 126 (by decide +kernel) (by decide +kernel)
theorem k_127 : Cond.fieldLink "FetchRules" 221 "FetchRules$Files" "pathLengths" "[I" ∈ fr_W := fr_m 127 (by decide +kernel) (by decide +kernel)
theorem k_128 : Cond.fieldLink "FetchRules$Files" 24 "FetchRules$Files" "count" "I" ∈ fr_W := fr_m 128 (by decide +kernel) (by decide +kernel)
theorem k_129 : Cond.fieldLink "FetchRules" 208 "FetchRules$Files" "count" "I" ∈ fr_W := fr_m 129 (by decide +kernel) (by decide +kernel)
theorem k_141 : Cond.methodLink "FetchRules" 70 Lib.Math.min.name ∈ fr_W := fr_m 141 (by decide +kernel) (by decide +kernel)
theorem k_142 : Cond.static Lib.Math.min.name ∈ fr_W := fr_m 142 (by decide +kernel) (by decide +kernel)
theorem k_143 : Cond.code Lib.Math.min.name Lib.Math.min.code 2 (some .int) ∈ fr_W := fr_m 143 (by decide +kernel) (by decide +kernel)
theorem k_144 : Cond.methodLink "FetchRules" 76 Lib.Math.max.name ∈ fr_W := fr_m 144 (by decide +kernel) (by decide +kernel)
theorem k_145 : Cond.static Lib.Math.max.name ∈ fr_W := fr_m 145 (by decide +kernel) (by decide +kernel)
theorem k_146 : Cond.code Lib.Math.max.name Lib.Math.max.code 2 (some .int) ∈ fr_W := fr_m 146 (by decide +kernel) (by decide +kernel)
theorem k_147 : Cond.instantiable "FetchRules$Place" 10 ∈ fr_W := fr_m 147 (by decide +kernel) (by decide +kernel)
theorem k_149 : Cond.instanceMethod y_Place_init ∈ fr_W := fr_m 149 (by decide +kernel) (by decide +kernel)
theorem k_150 : Cond.code y_Place_init b_Place_init 1 none ∈ fr_W := fr_m 150 (by decide +kernel) (by decide +kernel)
theorem k_151 : Cond.methodLink "FetchRules$Place" 3 objectInit ∈ fr_W := fr_m 151 (by decide +kernel) (by decide +kernel)
theorem k_152 : Cond.classLink "FetchRules$Place" 9 "FetchRules$Row" ∈ fr_W := fr_m 152 (by decide +kernel) (by decide +kernel)
theorem k_154 : Cond.fieldLink "FetchRules$Place" 12 "FetchRules$Place" "bytes" "LFetchRules$Row;" ∈ fr_W := fr_m 154 (by decide +kernel) (by decide +kernel)
theorem k_155 : Cond.fieldLink "FetchRules" 97 "FetchRules$Place" "bytes" "LFetchRules$Row;" ∈ fr_W := fr_m 155 (by decide +kernel) (by decide +kernel)
theorem k_156 : Cond.fieldLink "FetchRules$Place" 18 "FetchRules$Place" "host" "I" ∈ fr_W := fr_m 156 (by decide +kernel) (by decide +kernel)
theorem k_157 : Cond.fieldLink "FetchRules" 88 "FetchRules$Place" "host" "I" ∈ fr_W := fr_m 157 (by decide +kernel) (by decide +kernel)
theorem k_158 : Cond.fieldLink "FetchRules$Place" 22 "FetchRules$Place" "rate" "I" ∈ fr_W := fr_m 158 (by decide +kernel) (by decide +kernel)
theorem k_159 : Cond.fieldLink "FetchRules" 91 "FetchRules$Place" "rate" "I" ∈ fr_W := fr_m 159 (by decide +kernel) (by decide +kernel)
theorem k_160 : Cond.fieldLink "FetchRules$Place" 25 "FetchRules$Place" "leadsTo" "I" ∈ fr_W := fr_m 160 (by decide +kernel) (by decide +kernel)
theorem k_161 : Cond.fieldLink "FetchRules" 113 "FetchRules$Place" "leadsTo" "I" ∈ fr_W := fr_m 161 (by decide +kernel) (by decide +kernel)
theorem k_162 : Cond.fieldLink "FetchRules$Place" 28 "FetchRules$Place" "cutsLeft" "I" ∈ fr_W := fr_m 162 (by decide +kernel) (by decide +kernel)
theorem k_163 : Cond.fieldLink "FetchRules" 122 "FetchRules$Place" "cutsLeft" "I" ∈ fr_W := fr_m 163 (by decide +kernel) (by decide +kernel)
theorem k_164 : Cond.fieldLink "FetchRules$Place" 31 "FetchRules$Place" "cutBytes" "I" ∈ fr_W := fr_m 164 (by decide +kernel) (by decide +kernel)
theorem k_165 : Cond.fieldLink "FetchRules" 125 "FetchRules$Place" "cutBytes" "I" ∈ fr_W := fr_m 165 (by decide +kernel) (by decide +kernel)
theorem k_166 : Cond.fieldLink "FetchRules$Place" 34 "FetchRules$Place" "isGone" "Z" ∈ fr_W := fr_m 166 (by decide +kernel) (by decide +kernel)
theorem k_167 : Cond.fieldLink "FetchRules" 110 "FetchRules$Place" "isGone" "Z" ∈ fr_W := fr_m 167 (by decide +kernel) (by decide +kernel)
theorem k_168 : Cond.fieldLink "FetchRules$Place" 38 "FetchRules$Place" "wantsCredential" "Z" ∈ fr_W := fr_m 168 (by decide +kernel) (by decide +kernel)
theorem k_169 : Cond.fieldLink "FetchRules" 116 "FetchRules$Place" "wantsCredential" "Z" ∈ fr_W := fr_m 169 (by decide +kernel) (by decide +kernel)
theorem k_170 : Cond.fieldLink "FetchRules$Place" 41 "FetchRules$Place" "lies" "Z" ∈ fr_W := fr_m 170 (by decide +kernel) (by decide +kernel)
theorem k_171 : Cond.fieldLink "FetchRules" 119 "FetchRules$Place" "lies" "Z" ∈ fr_W := fr_m 171 (by decide +kernel) (by decide +kernel)
theorem k_172 : Cond.fieldLink "FetchRules$Place" 44 "FetchRules$Place" "isBarred" "Z" ∈ fr_W := fr_m 172 (by decide +kernel) (by decide +kernel)
theorem k_173 : Cond.fieldLink "FetchRules" 259 "FetchRules$Place" "isBarred" "Z" ∈ fr_W := fr_m 173 (by decide +kernel) (by decide +kernel)
theorem k_195 : Cond.instantiable "FetchRules$Want" 9 ∈ fr_W := fr_m 195 (by decide +kernel) (by decide +kernel)
theorem k_197 : Cond.instanceMethod y_Want_init ∈ fr_W := fr_m 197 (by decide +kernel) (by decide +kernel)
theorem k_198 : Cond.code y_Want_init b_Want_init 1 none ∈ fr_W := fr_m 198 (by decide +kernel) (by decide +kernel)
theorem k_199 : Cond.methodLink "FetchRules$Want" 3 objectInit ∈ fr_W := fr_m 199 (by decide +kernel) (by decide +kernel)
theorem k_200 : Cond.classLink "FetchRules$Want" 9 "FetchRules$Row" ∈ fr_W := fr_m 200 (by decide +kernel) (by decide +kernel)
theorem k_202 : Cond.fieldLink "FetchRules$Want" 12 "FetchRules$Want" "bytes" "LFetchRules$Row;" ∈ fr_W := fr_m 202 (by decide +kernel) (by decide +kernel)
theorem k_203 : Cond.fieldLink "FetchRules" 152 "FetchRules$Want" "bytes" "LFetchRules$Row;" ∈ fr_W := fr_m 203 (by decide +kernel) (by decide +kernel)
theorem k_204 : Cond.fieldLink "FetchRules$Want" 18 "FetchRules$Want" "placeNumbers" "[I" ∈ fr_W := fr_m 204 (by decide +kernel) (by decide +kernel)
theorem k_205 : Cond.fieldLink "FetchRules" 273 "FetchRules$Want" "placeNumbers" "[I" ∈ fr_W := fr_m 205 (by decide +kernel) (by decide +kernel)
theorem k_206 : Cond.fieldLink "FetchRules$Want" 22 "FetchRules$Want" "placeCount" "I" ∈ fr_W := fr_m 206 (by decide +kernel) (by decide +kernel)
theorem k_207 : Cond.fieldLink "FetchRules" 272 "FetchRules$Want" "placeCount" "I" ∈ fr_W := fr_m 207 (by decide +kernel) (by decide +kernel)
theorem k_208 : Cond.fieldLink "FetchRules$Want" 26 "FetchRules$Want" "wantedDigest" "I" ∈ fr_W := fr_m 208 (by decide +kernel) (by decide +kernel)
theorem k_209 : Cond.fieldLink "FetchRules" 132 "FetchRules$Want" "wantedDigest" "I" ∈ fr_W := fr_m 209 (by decide +kernel) (by decide +kernel)
theorem k_210 : Cond.fieldLink "FetchRules$Want" 29 "FetchRules$Want" "state" "I" ∈ fr_W := fr_m 210 (by decide +kernel) (by decide +kernel)
theorem k_211 : Cond.fieldLink "FetchRules" 138 "FetchRules$Want" "state" "I" ∈ fr_W := fr_m 211 (by decide +kernel) (by decide +kernel)
theorem k_212 : Cond.fieldLink "FetchRules$Want" 32 "FetchRules$Want" "current" "I" ∈ fr_W := fr_m 212 (by decide +kernel) (by decide +kernel)
theorem k_213 : Cond.fieldLink "FetchRules" 269 "FetchRules$Want" "current" "I" ∈ fr_W := fr_m 213 (by decide +kernel) (by decide +kernel)
theorem k_214 : Cond.fieldLink "FetchRules$Want" 35 "FetchRules$Want" "falters" "I" ∈ fr_W := fr_m 214 (by decide +kernel) (by decide +kernel)
theorem k_215 : Cond.fieldLink "FetchRules" 266 "FetchRules$Want" "falters" "I" ∈ fr_W := fr_m 215 (by decide +kernel) (by decide +kernel)
theorem k_216 : Cond.fieldLink "FetchRules$Want" 38 "FetchRules$Want" "waitsTill" "I" ∈ fr_W := fr_m 216 (by decide +kernel) (by decide +kernel)
theorem k_217 : Cond.fieldLink "FetchRules" 177 "FetchRules$Want" "waitsTill" "I" ∈ fr_W := fr_m 217 (by decide +kernel) (by decide +kernel)
theorem k_218 : Cond.fieldLink "FetchRules$Want" 41 "FetchRules$Want" "turns" "I" ∈ fr_W := fr_m 218 (by decide +kernel) (by decide +kernel)
theorem k_219 : Cond.fieldLink "FetchRules" 180 "FetchRules$Want" "turns" "I" ∈ fr_W := fr_m 219 (by decide +kernel) (by decide +kernel)
theorem k_239 : Cond.fieldLink "FetchRules" 79 "FetchRules" "retries" "I" ∈ fr_W := fr_m 239 (by decide +kernel) (by decide +kernel)
theorem k_240 : Cond.fieldLink "FetchRules" 9 "FetchRules" "credentials" "[Z" ∈ fr_W := fr_m 240 (by decide +kernel) (by decide +kernel)
theorem k_241 : Cond.fieldLink "FetchRules" 13 "FetchRules" "sentCounts" "[I" ∈ fr_W := fr_m 241 (by decide +kernel) (by decide +kernel)
theorem k_242 : Cond.fieldLink "FetchRules" 19 "FetchRules" "places" "[LFetchRules$Place;" ∈ fr_W := fr_m 242 (by decide +kernel) (by decide +kernel)
theorem k_243 : Cond.fieldLink "FetchRules" 23 "FetchRules" "placeCount" "I" ∈ fr_W := fr_m 243 (by decide +kernel) (by decide +kernel)
theorem k_244 : Cond.fieldLink "FetchRules" 29 "FetchRules" "wants" "[LFetchRules$Want;" ∈ fr_W := fr_m 244 (by decide +kernel) (by decide +kernel)
theorem k_245 : Cond.fieldLink "FetchRules" 33 "FetchRules" "wantCount" "I" ∈ fr_W := fr_m 245 (by decide +kernel) (by decide +kernel)
theorem k_246 : Cond.fieldLink "FetchRules" 39 "FetchRules" "store" "LFetchRules$Store;" ∈ fr_W := fr_m 246 (by decide +kernel) (by decide +kernel)
theorem k_247 : Cond.fieldLink "FetchRules" 46 "FetchRules" "tellings" "LFetchRules$Tellings;" ∈ fr_W := fr_m 247 (by decide +kernel) (by decide +kernel)
theorem k_248 : Cond.fieldLink "FetchRules" 50 "FetchRules" "lacking" "[I" ∈ fr_W := fr_m 248 (by decide +kernel) (by decide +kernel)
theorem k_249 : Cond.fieldLink "FetchRules" 53 "FetchRules" "lackingCount" "I" ∈ fr_W := fr_m 249 (by decide +kernel) (by decide +kernel)
theorem k_250 : Cond.fieldLink "FetchRules" 59 "FetchRules" "files" "LFetchRules$Files;" ∈ fr_W := fr_m 250 (by decide +kernel) (by decide +kernel)
theorem k_251 : Cond.fieldLink "FetchRules" 63 "FetchRules" "isOffLine" "Z" ∈ fr_W := fr_m 251 (by decide +kernel) (by decide +kernel)
theorem k_252 : Cond.fieldLink "FetchRules" 67 "FetchRules" "clock" "I" ∈ fr_W := fr_m 252 (by decide +kernel) (by decide +kernel)
theorem k_286 : Cond.methodLink "FetchRules" 84 y_FR_isHost ∈ fr_W := fr_m 286 (by decide +kernel) (by decide +kernel)
theorem k_287 : Cond.static y_FR_isHost ∈ fr_W := fr_m 287 (by decide +kernel) (by decide +kernel)
theorem k_288 : Cond.code y_FR_isHost b_FR_isHost 1 (some .boolean) ∈ fr_W := fr_m 288 (by decide +kernel) (by decide +kernel)
theorem k_297 : Cond.methodLink "FetchRules" 94 y_FR_isPlace ∈ fr_W := fr_m 297 (by decide +kernel) (by decide +kernel)
theorem k_299 : Cond.instanceMethod y_FR_isPlace ∈ fr_W := fr_m 299 (by decide +kernel) (by decide +kernel)
theorem k_300 : Cond.code y_FR_isPlace b_FR_isPlace 2 (some .boolean) ∈ fr_W := fr_m 300 (by decide +kernel) (by decide +kernel)
theorem k_301 : Cond.methodLink "FetchRules" 106 y_Row_append ∈ fr_W := fr_m 301 (by decide +kernel) (by decide +kernel)
theorem k_302 : Cond.instanceMethod y_Row_append ∈ fr_W := fr_m 302 (by decide +kernel) (by decide +kernel)
theorem k_303 : Cond.selects "FetchRules$Row" y_Row_append y_Row_append ∈ fr_W := fr_m 303 (by decide +kernel) (by decide +kernel)
theorem k_304 : Cond.code y_Row_append b_Row_append 2 none ∈ fr_W := fr_m 304 (by decide +kernel) (by decide +kernel)
theorem k_317 : Cond.methodLink "FetchRules" 128 y_Row_computeDigest ∈ fr_W := fr_m 317 (by decide +kernel) (by decide +kernel)
theorem k_318 : Cond.instanceMethod y_Row_computeDigest ∈ fr_W := fr_m 318 (by decide +kernel) (by decide +kernel)
theorem k_319 : Cond.selects "FetchRules$Row" y_Row_computeDigest y_Row_computeDigest ∈ fr_W := fr_m 319 (by decide +kernel) (by decide +kernel)
theorem k_320 : Cond.code y_Row_computeDigest b_Row_computeDigest 4 (some .int) ∈ fr_W := fr_m 320 (by decide +kernel) (by decide +kernel)
theorem k_321 : Cond.constant "FetchRules$Row" 25 (-2048144777) ∈ fr_W := fr_m 321 (by decide +kernel) (by decide +kernel)
theorem k_330 : Cond.methodLink "FetchRules" 135 y_FR_isWant ∈ fr_W := fr_m 330 (by decide +kernel) (by decide +kernel)
theorem k_332 : Cond.instanceMethod y_FR_isWant ∈ fr_W := fr_m 332 (by decide +kernel) (by decide +kernel)
theorem k_333 : Cond.code y_FR_isWant b_FR_isWant 2 (some .boolean) ∈ fr_W := fr_m 333 (by decide +kernel) (by decide +kernel)
theorem k_334 : Cond.methodLink "FetchRules" 141 y_Want_addPlace ∈ fr_W := fr_m 334 (by decide +kernel) (by decide +kernel)
theorem k_335 : Cond.instanceMethod y_Want_addPlace ∈ fr_W := fr_m 335 (by decide +kernel) (by decide +kernel)
theorem k_336 : Cond.selects "FetchRules$Want" y_Want_addPlace y_Want_addPlace ∈ fr_W := fr_m 336 (by decide +kernel) (by decide +kernel)
theorem k_337 : Cond.code y_Want_addPlace b_Want_addPlace 3 (some .boolean) ∈ fr_W := fr_m 337 (by decide +kernel) (by decide +kernel)
theorem k_346 : Cond.methodLink "FetchRules" 144 y_Want_isBusy ∈ fr_W := fr_m 346 (by decide +kernel) (by decide +kernel)
theorem k_347 : Cond.instanceMethod y_Want_isBusy ∈ fr_W := fr_m 347 (by decide +kernel) (by decide +kernel)
theorem k_348 : Cond.selects "FetchRules$Want" y_Want_isBusy y_Want_isBusy ∈ fr_W := fr_m 348 (by decide +kernel) (by decide +kernel)
theorem k_349 : Cond.code y_Want_isBusy b_Want_isBusy 1 (some .boolean) ∈ fr_W := fr_m 349 (by decide +kernel) (by decide +kernel)
theorem k_350 : Cond.methodLink "FetchRules" 148 y_Store_find ∈ fr_W := fr_m 350 (by decide +kernel) (by decide +kernel)
theorem k_351 : Cond.instanceMethod y_Store_find ∈ fr_W := fr_m 351 (by decide +kernel) (by decide +kernel)
theorem k_352 : Cond.selects "FetchRules$Store" y_Store_find y_Store_find ∈ fr_W := fr_m 352 (by decide +kernel) (by decide +kernel)
theorem k_353 : Cond.code y_Store_find b_Store_find 3 (some .int) ∈ fr_W := fr_m 353 (by decide +kernel) (by decide +kernel)
theorem k_354 : Cond.methodLink "FetchRules" 157 y_Row_copyFrom ∈ fr_W := fr_m 354 (by decide +kernel) (by decide +kernel)
theorem k_355 : Cond.instanceMethod y_Row_copyFrom ∈ fr_W := fr_m 355 (by decide +kernel) (by decide +kernel)
theorem k_356 : Cond.selects "FetchRules$Row" y_Row_copyFrom y_Row_copyFrom ∈ fr_W := fr_m 356 (by decide +kernel) (by decide +kernel)
theorem k_357 : Cond.code y_Row_copyFrom b_Row_copyFrom 2 none ∈ fr_W := fr_m 357 (by decide +kernel) (by decide +kernel)
theorem k_358 : Cond.methodLink "FetchRules$Row" 19 arraycopyName ∈ fr_W := fr_m 358 (by decide +kernel) (by decide +kernel)
theorem k_359 : Cond.static arraycopyName ∈ fr_W := fr_m 359 (by decide +kernel) (by decide +kernel)
theorem k_360 : Cond.native arraycopyName ∈ fr_W := fr_m 360 (by decide +kernel) (by decide +kernel)
theorem k_361 : Cond.methodLink "FetchRules" 161 y_FR_noteLacking ∈ fr_W := fr_m 361 (by decide +kernel) (by decide +kernel)
theorem k_363 : Cond.instanceMethod y_FR_noteLacking ∈ fr_W := fr_m 363 (by decide +kernel) (by decide +kernel)
theorem k_364 : Cond.code y_FR_noteLacking b_FR_noteLacking 3 none ∈ fr_W := fr_m 364 (by decide +kernel) (by decide +kernel)
theorem k_365 : Cond.methodLink "FetchRules" 164 y_FR_fetchFrom ∈ fr_W := fr_m 365 (by decide +kernel) (by decide +kernel)
theorem k_367 : Cond.instanceMethod y_FR_fetchFrom ∈ fr_W := fr_m 367 (by decide +kernel) (by decide +kernel)
theorem k_368 : Cond.code y_FR_fetchFrom b_FR_fetchFrom 4 none ∈ fr_W := fr_m 368 (by decide +kernel) (by decide +kernel)
theorem k_369 : Cond.methodLink "FetchRules" 274 y_Want_startAt ∈ fr_W := fr_m 369 (by decide +kernel) (by decide +kernel)
theorem k_370 : Cond.instanceMethod y_Want_startAt ∈ fr_W := fr_m 370 (by decide +kernel) (by decide +kernel)
theorem k_371 : Cond.selects "FetchRules$Want" y_Want_startAt y_Want_startAt ∈ fr_W := fr_m 371 (by decide +kernel) (by decide +kernel)
theorem k_372 : Cond.code y_Want_startAt b_Want_startAt 2 none ∈ fr_W := fr_m 372 (by decide +kernel) (by decide +kernel)
theorem k_377 : Cond.methodLink "FetchRules" 168 y_FR_moveClock ∈ fr_W := fr_m 377 (by decide +kernel) (by decide +kernel)
theorem k_379 : Cond.instanceMethod y_FR_moveClock ∈ fr_W := fr_m 379 (by decide +kernel) (by decide +kernel)
theorem k_380 : Cond.code y_FR_moveClock b_FR_moveClock 3 none ∈ fr_W := fr_m 380 (by decide +kernel) (by decide +kernel)
theorem k_381 : Cond.methodLink "FetchRules" 224 y_FR_takeTurn ∈ fr_W := fr_m 381 (by decide +kernel) (by decide +kernel)
theorem k_383 : Cond.instanceMethod y_FR_takeTurn ∈ fr_W := fr_m 383 (by decide +kernel) (by decide +kernel)
theorem k_384 : Cond.code y_FR_takeTurn b_FR_takeTurn 6 none ∈ fr_W := fr_m 384 (by decide +kernel) (by decide +kernel)
theorem k_385 : Cond.methodLink "FetchRules" 174 y_Want_currentPlace ∈ fr_W := fr_m 385 (by decide +kernel) (by decide +kernel)
theorem k_386 : Cond.instanceMethod y_Want_currentPlace ∈ fr_W := fr_m 386 (by decide +kernel) (by decide +kernel)
theorem k_387 : Cond.selects "FetchRules$Want" y_Want_currentPlace y_Want_currentPlace ∈ fr_W := fr_m 387 (by decide +kernel) (by decide +kernel)
theorem k_388 : Cond.code y_Want_currentPlace b_Want_currentPlace 1 (some .int) ∈ fr_W := fr_m 388 (by decide +kernel) (by decide +kernel)
theorem k_389 : Cond.methodLink "FetchRules" 227 y_FR_ask ∈ fr_W := fr_m 389 (by decide +kernel) (by decide +kernel)
theorem k_391 : Cond.instanceMethod y_FR_ask ∈ fr_W := fr_m 391 (by decide +kernel) (by decide +kernel)
theorem k_392 : Cond.code y_FR_ask b_FR_ask 6 (some .int) ∈ fr_W := fr_m 392 (by decide +kernel) (by decide +kernel)
theorem k_393 : Cond.methodLink "FetchRules" 244 y_FR_countSent ∈ fr_W := fr_m 393 (by decide +kernel) (by decide +kernel)
theorem k_395 : Cond.instanceMethod y_FR_countSent ∈ fr_W := fr_m 395 (by decide +kernel) (by decide +kernel)
theorem k_396 : Cond.code y_FR_countSent b_FR_countSent 3 none ∈ fr_W := fr_m 396 (by decide +kernel) (by decide +kernel)
theorem k_397 : Cond.methodLink "FetchRules" 248 y_Place_leadsOn ∈ fr_W := fr_m 397 (by decide +kernel) (by decide +kernel)
theorem k_398 : Cond.instanceMethod y_Place_leadsOn ∈ fr_W := fr_m 398 (by decide +kernel) (by decide +kernel)
theorem k_399 : Cond.selects "FetchRules$Place" y_Place_leadsOn y_Place_leadsOn ∈ fr_W := fr_m 399 (by decide +kernel) (by decide +kernel)
theorem k_400 : Cond.code y_Place_leadsOn b_Place_leadsOn 1 (some .boolean) ∈ fr_W := fr_m 400 (by decide +kernel) (by decide +kernel)
theorem k_401 : Cond.methodLink "FetchRules" 251 y_Place_gives ∈ fr_W := fr_m 401 (by decide +kernel) (by decide +kernel)
theorem k_402 : Cond.instanceMethod y_Place_gives ∈ fr_W := fr_m 402 (by decide +kernel) (by decide +kernel)
theorem k_403 : Cond.selects "FetchRules$Place" y_Place_gives y_Place_gives ∈ fr_W := fr_m 403 (by decide +kernel) (by decide +kernel)
theorem k_404 : Cond.code y_Place_gives b_Place_gives 2 (some .boolean) ∈ fr_W := fr_m 404 (by decide +kernel) (by decide +kernel)
theorem k_405 : Cond.methodLink "FetchRules" 230 y_FR_giveUp ∈ fr_W := fr_m 405 (by decide +kernel) (by decide +kernel)
theorem k_407 : Cond.instanceMethod y_FR_giveUp ∈ fr_W := fr_m 407 (by decide +kernel) (by decide +kernel)
theorem k_408 : Cond.code y_FR_giveUp b_FR_giveUp 2 none ∈ fr_W := fr_m 408 (by decide +kernel) (by decide +kernel)
theorem k_409 : Cond.methodLink "FetchRules" 234 y_Place_giveTo ∈ fr_W := fr_m 409 (by decide +kernel) (by decide +kernel)
theorem k_410 : Cond.instanceMethod y_Place_giveTo ∈ fr_W := fr_m 410 (by decide +kernel) (by decide +kernel)
theorem k_411 : Cond.selects "FetchRules$Place" y_Place_giveTo y_Place_giveTo ∈ fr_W := fr_m 411 (by decide +kernel) (by decide +kernel)
theorem k_412 : Cond.code y_Place_giveTo b_Place_giveTo 6 (some .boolean) ∈ fr_W := fr_m 412 (by decide +kernel) (by decide +kernel)
theorem k_413 : Cond.methodLink "FetchRules$Place" 47 Lib.Math.min.name ∈ fr_W := fr_m 413 (by decide +kernel) (by decide +kernel)
theorem k_414 : Cond.methodLink "FetchRules$Place" 56 y_Place_givenByte ∈ fr_W := fr_m 414 (by decide +kernel) (by decide +kernel)
theorem k_416 : Cond.instanceMethod y_Place_givenByte ∈ fr_W := fr_m 416 (by decide +kernel) (by decide +kernel)
theorem k_417 : Cond.code y_Place_givenByte b_Place_givenByte 2 (some .int) ∈ fr_W := fr_m 417 (by decide +kernel) (by decide +kernel)
theorem k_418 : Cond.methodLink "FetchRules$Place" 64 y_Row_at ∈ fr_W := fr_m 418 (by decide +kernel) (by decide +kernel)
theorem k_419 : Cond.instanceMethod y_Row_at ∈ fr_W := fr_m 419 (by decide +kernel) (by decide +kernel)
theorem k_420 : Cond.selects "FetchRules$Row" y_Row_at y_Row_at ∈ fr_W := fr_m 420 (by decide +kernel) (by decide +kernel)
theorem k_421 : Cond.code y_Row_at b_Row_at 2 (some .int) ∈ fr_W := fr_m 421 (by decide +kernel) (by decide +kernel)
theorem k_422 : Cond.methodLink "FetchRules$Place" 60 y_Row_append ∈ fr_W := fr_m 422 (by decide +kernel) (by decide +kernel)
theorem k_423 : Cond.methodLink "FetchRules" 238 y_FR_checkDigest ∈ fr_W := fr_m 423 (by decide +kernel) (by decide +kernel)
theorem k_425 : Cond.instanceMethod y_FR_checkDigest ∈ fr_W := fr_m 425 (by decide +kernel) (by decide +kernel)
theorem k_426 : Cond.code y_FR_checkDigest b_FR_checkDigest 5 none ∈ fr_W := fr_m 426 (by decide +kernel) (by decide +kernel)
theorem k_427 : Cond.methodLink "FetchRules" 255 y_Store_keep ∈ fr_W := fr_m 427 (by decide +kernel) (by decide +kernel)
theorem k_428 : Cond.instanceMethod y_Store_keep ∈ fr_W := fr_m 428 (by decide +kernel) (by decide +kernel)
theorem k_429 : Cond.selects "FetchRules$Store" y_Store_keep y_Store_keep ∈ fr_W := fr_m 429 (by decide +kernel) (by decide +kernel)
theorem k_430 : Cond.code y_Store_keep b_Store_keep 3 none ∈ fr_W := fr_m 430 (by decide +kernel) (by decide +kernel)
theorem k_431 : Cond.methodLink "FetchRules$Store" 26 y_Store_find ∈ fr_W := fr_m 431 (by decide +kernel) (by decide +kernel)
theorem k_432 : Cond.methodLink "FetchRules$Store" 30 y_Row_copyFrom ∈ fr_W := fr_m 432 (by decide +kernel) (by decide +kernel)
theorem k_433 : Cond.methodLink "FetchRules" 262 y_Tellings_tell ∈ fr_W := fr_m 433 (by decide +kernel) (by decide +kernel)
theorem k_434 : Cond.instanceMethod y_Tellings_tell ∈ fr_W := fr_m 434 (by decide +kernel) (by decide +kernel)
theorem k_435 : Cond.selects "FetchRules$Tellings" y_Tellings_tell y_Tellings_tell ∈ fr_W := fr_m 435 (by decide +kernel) (by decide +kernel)
theorem k_436 : Cond.code y_Tellings_tell b_Tellings_tell 4 none ∈ fr_W := fr_m 436 (by decide +kernel) (by decide +kernel)
theorem k_437 : Cond.methodLink "FetchRules" 241 y_FR_falter ∈ fr_W := fr_m 437 (by decide +kernel) (by decide +kernel)
theorem k_439 : Cond.instanceMethod y_FR_falter ∈ fr_W := fr_m 439 (by decide +kernel) (by decide +kernel)
theorem k_440 : Cond.code y_FR_falter b_FR_falter 2 none ∈ fr_W := fr_m 440 (by decide +kernel) (by decide +kernel)
theorem k_441 : Cond.methodLink "FetchRules" 171 y_FR_countBusy ∈ fr_W := fr_m 441 (by decide +kernel) (by decide +kernel)
theorem k_443 : Cond.instanceMethod y_FR_countBusy ∈ fr_W := fr_m 443 (by decide +kernel) (by decide +kernel)
theorem k_444 : Cond.code y_FR_countBusy b_FR_countBusy 3 (some .int) ∈ fr_W := fr_m 444 (by decide +kernel) (by decide +kernel)
theorem k_453 : Cond.methodLink "FetchRules" 183 y_Row_at ∈ fr_W := fr_m 453 (by decide +kernel) (by decide +kernel)
theorem k_458 : Cond.methodLink "FetchRules" 186 y_Tellings_has ∈ fr_W := fr_m 458 (by decide +kernel) (by decide +kernel)
theorem k_459 : Cond.instanceMethod y_Tellings_has ∈ fr_W := fr_m 459 (by decide +kernel) (by decide +kernel)
theorem k_460 : Cond.selects "FetchRules$Tellings" y_Tellings_has y_Tellings_has ∈ fr_W := fr_m 460 (by decide +kernel) (by decide +kernel)
theorem k_461 : Cond.code y_Tellings_has b_Tellings_has 2 (some .boolean) ∈ fr_W := fr_m 461 (by decide +kernel) (by decide +kernel)
theorem k_478 : Cond.methodLink "FetchRules" 198 y_Archive_findIll ∈ fr_W := fr_m 478 (by decide +kernel) (by decide +kernel)
theorem k_479 : Cond.static y_Archive_findIll ∈ fr_W := fr_m 479 (by decide +kernel) (by decide +kernel)
theorem k_480 : Cond.code y_Archive_findIll b_Archive_findIll 4 (some .int) ∈ fr_W := fr_m 480 (by decide +kernel) (by decide +kernel)
theorem k_481 : Cond.methodLink "FetchRules$Archive" 15 y_Archive_findIllOfEntry ∈ fr_W := fr_m 481 (by decide +kernel) (by decide +kernel)
theorem k_482 : Cond.static y_Archive_findIllOfEntry ∈ fr_W := fr_m 482 (by decide +kernel) (by decide +kernel)
theorem k_483 : Cond.code y_Archive_findIllOfEntry b_Archive_findIllOfEntry 3 (some .int) ∈ fr_W := fr_m 483 (by decide +kernel) (by decide +kernel)
theorem k_484 : Cond.methodLink "FetchRules$Archive" 24 y_Row_at ∈ fr_W := fr_m 484 (by decide +kernel) (by decide +kernel)
theorem k_485 : Cond.methodLink "FetchRules$Archive" 28 y_Archive_pathEnd ∈ fr_W := fr_m 485 (by decide +kernel) (by decide +kernel)
theorem k_486 : Cond.static y_Archive_pathEnd ∈ fr_W := fr_m 486 (by decide +kernel) (by decide +kernel)
theorem k_487 : Cond.code y_Archive_pathEnd b_Archive_pathEnd 2 (some .int) ∈ fr_W := fr_m 487 (by decide +kernel) (by decide +kernel)
theorem k_488 : Cond.methodLink "FetchRules$Archive" 31 y_Archive_isRightPath ∈ fr_W := fr_m 488 (by decide +kernel) (by decide +kernel)
theorem k_489 : Cond.static y_Archive_isRightPath ∈ fr_W := fr_m 489 (by decide +kernel) (by decide +kernel)
theorem k_490 : Cond.code y_Archive_isRightPath b_Archive_isRightPath 6 (some .boolean) ∈ fr_W := fr_m 490 (by decide +kernel) (by decide +kernel)
theorem k_491 : Cond.methodLink "FetchRules$Archive" 35 y_Archive_isRightSegment ∈ fr_W := fr_m 491 (by decide +kernel) (by decide +kernel)
theorem k_492 : Cond.static y_Archive_isRightSegment ∈ fr_W := fr_m 492 (by decide +kernel) (by decide +kernel)
theorem k_493 : Cond.code y_Archive_isRightSegment b_Archive_isRightSegment 4 (some .boolean) ∈ fr_W := fr_m 493 (by decide +kernel) (by decide +kernel)
theorem k_494 : Cond.methodLink "FetchRules$Archive" 38 y_Archive_isPathCharacter ∈ fr_W := fr_m 494 (by decide +kernel) (by decide +kernel)
theorem k_495 : Cond.static y_Archive_isPathCharacter ∈ fr_W := fr_m 495 (by decide +kernel) (by decide +kernel)
theorem k_496 : Cond.code y_Archive_isPathCharacter b_Archive_isPathCharacter 1 (some .boolean) ∈ fr_W := fr_m 496 (by decide +kernel) (by decide +kernel)
theorem k_497 : Cond.methodLink "FetchRules$Archive" 21 y_Archive_entryEnd ∈ fr_W := fr_m 497 (by decide +kernel) (by decide +kernel)
theorem k_498 : Cond.static y_Archive_entryEnd ∈ fr_W := fr_m 498 (by decide +kernel) (by decide +kernel)
theorem k_499 : Cond.code y_Archive_entryEnd b_Archive_entryEnd 3 (some .int) ∈ fr_W := fr_m 499 (by decide +kernel) (by decide +kernel)
theorem k_500 : Cond.methodLink "FetchRules" 204 y_Files_fill ∈ fr_W := fr_m 500 (by decide +kernel) (by decide +kernel)
theorem k_501 : Cond.instanceMethod y_Files_fill ∈ fr_W := fr_m 501 (by decide +kernel) (by decide +kernel)
theorem k_502 : Cond.selects "FetchRules$Files" y_Files_fill y_Files_fill ∈ fr_W := fr_m 502 (by decide +kernel) (by decide +kernel)
theorem k_503 : Cond.code y_Files_fill b_Files_fill 7 none ∈ fr_W := fr_m 503 (by decide +kernel) (by decide +kernel)
theorem k_504 : Cond.methodLink "FetchRules$Files" 33 y_Archive_pathEnd ∈ fr_W := fr_m 504 (by decide +kernel) (by decide +kernel)
theorem k_505 : Cond.methodLink "FetchRules$Files" 39 y_Archive_strippedStart ∈ fr_W := fr_m 505 (by decide +kernel) (by decide +kernel)
theorem k_506 : Cond.static y_Archive_strippedStart ∈ fr_W := fr_m 506 (by decide +kernel) (by decide +kernel)
theorem k_507 : Cond.code y_Archive_strippedStart b_Archive_strippedStart 7 (some .int) ∈ fr_W := fr_m 507 (by decide +kernel) (by decide +kernel)
theorem k_508 : Cond.methodLink "FetchRules$Files" 43 y_Files_put ∈ fr_W := fr_m 508 (by decide +kernel) (by decide +kernel)
theorem k_510 : Cond.instanceMethod y_Files_put ∈ fr_W := fr_m 510 (by decide +kernel) (by decide +kernel)
theorem k_511 : Cond.code y_Files_put b_Files_put 6 none ∈ fr_W := fr_m 511 (by decide +kernel) (by decide +kernel)
theorem k_512 : Cond.methodLink "FetchRules$Files" 50 y_Files_findPath ∈ fr_W := fr_m 512 (by decide +kernel) (by decide +kernel)
theorem k_514 : Cond.instanceMethod y_Files_findPath ∈ fr_W := fr_m 514 (by decide +kernel) (by decide +kernel)
theorem k_515 : Cond.code y_Files_findPath b_Files_findPath 5 (some .int) ∈ fr_W := fr_m 515 (by decide +kernel) (by decide +kernel)
theorem k_516 : Cond.methodLink "FetchRules$Files" 58 y_Row_hasSame ∈ fr_W := fr_m 516 (by decide +kernel) (by decide +kernel)
theorem k_517 : Cond.instanceMethod y_Row_hasSame ∈ fr_W := fr_m 517 (by decide +kernel) (by decide +kernel)
theorem k_518 : Cond.selects "FetchRules$Row" y_Row_hasSame y_Row_hasSame ∈ fr_W := fr_m 518 (by decide +kernel) (by decide +kernel)
theorem k_519 : Cond.code y_Row_hasSame b_Row_hasSame 5 (some .boolean) ∈ fr_W := fr_m 519 (by decide +kernel) (by decide +kernel)
theorem k_520 : Cond.methodLink "FetchRules$Row" 26 y_Row_at ∈ fr_W := fr_m 520 (by decide +kernel) (by decide +kernel)
theorem k_521 : Cond.methodLink "FetchRules$Files" 54 y_Row_at ∈ fr_W := fr_m 521 (by decide +kernel) (by decide +kernel)
theorem k_522 : Cond.methodLink "FetchRules$Files" 47 y_Archive_entryEnd ∈ fr_W := fr_m 522 (by decide +kernel) (by decide +kernel)
theorem k_527 : Cond.methodLink "FetchRules" 211 y_Files_has ∈ fr_W := fr_m 527 (by decide +kernel) (by decide +kernel)
theorem k_528 : Cond.instanceMethod y_Files_has ∈ fr_W := fr_m 528 (by decide +kernel) (by decide +kernel)
theorem k_529 : Cond.selects "FetchRules$Files" y_Files_has y_Files_has ∈ fr_W := fr_m 529 (by decide +kernel) (by decide +kernel)
theorem k_530 : Cond.code y_Files_has b_Files_has 2 (some .boolean) ∈ fr_W := fr_m 530 (by decide +kernel) (by decide +kernel)
theorem k_539 : Cond.methodLink "FetchRulesModel" 1 objectInit ∈ fr_W := fr_m 539 (by decide +kernel) (by decide +kernel)
theorem k_540 : Cond.fieldLink "FetchRulesModel" 113 "FetchRulesModel" "retries" "I" ∈ fr_W := fr_m 540 (by decide +kernel) (by decide +kernel)
theorem k_541 : Cond.fieldLink "FetchRulesModel" 117 "FetchRulesModel" "code" "I" ∈ fr_W := fr_m 541 (by decide +kernel) (by decide +kernel)
theorem k_542 : Cond.fieldLink "FetchRulesModel" 162 "FetchRulesModel" "clock" "I" ∈ fr_W := fr_m 542 (by decide +kernel) (by decide +kernel)
theorem k_543 : Cond.fieldLink "FetchRulesModel" 140 "FetchRulesModel" "isOffLine" "Z" ∈ fr_W := fr_m 543 (by decide +kernel) (by decide +kernel)
theorem k_544 : Cond.fieldLink "FetchRulesModel" 7 "FetchRulesModel" "hasCredential" "[Z" ∈ fr_W := fr_m 544 (by decide +kernel) (by decide +kernel)
theorem k_545 : Cond.fieldLink "FetchRulesModel" 13 "FetchRulesModel" "sent" "[I" ∈ fr_W := fr_m 545 (by decide +kernel) (by decide +kernel)
theorem k_546 : Cond.fieldLink "FetchRulesModel" 120 "FetchRulesModel" "places" "I" ∈ fr_W := fr_m 546 (by decide +kernel) (by decide +kernel)
theorem k_547 : Cond.fieldLink "FetchRulesModel" 123 "FetchRulesModel" "wants" "I" ∈ fr_W := fr_m 547 (by decide +kernel) (by decide +kernel)
theorem k_548 : Cond.fieldLink "FetchRulesModel" 147 "FetchRulesModel" "keptMany" "I" ∈ fr_W := fr_m 548 (by decide +kernel) (by decide +kernel)
theorem k_549 : Cond.fieldLink "FetchRulesModel" 168 "FetchRulesModel" "told" "I" ∈ fr_W := fr_m 549 (by decide +kernel) (by decide +kernel)
theorem k_550 : Cond.fieldLink "FetchRulesModel" 144 "FetchRulesModel" "lacking" "I" ∈ fr_W := fr_m 550 (by decide +kernel) (by decide +kernel)
theorem k_551 : Cond.fieldLink "FetchRulesModel" 17 "FetchRulesModel" "host" "[I" ∈ fr_W := fr_m 551 (by decide +kernel) (by decide +kernel)
theorem k_552 : Cond.fieldLink "FetchRulesModel" 20 "FetchRulesModel" "rate" "[I" ∈ fr_W := fr_m 552 (by decide +kernel) (by decide +kernel)
theorem k_553 : Cond.fieldLink "FetchRulesModel" 23 "FetchRulesModel" "size" "[I" ∈ fr_W := fr_m 553 (by decide +kernel) (by decide +kernel)
theorem k_554 : Cond.fieldLink "FetchRulesModel" 26 "FetchRulesModel" "leads" "[I" ∈ fr_W := fr_m 554 (by decide +kernel) (by decide +kernel)
theorem k_555 : Cond.fieldLink "FetchRulesModel" 29 "FetchRulesModel" "cuts" "[I" ∈ fr_W := fr_m 555 (by decide +kernel) (by decide +kernel)
theorem k_556 : Cond.fieldLink "FetchRulesModel" 32 "FetchRulesModel" "cutBytes" "[I" ∈ fr_W := fr_m 556 (by decide +kernel) (by decide +kernel)
theorem k_557 : Cond.fieldLink "FetchRulesModel" 35 "FetchRulesModel" "bytes" "[I" ∈ fr_W := fr_m 557 (by decide +kernel) (by decide +kernel)
theorem k_558 : Cond.fieldLink "FetchRulesModel" 38 "FetchRulesModel" "isGone" "[Z" ∈ fr_W := fr_m 558 (by decide +kernel) (by decide +kernel)
theorem k_559 : Cond.fieldLink "FetchRulesModel" 41 "FetchRulesModel" "asks" "[Z" ∈ fr_W := fr_m 559 (by decide +kernel) (by decide +kernel)
theorem k_560 : Cond.fieldLink "FetchRulesModel" 44 "FetchRulesModel" "lies" "[Z" ∈ fr_W := fr_m 560 (by decide +kernel) (by decide +kernel)
theorem k_561 : Cond.fieldLink "FetchRulesModel" 47 "FetchRulesModel" "isBarred" "[Z" ∈ fr_W := fr_m 561 (by decide +kernel) (by decide +kernel)
theorem k_562 : Cond.fieldLink "FetchRulesModel" 50 "FetchRulesModel" "goal" "[I" ∈ fr_W := fr_m 562 (by decide +kernel) (by decide +kernel)
theorem k_563 : Cond.fieldLink "FetchRulesModel" 53 "FetchRulesModel" "placeMany" "[I" ∈ fr_W := fr_m 563 (by decide +kernel) (by decide +kernel)
theorem k_564 : Cond.fieldLink "FetchRulesModel" 56 "FetchRulesModel" "placeOf" "[I" ∈ fr_W := fr_m 564 (by decide +kernel) (by decide +kernel)
theorem k_565 : Cond.fieldLink "FetchRulesModel" 59 "FetchRulesModel" "state" "[I" ∈ fr_W := fr_m 565 (by decide +kernel) (by decide +kernel)
theorem k_566 : Cond.fieldLink "FetchRulesModel" 62 "FetchRulesModel" "at" "[I" ∈ fr_W := fr_m 566 (by decide +kernel) (by decide +kernel)
theorem k_567 : Cond.fieldLink "FetchRulesModel" 65 "FetchRulesModel" "has" "[I" ∈ fr_W := fr_m 567 (by decide +kernel) (by decide +kernel)
theorem k_568 : Cond.fieldLink "FetchRulesModel" 68 "FetchRulesModel" "row" "[I" ∈ fr_W := fr_m 568 (by decide +kernel) (by decide +kernel)
theorem k_569 : Cond.fieldLink "FetchRulesModel" 71 "FetchRulesModel" "till" "[I" ∈ fr_W := fr_m 569 (by decide +kernel) (by decide +kernel)
theorem k_570 : Cond.fieldLink "FetchRulesModel" 74 "FetchRulesModel" "turns" "[I" ∈ fr_W := fr_m 570 (by decide +kernel) (by decide +kernel)
theorem k_571 : Cond.fieldLink "FetchRulesModel" 77 "FetchRulesModel" "falters" "[I" ∈ fr_W := fr_m 571 (by decide +kernel) (by decide +kernel)
theorem k_572 : Cond.fieldLink "FetchRulesModel" 80 "FetchRulesModel" "kept" "[I" ∈ fr_W := fr_m 572 (by decide +kernel) (by decide +kernel)
theorem k_573 : Cond.fieldLink "FetchRulesModel" 83 "FetchRulesModel" "keptSize" "[I" ∈ fr_W := fr_m 573 (by decide +kernel) (by decide +kernel)
theorem k_574 : Cond.fieldLink "FetchRulesModel" 86 "FetchRulesModel" "keptRow" "[I" ∈ fr_W := fr_m 574 (by decide +kernel) (by decide +kernel)
theorem k_575 : Cond.fieldLink "FetchRulesModel" 89 "FetchRulesModel" "toldWant" "[I" ∈ fr_W := fr_m 575 (by decide +kernel) (by decide +kernel)
theorem k_576 : Cond.fieldLink "FetchRulesModel" 92 "FetchRulesModel" "toldPlace" "[I" ∈ fr_W := fr_m 576 (by decide +kernel) (by decide +kernel)
theorem k_577 : Cond.fieldLink "FetchRulesModel" 95 "FetchRulesModel" "toldDigest" "[I" ∈ fr_W := fr_m 577 (by decide +kernel) (by decide +kernel)
theorem k_578 : Cond.fieldLink "FetchRulesModel" 98 "FetchRulesModel" "lack" "[I" ∈ fr_W := fr_m 578 (by decide +kernel) (by decide +kernel)
theorem k_579 : Cond.fieldLink "FetchRulesModel" 186 "FetchRulesModel" "files" "I" ∈ fr_W := fr_m 579 (by decide +kernel) (by decide +kernel)
theorem k_580 : Cond.fieldLink "FetchRulesModel" 101 "FetchRulesModel" "fileAt" "[I" ∈ fr_W := fr_m 580 (by decide +kernel) (by decide +kernel)
theorem k_581 : Cond.fieldLink "FetchRulesModel" 104 "FetchRulesModel" "fileMany" "[I" ∈ fr_W := fr_m 581 (by decide +kernel) (by decide +kernel)
theorem k_582 : Cond.fieldLink "FetchRulesModel" 107 "FetchRulesModel" "pathAt" "[I" ∈ fr_W := fr_m 582 (by decide +kernel) (by decide +kernel)
theorem k_583 : Cond.fieldLink "FetchRulesModel" 110 "FetchRulesModel" "pathMany" "[I" ∈ fr_W := fr_m 583 (by decide +kernel) (by decide +kernel)
theorem k_685 : Cond.methodLink "FetchRulesModel" 126 y_Md_isPlace ∈ fr_W := fr_m 685 (by decide +kernel) (by decide +kernel)
theorem k_687 : Cond.instanceMethod y_Md_isPlace ∈ fr_W := fr_m 687 (by decide +kernel) (by decide +kernel)
theorem k_688 : Cond.code y_Md_isPlace b_Md_isPlace 2 (some .boolean) ∈ fr_W := fr_m 688 (by decide +kernel) (by decide +kernel)
theorem k_689 : Cond.constantLong "FetchRulesModel" 130 (255) ∈ fr_W := fr_m 689 (by decide +kernel) (by decide +kernel)
theorem k_702 : Cond.methodLink "FetchRulesModel" 133 y_Md_next ∈ fr_W := fr_m 702 (by decide +kernel) (by decide +kernel)
theorem k_703 : Cond.static y_Md_next ∈ fr_W := fr_m 703 (by decide +kernel) (by decide +kernel)
theorem k_704 : Cond.code y_Md_next b_Md_next 3 (some .int) ∈ fr_W := fr_m 704 (by decide +kernel) (by decide +kernel)
theorem k_705 : Cond.constant "FetchRulesModel" 132 (-2048144777) ∈ fr_W := fr_m 705 (by decide +kernel) (by decide +kernel)
theorem k_714 : Cond.methodLink "FetchRulesModel" 137 y_Md_isWant ∈ fr_W := fr_m 714 (by decide +kernel) (by decide +kernel)
theorem k_716 : Cond.instanceMethod y_Md_isWant ∈ fr_W := fr_m 716 (by decide +kernel) (by decide +kernel)
theorem k_717 : Cond.code y_Md_isWant b_Md_isWant 2 (some .boolean) ∈ fr_W := fr_m 717 (by decide +kernel) (by decide +kernel)
theorem k_726 : Cond.methodLink "FetchRulesModel" 150 y_Md_keptOf ∈ fr_W := fr_m 726 (by decide +kernel) (by decide +kernel)
theorem k_728 : Cond.instanceMethod y_Md_keptOf ∈ fr_W := fr_m 728 (by decide +kernel) (by decide +kernel)
theorem k_729 : Cond.code y_Md_keptOf b_Md_keptOf 4 (some .int) ∈ fr_W := fr_m 729 (by decide +kernel) (by decide +kernel)
theorem k_730 : Cond.methodLink "FetchRulesModel" 154 y_Md_tellLack ∈ fr_W := fr_m 730 (by decide +kernel) (by decide +kernel)
theorem k_732 : Cond.instanceMethod y_Md_tellLack ∈ fr_W := fr_m 732 (by decide +kernel) (by decide +kernel)
theorem k_733 : Cond.code y_Md_tellLack b_Md_tellLack 4 none ∈ fr_W := fr_m 733 (by decide +kernel) (by decide +kernel)
theorem k_734 : Cond.methodLink "FetchRulesModel" 158 y_Md_goOn ∈ fr_W := fr_m 734 (by decide +kernel) (by decide +kernel)
theorem k_736 : Cond.instanceMethod y_Md_goOn ∈ fr_W := fr_m 736 (by decide +kernel) (by decide +kernel)
theorem k_737 : Cond.code y_Md_goOn b_Md_goOn 4 none ∈ fr_W := fr_m 737 (by decide +kernel) (by decide +kernel)
theorem k_742 : Cond.methodLink "FetchRulesModel" 180 y_Md_turn ∈ fr_W := fr_m 742 (by decide +kernel) (by decide +kernel)
theorem k_744 : Cond.instanceMethod y_Md_turn ∈ fr_W := fr_m 744 (by decide +kernel) (by decide +kernel)
theorem k_745 : Cond.code y_Md_turn b_Md_turn 7 none ∈ fr_W := fr_m 745 (by decide +kernel) (by decide +kernel)
theorem k_746 : Cond.methodLink "FetchRulesModel" 171 y_Md_ask ∈ fr_W := fr_m 746 (by decide +kernel) (by decide +kernel)
theorem k_748 : Cond.instanceMethod y_Md_ask ∈ fr_W := fr_m 748 (by decide +kernel) (by decide +kernel)
theorem k_749 : Cond.code y_Md_ask b_Md_ask 6 (some .int) ∈ fr_W := fr_m 749 (by decide +kernel) (by decide +kernel)
theorem k_750 : Cond.methodLink "FetchRulesModel" 174 y_Md_judge ∈ fr_W := fr_m 750 (by decide +kernel) (by decide +kernel)
theorem k_752 : Cond.instanceMethod y_Md_judge ∈ fr_W := fr_m 752 (by decide +kernel) (by decide +kernel)
theorem k_753 : Cond.code y_Md_judge b_Md_judge 4 none ∈ fr_W := fr_m 753 (by decide +kernel) (by decide +kernel)
theorem k_754 : Cond.methodLink "FetchRulesModel" 165 y_Md_keep ∈ fr_W := fr_m 754 (by decide +kernel) (by decide +kernel)
theorem k_756 : Cond.instanceMethod y_Md_keep ∈ fr_W := fr_m 756 (by decide +kernel) (by decide +kernel)
theorem k_757 : Cond.code y_Md_keep b_Md_keep 3 none ∈ fr_W := fr_m 757 (by decide +kernel) (by decide +kernel)
theorem k_758 : Cond.methodLink "FetchRulesModel" 177 y_Md_falter ∈ fr_W := fr_m 758 (by decide +kernel) (by decide +kernel)
theorem k_760 : Cond.instanceMethod y_Md_falter ∈ fr_W := fr_m 760 (by decide +kernel) (by decide +kernel)
theorem k_761 : Cond.code y_Md_falter b_Md_falter 2 none ∈ fr_W := fr_m 761 (by decide +kernel) (by decide +kernel)
theorem k_790 : Cond.methodLink "FetchRulesModel" 205 y_Md_read ∈ fr_W := fr_m 790 (by decide +kernel) (by decide +kernel)
theorem k_792 : Cond.instanceMethod y_Md_read ∈ fr_W := fr_m 792 (by decide +kernel) (by decide +kernel)
theorem k_793 : Cond.code y_Md_read b_Md_read 12 (some .int) ∈ fr_W := fr_m 793 (by decide +kernel) (by decide +kernel)
theorem k_794 : Cond.methodLink "FetchRulesModel" 193 y_Md_isRight ∈ fr_W := fr_m 794 (by decide +kernel) (by decide +kernel)
theorem k_796 : Cond.instanceMethod y_Md_isRight ∈ fr_W := fr_m 796 (by decide +kernel) (by decide +kernel)
theorem k_797 : Cond.code y_Md_isRight b_Md_isRight 7 (some .boolean) ∈ fr_W := fr_m 797 (by decide +kernel) (by decide +kernel)
theorem k_798 : Cond.methodLink "FetchRulesModel" 183 y_Md_isSign ∈ fr_W := fr_m 798 (by decide +kernel) (by decide +kernel)
theorem k_799 : Cond.static y_Md_isSign ∈ fr_W := fr_m 799 (by decide +kernel) (by decide +kernel)
theorem k_800 : Cond.code y_Md_isSign b_Md_isSign 1 (some .boolean) ∈ fr_W := fr_m 800 (by decide +kernel) (by decide +kernel)
theorem k_801 : Cond.methodLink "FetchRulesModel" 197 y_Md_strip ∈ fr_W := fr_m 801 (by decide +kernel) (by decide +kernel)
theorem k_803 : Cond.instanceMethod y_Md_strip ∈ fr_W := fr_m 803 (by decide +kernel) (by decide +kernel)
theorem k_804 : Cond.code y_Md_strip b_Md_strip 6 (some .int) ∈ fr_W := fr_m 804 (by decide +kernel) (by decide +kernel)
theorem k_805 : Cond.methodLink "FetchRulesModel" 201 y_Md_putFile ∈ fr_W := fr_m 805 (by decide +kernel) (by decide +kernel)
theorem k_807 : Cond.instanceMethod y_Md_putFile ∈ fr_W := fr_m 807 (by decide +kernel) (by decide +kernel)
theorem k_808 : Cond.code y_Md_putFile b_Md_putFile 7 none ∈ fr_W := fr_m 808 (by decide +kernel) (by decide +kernel)
theorem k_809 : Cond.methodLink "FetchRulesModel" 189 y_Md_isSamePath ∈ fr_W := fr_m 809 (by decide +kernel) (by decide +kernel)
theorem k_811 : Cond.instanceMethod y_Md_isSamePath ∈ fr_W := fr_m 811 (by decide +kernel) (by decide +kernel)
theorem k_812 : Cond.code y_Md_isSamePath b_Md_isSamePath 7 (some .boolean) ∈ fr_W := fr_m 812 (by decide +kernel) (by decide +kernel)
theorem fr_good : ∀ w ∈ fr_W, (w.onTables && w.keeps) = true ∨ ∃ ty, w = .arrayClass ty := fun w hw => good_of_word (List.all_eq_true.mp fr_allgood w hw)
theorem fr_G {y : MethodName} {bytes : ByteArray} {maxL : Nat} {ret : Option FieldType} (h5 : Cond.code y bytes maxL ret ∈ fr_W) : GoodIn fr_W (Cond.code y bytes maxL ret :: fr_W) := by
  intro w hw
  rcases List.mem_cons.mp hw with h | h
  · rw [h]; exact ⟨h5, fr_good _ h5⟩
  · exact ⟨h, fr_good _ h⟩
theorem fr_GV {own C : String} {index : Nat} {y : MethodName} {bytes : ByteArray} {maxL : Nat} {ret : Option FieldType} (h1 : Cond.methodLink own index y ∈ fr_W) (h2 : Cond.instanceMethod y ∈ fr_W) (h3 : Cond.selects C y y ∈ fr_W) (h4 : Cond.initialized C ∈ fr_W) (h5 : Cond.code y bytes maxL ret ∈ fr_W) : GoodIn fr_W (wsV own index C y (Cond.code y bytes maxL ret :: fr_W)) := by
  intro w hw
  unfold wsV at hw
  rcases List.mem_append.mp hw with h | h
  · simp only [List.mem_cons, List.not_mem_nil, or_false] at h
    rcases h with h | h | h | h <;> rw [h]
    · exact ⟨h1, fr_good _ h1⟩
    · exact ⟨h2, fr_good _ h2⟩
    · exact ⟨h3, fr_good _ h3⟩
    · exact ⟨h4, fr_good _ h4⟩
  · exact fr_G h5 w h
def fr_MV (y : MethodName) (C : String) (bytes : ByteArray) (maxL : Nat) (ret : Option FieldType) (n : Nat) : Prop := Cond.instanceMethod y ∈ fr_W ∧ Cond.selects C y y ∈ fr_W ∧ Cond.initialized C ∈ fr_W ∧ Cond.code y bytes maxL ret ∈ fr_W ∧ (y.cls = C ∧ y.cls ≠ "java/lang/invoke/MethodHandle" ∧ y.cls ≠ "java/lang/invoke/VarHandle" ∧ (parseMethodDescriptor y.desc).map (fun d => d.parameters.length) = some n)
def fr_MS (y : MethodName) (bytes : ByteArray) (maxL : Nat) (ret : Option FieldType) (n : Nat) : Prop := Cond.static y ∈ fr_W ∧ Cond.initialized y.cls ∈ fr_W ∧ Cond.code y bytes maxL ret ∈ fr_W ∧ (y.cls ≠ "java/lang/invoke/MethodHandle" ∧ y.cls ≠ "java/lang/invoke/VarHandle" ∧ (parseMethodDescriptor y.desc).map (fun d => d.parameters.length) = some n)
theorem ms_FR_isHost : fr_MS y_FR_isHost b_FR_isHost 1 (some .boolean) 1 := ⟨k_287, k_31, k_288, by decide +kernel⟩
theorem mv_FR_isPlace : fr_MV y_FR_isPlace "FetchRules" b_FR_isPlace 2 (some .boolean) 1 := ⟨k_299, k_0, k_31, k_300, by decide +kernel⟩
theorem mv_Row_append : fr_MV y_Row_append "FetchRules$Row" b_Row_append 2 none 1 := ⟨k_302, k_303, k_33, k_304, by decide +kernel⟩
theorem mv_Row_computeDigest : fr_MV y_Row_computeDigest "FetchRules$Row" b_Row_computeDigest 4 (some .int) 0 := ⟨k_318, k_319, k_33, k_320, by decide +kernel⟩
theorem mv_FR_isWant : fr_MV y_FR_isWant "FetchRules" b_FR_isWant 2 (some .boolean) 1 := ⟨k_332, k_1, k_31, k_333, by decide +kernel⟩
theorem mv_Want_addPlace : fr_MV y_Want_addPlace "FetchRules$Want" b_Want_addPlace 3 (some .boolean) 1 := ⟨k_335, k_336, k_38, k_337, by decide +kernel⟩
theorem mv_Want_startAt : fr_MV y_Want_startAt "FetchRules$Want" b_Want_startAt 2 none 1 := ⟨k_370, k_371, k_38, k_372, by decide +kernel⟩
theorem mv_Want_isBusy : fr_MV y_Want_isBusy "FetchRules$Want" b_Want_isBusy 1 (some .boolean) 0 := ⟨k_347, k_348, k_38, k_349, by decide +kernel⟩
theorem mv_Store_find : fr_MV y_Store_find "FetchRules$Store" b_Store_find 3 (some .int) 1 := ⟨k_351, k_352, k_32, k_353, by decide +kernel⟩
theorem mv_FR_fetchFrom : fr_MV y_FR_fetchFrom "FetchRules" b_FR_fetchFrom 4 none 2 := ⟨k_367, k_3, k_31, k_368, by decide +kernel⟩
theorem mv_FR_noteLacking : fr_MV y_FR_noteLacking "FetchRules" b_FR_noteLacking 3 none 1 := ⟨k_363, k_2, k_31, k_364, by decide +kernel⟩
theorem mv_Row_copyFrom : fr_MV y_Row_copyFrom "FetchRules$Row" b_Row_copyFrom 2 none 1 := ⟨k_355, k_356, k_33, k_357, by decide +kernel⟩
theorem mv_FR_countSent : fr_MV y_FR_countSent "FetchRules" b_FR_countSent 3 none 2 := ⟨k_395, k_7, k_31, k_396, by decide +kernel⟩
theorem mv_Place_gives : fr_MV y_Place_gives "FetchRules$Place" b_Place_gives 2 (some .boolean) 1 := ⟨k_402, k_403, k_37, k_404, by decide +kernel⟩
theorem mv_Place_leadsOn : fr_MV y_Place_leadsOn "FetchRules$Place" b_Place_leadsOn 1 (some .boolean) 0 := ⟨k_398, k_399, k_37, k_400, by decide +kernel⟩
theorem mv_Row_at : fr_MV y_Row_at "FetchRules$Row" b_Row_at 2 (some .int) 1 := ⟨k_419, k_420, k_33, k_421, by decide +kernel⟩
theorem mv_Place_givenByte : fr_MV y_Place_givenByte "FetchRules$Place" b_Place_givenByte 2 (some .int) 1 := ⟨k_416, k_9, k_37, k_417, by decide +kernel⟩
theorem mv_Want_currentPlace : fr_MV y_Want_currentPlace "FetchRules$Want" b_Want_currentPlace 1 (some .int) 0 := ⟨k_386, k_387, k_38, k_388, by decide +kernel⟩
theorem mv_FR_giveUp : fr_MV y_FR_giveUp "FetchRules" b_FR_giveUp 2 none 1 := ⟨k_407, k_8, k_31, k_408, by decide +kernel⟩
theorem mv_Tellings_tell : fr_MV y_Tellings_tell "FetchRules$Tellings" b_Tellings_tell 4 none 3 := ⟨k_434, k_435, k_34, k_436, by decide +kernel⟩
theorem mv_Store_keep : fr_MV y_Store_keep "FetchRules$Store" b_Store_keep 3 none 2 := ⟨k_428, k_429, k_32, k_430, by decide +kernel⟩
theorem mv_FR_ask : fr_MV y_FR_ask "FetchRules" b_FR_ask 6 (some .int) 1 := ⟨k_391, k_6, k_31, k_392, by decide +kernel⟩
theorem mv_Place_giveTo : fr_MV y_Place_giveTo "FetchRules$Place" b_Place_giveTo 6 (some .boolean) 1 := ⟨k_410, k_411, k_37, k_412, by decide +kernel⟩
theorem mv_FR_falter : fr_MV y_FR_falter "FetchRules" b_FR_falter 2 none 1 := ⟨k_439, k_11, k_31, k_440, by decide +kernel⟩
theorem mv_FR_checkDigest : fr_MV y_FR_checkDigest "FetchRules" b_FR_checkDigest 5 none 1 := ⟨k_425, k_10, k_31, k_426, by decide +kernel⟩
theorem mv_FR_takeTurn : fr_MV y_FR_takeTurn "FetchRules" b_FR_takeTurn 6 none 1 := ⟨k_383, k_5, k_31, k_384, by decide +kernel⟩
theorem mv_FR_countBusy : fr_MV y_FR_countBusy "FetchRules" b_FR_countBusy 3 (some .int) 0 := ⟨k_443, k_12, k_31, k_444, by decide +kernel⟩
theorem mv_FR_moveClock : fr_MV y_FR_moveClock "FetchRules" b_FR_moveClock 3 none 0 := ⟨k_379, k_4, k_31, k_380, by decide +kernel⟩
theorem mv_Tellings_has : fr_MV y_Tellings_has "FetchRules$Tellings" b_Tellings_has 2 (some .boolean) 1 := ⟨k_459, k_460, k_34, k_461, by decide +kernel⟩
theorem ms_Archive_isRightSegment : fr_MS y_Archive_isRightSegment b_Archive_isRightSegment 4 (some .boolean) 3 := ⟨k_492, k_41, k_493, by decide +kernel⟩
theorem ms_Archive_isPathCharacter : fr_MS y_Archive_isPathCharacter b_Archive_isPathCharacter 1 (some .boolean) 1 := ⟨k_495, k_41, k_496, by decide +kernel⟩
theorem ms_Archive_pathEnd : fr_MS y_Archive_pathEnd b_Archive_pathEnd 2 (some .int) 2 := ⟨k_486, k_41, k_487, by decide +kernel⟩
theorem ms_Archive_isRightPath : fr_MS y_Archive_isRightPath b_Archive_isRightPath 6 (some .boolean) 3 := ⟨k_489, k_41, k_490, by decide +kernel⟩
theorem ms_Archive_entryEnd : fr_MS y_Archive_entryEnd b_Archive_entryEnd 3 (some .int) 2 := ⟨k_498, k_41, k_499, by decide +kernel⟩
theorem ms_Archive_findIllOfEntry : fr_MS y_Archive_findIllOfEntry b_Archive_findIllOfEntry 3 (some .int) 2 := ⟨k_482, k_41, k_483, by decide +kernel⟩
theorem mv_Row_hasSame : fr_MV y_Row_hasSame "FetchRules$Row" b_Row_hasSame 5 (some .boolean) 3 := ⟨k_517, k_518, k_33, k_519, by decide +kernel⟩
theorem mv_Files_findPath : fr_MV y_Files_findPath "FetchRules$Files" b_Files_findPath 5 (some .int) 3 := ⟨k_514, k_14, k_35, k_515, by decide +kernel⟩
theorem ms_Archive_strippedStart : fr_MS y_Archive_strippedStart b_Archive_strippedStart 7 (some .int) 4 := ⟨k_506, k_41, k_507, by decide +kernel⟩
theorem mv_Files_put : fr_MV y_Files_put "FetchRules$Files" b_Files_put 6 none 3 := ⟨k_510, k_13, k_35, k_511, by decide +kernel⟩
theorem ms_Archive_findIll : fr_MS y_Archive_findIll b_Archive_findIll 4 (some .int) 1 := ⟨k_479, k_41, k_480, by decide +kernel⟩
theorem mv_Files_fill : fr_MV y_Files_fill "FetchRules$Files" b_Files_fill 7 none 2 := ⟨k_501, k_502, k_35, k_503, by decide +kernel⟩
theorem mv_Files_has : fr_MV y_Files_has "FetchRules$Files" b_Files_has 2 (some .boolean) 1 := ⟨k_528, k_529, k_35, k_530, by decide +kernel⟩
theorem mv_Md_isPlace : fr_MV y_Md_isPlace "FetchRulesModel" b_Md_isPlace 2 (some .boolean) 1 := ⟨k_687, k_15, k_39, k_688, by decide +kernel⟩
theorem ms_Md_next : fr_MS y_Md_next b_Md_next 3 (some .int) 2 := ⟨k_703, k_39, k_704, by decide +kernel⟩
theorem mv_Md_isWant : fr_MV y_Md_isWant "FetchRulesModel" b_Md_isWant 2 (some .boolean) 1 := ⟨k_716, k_16, k_39, k_717, by decide +kernel⟩
theorem mv_Md_keptOf : fr_MV y_Md_keptOf "FetchRulesModel" b_Md_keptOf 4 (some .int) 1 := ⟨k_728, k_17, k_39, k_729, by decide +kernel⟩
theorem mv_Md_goOn : fr_MV y_Md_goOn "FetchRulesModel" b_Md_goOn 4 none 2 := ⟨k_736, k_19, k_39, k_737, by decide +kernel⟩
theorem mv_Md_tellLack : fr_MV y_Md_tellLack "FetchRulesModel" b_Md_tellLack 4 none 1 := ⟨k_732, k_18, k_39, k_733, by decide +kernel⟩
theorem mv_Md_keep : fr_MV y_Md_keep "FetchRulesModel" b_Md_keep 3 none 1 := ⟨k_756, k_23, k_39, k_757, by decide +kernel⟩
theorem mv_Md_ask : fr_MV y_Md_ask "FetchRulesModel" b_Md_ask 6 (some .int) 1 := ⟨k_748, k_21, k_39, k_749, by decide +kernel⟩
theorem mv_Md_falter : fr_MV y_Md_falter "FetchRulesModel" b_Md_falter 2 none 1 := ⟨k_760, k_24, k_39, k_761, by decide +kernel⟩
theorem mv_Md_judge : fr_MV y_Md_judge "FetchRulesModel" b_Md_judge 4 none 1 := ⟨k_752, k_22, k_39, k_753, by decide +kernel⟩
theorem mv_Md_turn : fr_MV y_Md_turn "FetchRulesModel" b_Md_turn 7 none 1 := ⟨k_744, k_20, k_39, k_745, by decide +kernel⟩
theorem ms_Md_isSign : fr_MS y_Md_isSign b_Md_isSign 1 (some .boolean) 1 := ⟨k_799, k_39, k_800, by decide +kernel⟩
theorem mv_Md_isSamePath : fr_MV y_Md_isSamePath "FetchRulesModel" b_Md_isSamePath 7 (some .boolean) 4 := ⟨k_811, k_29, k_39, k_812, by decide +kernel⟩
theorem mv_Md_isRight : fr_MV y_Md_isRight "FetchRulesModel" b_Md_isRight 7 (some .boolean) 2 := ⟨k_796, k_26, k_39, k_797, by decide +kernel⟩
theorem mv_Md_strip : fr_MV y_Md_strip "FetchRulesModel" b_Md_strip 6 (some .int) 3 := ⟨k_803, k_27, k_39, k_804, by decide +kernel⟩
theorem mv_Md_putFile : fr_MV y_Md_putFile "FetchRulesModel" b_Md_putFile 7 none 5 := ⟨k_807, k_28, k_39, k_808, by decide +kernel⟩
theorem mv_Md_read : fr_MV y_Md_read "FetchRulesModel" b_Md_read 12 (some .int) 3 := ⟨k_792, k_25, k_39, k_793, by decide +kernel⟩
end
section
/-! THE STATE OF A SIDE as functions: kinds of cells, int fields, reference fields, int arrays, reference arrays; field by field, address by address -/
abbrev fr_K : Type := Nat ⊕ (Nat × Nat)
abbrev fr_S : Type := (Nat → Option fr_K) × (Nat → Nat → Int32) × (Nat → Nat → Option Nat) × (Nat → Nat → Int32) × (Nat → Nat → Option Nat)
def gK (σ : fr_S) (a : Nat) : Option fr_K := σ.1 a
def gI (σ : fr_S) (f a : Nat) : Int32 := σ.2.1 f a
def gP (σ : fr_S) (f a : Nat) : Option Nat := σ.2.2.1 f a
def gV (σ : fr_S) (a : Nat) : Nat → Int32 := σ.2.2.2.1 a
def gQ (σ : fr_S) (a : Nat) : Nat → Option Nat := σ.2.2.2.2 a
def pI (σ : fr_S) (f a : Nat) (v : Int32) : fr_S := (σ.1, (fun g b => if g = f ∧ b = a then v else σ.2.1 g b), σ.2.2)
def pP (σ : fr_S) (f a : Nat) (v : Option Nat) : fr_S := (σ.1, σ.2.1, (fun g b => if g = f ∧ b = a then v else σ.2.2.1 g b), σ.2.2.2)
def pA (σ : fr_S) (a : Nat) (u : Nat → Int32) : fr_S := (σ.1, σ.2.1, σ.2.2.1, (fun b => if b = a then u else σ.2.2.2.1 b), σ.2.2.2.2)
def pB (σ : fr_S) (a : Nat) (u : Nat → Option Nat) : fr_S := (σ.1, σ.2.1, σ.2.2.1, σ.2.2.2.1, (fun b => if b = a then u else σ.2.2.2.2 b))
/-- a new cell at a: its kind; all that it holds is 0, or nothing -/
def pN (σ : fr_S) (a : Nat) (k : fr_K) : fr_S := ((fun b => if b = a then some k else σ.1 b), (fun g b => if b = a then 0 else σ.2.1 g b), (fun g b => if b = a then none else σ.2.2.1 g b), (fun b => if b = a then (fun _ => 0) else σ.2.2.2.1 b), (fun b => if b = a then (fun _ => none) else σ.2.2.2.2 b))
theorem fr_bind {α β : Type} {o : Option α} {f : α → Option β} {b : β} (h : o.bind f = some b) : ∃ a, o = some a ∧ f a = some b := by
  cases o with
  | none => simp at h
  | some a => exact ⟨a, rfl, h⟩
theorem fr_ift {α : Type} {c : Prop} {hd : Decidable c} {a b x : α} (hc : c) (h : (if c then a else b) = x) : a = x := by rw [if_pos hc] at h; exact h
theorem fr_iff {α : Type} {c : Prop} {hd : Decidable c} {a b x : α} (hc : ¬ c) (h : (if c then a else b) = x) : b = x := by rw [if_neg hc] at h; exact h
/-! what an instruction of the heap does, or nothing where the machine would throw, or the kinds don't fit -/
def oK (σ : fr_S) (ci a : Nat) : Option Unit := if gK σ a = some (.inl ci) then some () else none
def oI (σ : fr_S) (ci f a : Nat) : Option Int32 := if gK σ a = some (.inl ci) then some (gI σ f a) else none
def oP (σ : fr_S) (ci f a : Nat) : Option Nat := if gK σ a = some (.inl ci) then gP σ f a else none
def sI (σ : fr_S) (ci f a : Nat) (v : Int32) : Option fr_S := if gK σ a = some (.inl ci) then some (pI σ f a v) else none
def sZ (σ : fr_S) (ci f a : Nat) (v : Int32) : Option fr_S := if gK σ a = some (.inl ci) ∧ (v = 0 ∨ v = 1) then some (pI σ f a v) else none
def sP (σ : fr_S) (ci f a : Nat) (r : Nat) : Option fr_S := if gK σ a = some (.inl ci) then some (pP σ f a (some r)) else none
def oZ (v : Int32) : Option Unit := if v = 0 ∨ v = 1 then some () else none
def oNZ (v : Int32) : Option Unit := if v = 0 then none else some ()
def oN (σ : fr_S) (t a : Nat) : Option Int32 := match gK σ a with
  | some (.inr (t', n)) => if t' = t then some (Int32.ofNat n) else none
  | _ => none
def oV (σ : fr_S) (t a : Nat) (i : Int32) : Option Int32 := match gK σ a with
  | some (.inr (t', n)) => if t' = t ∧ ¬ (i < 0 ∨ n ≤ i.toNatClampNeg) then some (gV σ a i.toNatClampNeg) else none
  | _ => none
def oQ (σ : fr_S) (t a : Nat) (i : Int32) : Option Nat := match gK σ a with
  | some (.inr (t', n)) => if t' = t ∧ ¬ (i < 0 ∨ n ≤ i.toNatClampNeg) then gQ σ a i.toNatClampNeg else none
  | _ => none
def sV (σ : fr_S) (t a : Nat) (i v : Int32) : Option fr_S := match gK σ a with
  | some (.inr (t', n)) => if t' = t ∧ ¬ (i < 0 ∨ n ≤ i.toNatClampNeg) then some (pA σ a (upd (gV σ a) i.toNatClampNeg v)) else none
  | _ => none
def sQ (σ : fr_S) (t ci a : Nat) (i : Int32) (r : Nat) : Option fr_S := match gK σ a with
  | some (.inr (t', n)) => if (t' = t ∧ gK σ r = some (.inl ci)) ∧ ¬ (i < 0 ∨ n ≤ i.toNatClampNeg) then some (pB σ a (va_up (gQ σ a) i.toNatClampNeg (some r))) else none
  | _ => none
/-- System.arraycopy of ints -/
def sC (σ : fr_S) (a0 : Nat) (sp : Int32) (a : Nat) (dp n : Int32) : Option fr_S := match gK σ a0, gK σ a with
  | some (.inr (t0, n0)), some (.inr (t1, n1)) => if (t0 = 0 ∧ t1 = 0) ∧ (¬ sp < 0 ∧ ¬ dp < 0 ∧ ¬ n < 0) ∧ sp.toNatClampNeg + n.toNatClampNeg ≤ n0 ∧ dp.toNatClampNeg + n.toNatClampNeg ≤ n1 then some (pA σ a (va_cpy (gV σ a0) (gV σ a) sp.toNatClampNeg dp.toNatClampNeg n.toNatClampNeg)) else none
  | _, _ => none
def fr_ushr (x y : Int32) : Int32 := (x.toUInt32 >>> (y.toUInt32 &&& Int32.toUInt32 31)).toInt32
def fr_lushr (x : Int64) (y : Int32) : Int64 := (x.toUInt64 >>> (y.toInt64.toUInt64 &&& Int64.toUInt64 63)).toInt64
theorem oK_inv {σ : fr_S} {ci a : Nat} {u : Unit} (h : oK σ ci a = some u) : gK σ a = some (.inl ci) := by
  unfold oK at h
  by_cases hk : gK σ a = some (.inl ci)
  · exact hk
  · rw [if_neg hk] at h; cases h
theorem oI_inv {σ : fr_S} {ci f a : Nat} {v : Int32} (h : oI σ ci f a = some v) : gK σ a = some (.inl ci) ∧ gI σ f a = v := by
  unfold oI at h
  by_cases hk : gK σ a = some (.inl ci)
  · rw [if_pos hk] at h; exact ⟨hk, Option.some.inj h⟩
  · rw [if_neg hk] at h; cases h
theorem oP_inv {σ : fr_S} {ci f a r : Nat} (h : oP σ ci f a = some r) : gK σ a = some (.inl ci) ∧ gP σ f a = some r := by
  unfold oP at h
  by_cases hk : gK σ a = some (.inl ci)
  · rw [if_pos hk] at h; exact ⟨hk, h⟩
  · rw [if_neg hk] at h; cases h
theorem sI_inv {σ σ1 : fr_S} {ci f a : Nat} {v : Int32} (h : sI σ ci f a v = some σ1) : gK σ a = some (.inl ci) ∧ pI σ f a v = σ1 := by
  unfold sI at h
  by_cases hk : gK σ a = some (.inl ci)
  · rw [if_pos hk] at h; exact ⟨hk, Option.some.inj h⟩
  · rw [if_neg hk] at h; cases h
theorem sZ_inv {σ σ1 : fr_S} {ci f a : Nat} {v : Int32} (h : sZ σ ci f a v = some σ1) : gK σ a = some (.inl ci) ∧ (v = 0 ∨ v = 1) ∧ pI σ f a v = σ1 := by
  unfold sZ at h
  by_cases hk : gK σ a = some (.inl ci) ∧ (v = 0 ∨ v = 1)
  · rw [if_pos hk] at h; exact ⟨hk.1, hk.2, Option.some.inj h⟩
  · rw [if_neg hk] at h; cases h
theorem sP_inv {σ σ1 : fr_S} {ci f a r : Nat} (h : sP σ ci f a r = some σ1) : gK σ a = some (.inl ci) ∧ pP σ f a (some r) = σ1 := by
  unfold sP at h
  by_cases hk : gK σ a = some (.inl ci)
  · rw [if_pos hk] at h; exact ⟨hk, Option.some.inj h⟩
  · rw [if_neg hk] at h; cases h
theorem oZ_inv {v : Int32} {u : Unit} (h : oZ v = some u) : v = 0 ∨ v = 1 := by
  unfold oZ at h
  by_cases hk : v = 0 ∨ v = 1
  · exact hk
  · rw [if_neg hk] at h; cases h
theorem oNZ_inv {v : Int32} {u : Unit} (h : oNZ v = some u) : ¬ v = 0 := by
  unfold oNZ at h
  by_cases hk : v = 0
  · rw [if_pos hk] at h; cases h
  · exact hk
theorem oN_inv {σ : fr_S} {t a : Nat} {v : Int32} (h : oN σ t a = some v) : ∃ n : Nat, gK σ a = some (.inr (t, n)) ∧ Int32.ofNat n = v := by
  unfold oN at h
  split at h
  · next t' n hk =>
    by_cases hh : t' = t
    · rw [if_pos hh] at h; exact ⟨n, by rw [hk, hh], Option.some.inj h⟩
    · rw [if_neg hh] at h; cases h
  · cases h
theorem oV_inv {σ : fr_S} {t a : Nat} {i v : Int32} (h : oV σ t a i = some v) : ∃ n : Nat, gK σ a = some (.inr (t, n)) ∧ vp_in i n ∧ gV σ a i.toNatClampNeg = v := by
  unfold oV at h
  split at h
  · next t' n hk =>
    by_cases hh : t' = t ∧ ¬ (i < 0 ∨ n ≤ i.toNatClampNeg)
    · rw [if_pos hh] at h; exact ⟨n, by rw [hk, hh.1], hh.2, Option.some.inj h⟩
    · rw [if_neg hh] at h; cases h
  · cases h
theorem oQ_inv {σ : fr_S} {t a r : Nat} {i : Int32} (h : oQ σ t a i = some r) : ∃ n : Nat, gK σ a = some (.inr (t, n)) ∧ vp_in i n ∧ gQ σ a i.toNatClampNeg = some r := by
  unfold oQ at h
  split at h
  · next t' n hk =>
    by_cases hh : t' = t ∧ ¬ (i < 0 ∨ n ≤ i.toNatClampNeg)
    · rw [if_pos hh] at h; exact ⟨n, by rw [hk, hh.1], hh.2, h⟩
    · rw [if_neg hh] at h; cases h
  · cases h
theorem sV_inv {σ σ1 : fr_S} {t a : Nat} {i v : Int32} (h : sV σ t a i v = some σ1) : ∃ n : Nat, gK σ a = some (.inr (t, n)) ∧ vp_in i n ∧ pA σ a (upd (gV σ a) i.toNatClampNeg v) = σ1 := by
  unfold sV at h
  split at h
  · next t' n hk =>
    by_cases hh : t' = t ∧ ¬ (i < 0 ∨ n ≤ i.toNatClampNeg)
    · rw [if_pos hh] at h; exact ⟨n, by rw [hk, hh.1], hh.2, Option.some.inj h⟩
    · rw [if_neg hh] at h; cases h
  · cases h
theorem sQ_inv {σ σ1 : fr_S} {t ci a r : Nat} {i : Int32} (h : sQ σ t ci a i r = some σ1) : ∃ n : Nat, gK σ a = some (.inr (t, n)) ∧ gK σ r = some (.inl ci) ∧ vp_in i n ∧ pB σ a (va_up (gQ σ a) i.toNatClampNeg (some r)) = σ1 := by
  unfold sQ at h
  split at h
  · next t' n hk =>
    by_cases hh : (t' = t ∧ gK σ r = some (.inl ci)) ∧ ¬ (i < 0 ∨ n ≤ i.toNatClampNeg)
    · rw [if_pos hh] at h; exact ⟨n, by rw [hk, hh.1.1], hh.1.2, hh.2, Option.some.inj h⟩
    · rw [if_neg hh] at h; cases h
  · cases h
theorem sC_inv {σ σ1 : fr_S} {a0 a : Nat} {sp dp n : Int32} (h : sC σ a0 sp a dp n = some σ1) : ∃ n0 n1 : Nat, gK σ a0 = some (.inr (0, n0)) ∧ gK σ a = some (.inr (0, n1)) ∧ (¬ sp < 0 ∧ ¬ dp < 0 ∧ ¬ n < 0) ∧ sp.toNatClampNeg + n.toNatClampNeg ≤ n0 ∧ dp.toNatClampNeg + n.toNatClampNeg ≤ n1 ∧ pA σ a (va_cpy (gV σ a0) (gV σ a) sp.toNatClampNeg dp.toNatClampNeg n.toNatClampNeg) = σ1 := by
  unfold sC at h
  split at h
  · next t0 n0 t1 n1 hk0 hk1 =>
    by_cases hh : (t0 = 0 ∧ t1 = 0) ∧ (¬ sp < 0 ∧ ¬ dp < 0 ∧ ¬ n < 0) ∧ sp.toNatClampNeg + n.toNatClampNeg ≤ n0 ∧ dp.toNatClampNeg + n.toNatClampNeg ≤ n1
    · rw [if_pos hh] at h; exact ⟨n0, n1, by rw [hk0, hh.1.1], by rw [hk1, hh.1.2], hh.2.1, hh.2.2.1, hh.2.2.2, Option.some.inj h⟩
    · rw [if_neg hh] at h; cases h
  · cases h
/-- the fields of an object, in the order of the slots -/
def fr_fl (σ : fr_S) (ci a : Nat) : List Value := match ci with
  | 0 => [.int (gI σ 0 a), va_rf (gP σ 1 a), va_rf (gP σ 2 a), va_rf (gP σ 3 a), .int (gI σ 4 a), va_rf (gP σ 5 a), .int (gI σ 6 a), va_rf (gP σ 7 a), va_rf (gP σ 8 a), va_rf (gP σ 9 a), .int (gI σ 10 a), va_rf (gP σ 11 a), .int (gI σ 12 a), .int (gI σ 13 a)]
  | 1 => [va_rf (gP σ 64 a), va_rf (gP σ 65 a), va_rf (gP σ 66 a), va_rf (gP σ 67 a), .int (gI σ 68 a)]
  | 2 => [va_rf (gP σ 128 a), .int (gI σ 129 a), .int (gI σ 130 a), .int (gI σ 131 a), .int (gI σ 132 a), .int (gI σ 133 a), .int (gI σ 134 a), .int (gI σ 135 a), .int (gI σ 136 a), .int (gI σ 137 a)]
  | 3 => [va_rf (gP σ 192 a), .int (gI σ 193 a)]
  | 4 => [va_rf (gP σ 256 a), va_rf (gP σ 257 a), .int (gI σ 258 a)]
  | 5 => [va_rf (gP σ 320 a), va_rf (gP σ 321 a), va_rf (gP σ 322 a), .int (gI σ 323 a)]
  | 6 => [va_rf (gP σ 384 a), va_rf (gP σ 385 a), .int (gI σ 386 a), .int (gI σ 387 a), .int (gI σ 388 a), .int (gI σ 389 a), .int (gI σ 390 a), .int (gI σ 391 a), .int (gI σ 392 a)]
  | 7 => [.int (gI σ 448 a), .int (gI σ 449 a), .int (gI σ 450 a), .int (gI σ 451 a), va_rf (gP σ 452 a), va_rf (gP σ 453 a), .int (gI σ 454 a), .int (gI σ 455 a), .int (gI σ 456 a), .int (gI σ 457 a), .int (gI σ 458 a), va_rf (gP σ 459 a), va_rf (gP σ 460 a), va_rf (gP σ 461 a), va_rf (gP σ 462 a), va_rf (gP σ 463 a), va_rf (gP σ 464 a), va_rf (gP σ 465 a), va_rf (gP σ 466 a), va_rf (gP σ 467 a), va_rf (gP σ 468 a), va_rf (gP σ 469 a), va_rf (gP σ 470 a), va_rf (gP σ 471 a), va_rf (gP σ 472 a), va_rf (gP σ 473 a), va_rf (gP σ 474 a), va_rf (gP σ 475 a), va_rf (gP σ 476 a), va_rf (gP σ 477 a), va_rf (gP σ 478 a), va_rf (gP σ 479 a), va_rf (gP σ 480 a), va_rf (gP σ 481 a), va_rf (gP σ 482 a), va_rf (gP σ 483 a), va_rf (gP σ 484 a), va_rf (gP σ 485 a), va_rf (gP σ 486 a), .int (gI σ 487 a), va_rf (gP σ 488 a), va_rf (gP σ 489 a), va_rf (gP σ 490 a), va_rf (gP σ 491 a)]
  | _ => []
theorem fs_0_0 (σ : fr_S) (a : Nat) (v : Int32) : (fr_fl σ 0 a).set 0 (.int v) = fr_fl (pI σ 0 a v) 0 a := by simp [fr_fl, gI, gP, pI]
theorem fs_0_1 (σ : fr_S) (a r : Nat) : (fr_fl σ 0 a).set 1 (.ref r) = fr_fl (pP σ 1 a (some r)) 0 a := by simp [fr_fl, gI, gP, pP, va_rf]
theorem fs_0_2 (σ : fr_S) (a r : Nat) : (fr_fl σ 0 a).set 2 (.ref r) = fr_fl (pP σ 2 a (some r)) 0 a := by simp [fr_fl, gI, gP, pP, va_rf]
theorem fs_0_3 (σ : fr_S) (a r : Nat) : (fr_fl σ 0 a).set 3 (.ref r) = fr_fl (pP σ 3 a (some r)) 0 a := by simp [fr_fl, gI, gP, pP, va_rf]
theorem fs_0_4 (σ : fr_S) (a : Nat) (v : Int32) : (fr_fl σ 0 a).set 4 (.int v) = fr_fl (pI σ 4 a v) 0 a := by simp [fr_fl, gI, gP, pI]
theorem fs_0_5 (σ : fr_S) (a r : Nat) : (fr_fl σ 0 a).set 5 (.ref r) = fr_fl (pP σ 5 a (some r)) 0 a := by simp [fr_fl, gI, gP, pP, va_rf]
theorem fs_0_6 (σ : fr_S) (a : Nat) (v : Int32) : (fr_fl σ 0 a).set 6 (.int v) = fr_fl (pI σ 6 a v) 0 a := by simp [fr_fl, gI, gP, pI]
theorem fs_0_7 (σ : fr_S) (a r : Nat) : (fr_fl σ 0 a).set 7 (.ref r) = fr_fl (pP σ 7 a (some r)) 0 a := by simp [fr_fl, gI, gP, pP, va_rf]
theorem fs_0_8 (σ : fr_S) (a r : Nat) : (fr_fl σ 0 a).set 8 (.ref r) = fr_fl (pP σ 8 a (some r)) 0 a := by simp [fr_fl, gI, gP, pP, va_rf]
theorem fs_0_9 (σ : fr_S) (a r : Nat) : (fr_fl σ 0 a).set 9 (.ref r) = fr_fl (pP σ 9 a (some r)) 0 a := by simp [fr_fl, gI, gP, pP, va_rf]
theorem fs_0_10 (σ : fr_S) (a : Nat) (v : Int32) : (fr_fl σ 0 a).set 10 (.int v) = fr_fl (pI σ 10 a v) 0 a := by simp [fr_fl, gI, gP, pI]
theorem fs_0_11 (σ : fr_S) (a r : Nat) : (fr_fl σ 0 a).set 11 (.ref r) = fr_fl (pP σ 11 a (some r)) 0 a := by simp [fr_fl, gI, gP, pP, va_rf]
theorem fs_0_12 (σ : fr_S) (a : Nat) (v : Int32) : (fr_fl σ 0 a).set 12 (.int v) = fr_fl (pI σ 12 a v) 0 a := by simp [fr_fl, gI, gP, pI]
theorem fs_0_13 (σ : fr_S) (a : Nat) (v : Int32) : (fr_fl σ 0 a).set 13 (.int v) = fr_fl (pI σ 13 a v) 0 a := by simp [fr_fl, gI, gP, pI]
theorem fs_1_0 (σ : fr_S) (a r : Nat) : (fr_fl σ 1 a).set 0 (.ref r) = fr_fl (pP σ 64 a (some r)) 1 a := by simp [fr_fl, gI, gP, pP, va_rf]
theorem fs_1_1 (σ : fr_S) (a r : Nat) : (fr_fl σ 1 a).set 1 (.ref r) = fr_fl (pP σ 65 a (some r)) 1 a := by simp [fr_fl, gI, gP, pP, va_rf]
theorem fs_1_2 (σ : fr_S) (a r : Nat) : (fr_fl σ 1 a).set 2 (.ref r) = fr_fl (pP σ 66 a (some r)) 1 a := by simp [fr_fl, gI, gP, pP, va_rf]
theorem fs_1_3 (σ : fr_S) (a r : Nat) : (fr_fl σ 1 a).set 3 (.ref r) = fr_fl (pP σ 67 a (some r)) 1 a := by simp [fr_fl, gI, gP, pP, va_rf]
theorem fs_1_4 (σ : fr_S) (a : Nat) (v : Int32) : (fr_fl σ 1 a).set 4 (.int v) = fr_fl (pI σ 68 a v) 1 a := by simp [fr_fl, gI, gP, pI]
theorem fs_2_0 (σ : fr_S) (a r : Nat) : (fr_fl σ 2 a).set 0 (.ref r) = fr_fl (pP σ 128 a (some r)) 2 a := by simp [fr_fl, gI, gP, pP, va_rf]
theorem fs_2_1 (σ : fr_S) (a : Nat) (v : Int32) : (fr_fl σ 2 a).set 1 (.int v) = fr_fl (pI σ 129 a v) 2 a := by simp [fr_fl, gI, gP, pI]
theorem fs_2_2 (σ : fr_S) (a : Nat) (v : Int32) : (fr_fl σ 2 a).set 2 (.int v) = fr_fl (pI σ 130 a v) 2 a := by simp [fr_fl, gI, gP, pI]
theorem fs_2_3 (σ : fr_S) (a : Nat) (v : Int32) : (fr_fl σ 2 a).set 3 (.int v) = fr_fl (pI σ 131 a v) 2 a := by simp [fr_fl, gI, gP, pI]
theorem fs_2_4 (σ : fr_S) (a : Nat) (v : Int32) : (fr_fl σ 2 a).set 4 (.int v) = fr_fl (pI σ 132 a v) 2 a := by simp [fr_fl, gI, gP, pI]
theorem fs_2_5 (σ : fr_S) (a : Nat) (v : Int32) : (fr_fl σ 2 a).set 5 (.int v) = fr_fl (pI σ 133 a v) 2 a := by simp [fr_fl, gI, gP, pI]
theorem fs_2_6 (σ : fr_S) (a : Nat) (v : Int32) : (fr_fl σ 2 a).set 6 (.int v) = fr_fl (pI σ 134 a v) 2 a := by simp [fr_fl, gI, gP, pI]
theorem fs_2_7 (σ : fr_S) (a : Nat) (v : Int32) : (fr_fl σ 2 a).set 7 (.int v) = fr_fl (pI σ 135 a v) 2 a := by simp [fr_fl, gI, gP, pI]
theorem fs_2_8 (σ : fr_S) (a : Nat) (v : Int32) : (fr_fl σ 2 a).set 8 (.int v) = fr_fl (pI σ 136 a v) 2 a := by simp [fr_fl, gI, gP, pI]
theorem fs_2_9 (σ : fr_S) (a : Nat) (v : Int32) : (fr_fl σ 2 a).set 9 (.int v) = fr_fl (pI σ 137 a v) 2 a := by simp [fr_fl, gI, gP, pI]
theorem fs_3_0 (σ : fr_S) (a r : Nat) : (fr_fl σ 3 a).set 0 (.ref r) = fr_fl (pP σ 192 a (some r)) 3 a := by simp [fr_fl, gI, gP, pP, va_rf]
theorem fs_3_1 (σ : fr_S) (a : Nat) (v : Int32) : (fr_fl σ 3 a).set 1 (.int v) = fr_fl (pI σ 193 a v) 3 a := by simp [fr_fl, gI, gP, pI]
theorem fs_4_0 (σ : fr_S) (a r : Nat) : (fr_fl σ 4 a).set 0 (.ref r) = fr_fl (pP σ 256 a (some r)) 4 a := by simp [fr_fl, gI, gP, pP, va_rf]
theorem fs_4_1 (σ : fr_S) (a r : Nat) : (fr_fl σ 4 a).set 1 (.ref r) = fr_fl (pP σ 257 a (some r)) 4 a := by simp [fr_fl, gI, gP, pP, va_rf]
theorem fs_4_2 (σ : fr_S) (a : Nat) (v : Int32) : (fr_fl σ 4 a).set 2 (.int v) = fr_fl (pI σ 258 a v) 4 a := by simp [fr_fl, gI, gP, pI]
theorem fs_5_0 (σ : fr_S) (a r : Nat) : (fr_fl σ 5 a).set 0 (.ref r) = fr_fl (pP σ 320 a (some r)) 5 a := by simp [fr_fl, gI, gP, pP, va_rf]
theorem fs_5_1 (σ : fr_S) (a r : Nat) : (fr_fl σ 5 a).set 1 (.ref r) = fr_fl (pP σ 321 a (some r)) 5 a := by simp [fr_fl, gI, gP, pP, va_rf]
theorem fs_5_2 (σ : fr_S) (a r : Nat) : (fr_fl σ 5 a).set 2 (.ref r) = fr_fl (pP σ 322 a (some r)) 5 a := by simp [fr_fl, gI, gP, pP, va_rf]
theorem fs_5_3 (σ : fr_S) (a : Nat) (v : Int32) : (fr_fl σ 5 a).set 3 (.int v) = fr_fl (pI σ 323 a v) 5 a := by simp [fr_fl, gI, gP, pI]
theorem fs_6_0 (σ : fr_S) (a r : Nat) : (fr_fl σ 6 a).set 0 (.ref r) = fr_fl (pP σ 384 a (some r)) 6 a := by simp [fr_fl, gI, gP, pP, va_rf]
theorem fs_6_1 (σ : fr_S) (a r : Nat) : (fr_fl σ 6 a).set 1 (.ref r) = fr_fl (pP σ 385 a (some r)) 6 a := by simp [fr_fl, gI, gP, pP, va_rf]
theorem fs_6_2 (σ : fr_S) (a : Nat) (v : Int32) : (fr_fl σ 6 a).set 2 (.int v) = fr_fl (pI σ 386 a v) 6 a := by simp [fr_fl, gI, gP, pI]
theorem fs_6_3 (σ : fr_S) (a : Nat) (v : Int32) : (fr_fl σ 6 a).set 3 (.int v) = fr_fl (pI σ 387 a v) 6 a := by simp [fr_fl, gI, gP, pI]
theorem fs_6_4 (σ : fr_S) (a : Nat) (v : Int32) : (fr_fl σ 6 a).set 4 (.int v) = fr_fl (pI σ 388 a v) 6 a := by simp [fr_fl, gI, gP, pI]
theorem fs_6_5 (σ : fr_S) (a : Nat) (v : Int32) : (fr_fl σ 6 a).set 5 (.int v) = fr_fl (pI σ 389 a v) 6 a := by simp [fr_fl, gI, gP, pI]
theorem fs_6_6 (σ : fr_S) (a : Nat) (v : Int32) : (fr_fl σ 6 a).set 6 (.int v) = fr_fl (pI σ 390 a v) 6 a := by simp [fr_fl, gI, gP, pI]
theorem fs_6_7 (σ : fr_S) (a : Nat) (v : Int32) : (fr_fl σ 6 a).set 7 (.int v) = fr_fl (pI σ 391 a v) 6 a := by simp [fr_fl, gI, gP, pI]
theorem fs_6_8 (σ : fr_S) (a : Nat) (v : Int32) : (fr_fl σ 6 a).set 8 (.int v) = fr_fl (pI σ 392 a v) 6 a := by simp [fr_fl, gI, gP, pI]
theorem fs_7_0 (σ : fr_S) (a : Nat) (v : Int32) : (fr_fl σ 7 a).set 0 (.int v) = fr_fl (pI σ 448 a v) 7 a := by simp [fr_fl, gI, gP, pI]
theorem fs_7_1 (σ : fr_S) (a : Nat) (v : Int32) : (fr_fl σ 7 a).set 1 (.int v) = fr_fl (pI σ 449 a v) 7 a := by simp [fr_fl, gI, gP, pI]
theorem fs_7_2 (σ : fr_S) (a : Nat) (v : Int32) : (fr_fl σ 7 a).set 2 (.int v) = fr_fl (pI σ 450 a v) 7 a := by simp [fr_fl, gI, gP, pI]
theorem fs_7_3 (σ : fr_S) (a : Nat) (v : Int32) : (fr_fl σ 7 a).set 3 (.int v) = fr_fl (pI σ 451 a v) 7 a := by simp [fr_fl, gI, gP, pI]
theorem fs_7_4 (σ : fr_S) (a r : Nat) : (fr_fl σ 7 a).set 4 (.ref r) = fr_fl (pP σ 452 a (some r)) 7 a := by simp [fr_fl, gI, gP, pP, va_rf]
theorem fs_7_5 (σ : fr_S) (a r : Nat) : (fr_fl σ 7 a).set 5 (.ref r) = fr_fl (pP σ 453 a (some r)) 7 a := by simp [fr_fl, gI, gP, pP, va_rf]
theorem fs_7_6 (σ : fr_S) (a : Nat) (v : Int32) : (fr_fl σ 7 a).set 6 (.int v) = fr_fl (pI σ 454 a v) 7 a := by simp [fr_fl, gI, gP, pI]
theorem fs_7_7 (σ : fr_S) (a : Nat) (v : Int32) : (fr_fl σ 7 a).set 7 (.int v) = fr_fl (pI σ 455 a v) 7 a := by simp [fr_fl, gI, gP, pI]
theorem fs_7_8 (σ : fr_S) (a : Nat) (v : Int32) : (fr_fl σ 7 a).set 8 (.int v) = fr_fl (pI σ 456 a v) 7 a := by simp [fr_fl, gI, gP, pI]
theorem fs_7_9 (σ : fr_S) (a : Nat) (v : Int32) : (fr_fl σ 7 a).set 9 (.int v) = fr_fl (pI σ 457 a v) 7 a := by simp [fr_fl, gI, gP, pI]
theorem fs_7_10 (σ : fr_S) (a : Nat) (v : Int32) : (fr_fl σ 7 a).set 10 (.int v) = fr_fl (pI σ 458 a v) 7 a := by simp [fr_fl, gI, gP, pI]
theorem fs_7_11 (σ : fr_S) (a r : Nat) : (fr_fl σ 7 a).set 11 (.ref r) = fr_fl (pP σ 459 a (some r)) 7 a := by simp [fr_fl, gI, gP, pP, va_rf]
theorem fs_7_12 (σ : fr_S) (a r : Nat) : (fr_fl σ 7 a).set 12 (.ref r) = fr_fl (pP σ 460 a (some r)) 7 a := by simp [fr_fl, gI, gP, pP, va_rf]
theorem fs_7_13 (σ : fr_S) (a r : Nat) : (fr_fl σ 7 a).set 13 (.ref r) = fr_fl (pP σ 461 a (some r)) 7 a := by simp [fr_fl, gI, gP, pP, va_rf]
theorem fs_7_14 (σ : fr_S) (a r : Nat) : (fr_fl σ 7 a).set 14 (.ref r) = fr_fl (pP σ 462 a (some r)) 7 a := by simp [fr_fl, gI, gP, pP, va_rf]
theorem fs_7_15 (σ : fr_S) (a r : Nat) : (fr_fl σ 7 a).set 15 (.ref r) = fr_fl (pP σ 463 a (some r)) 7 a := by simp [fr_fl, gI, gP, pP, va_rf]
theorem fs_7_16 (σ : fr_S) (a r : Nat) : (fr_fl σ 7 a).set 16 (.ref r) = fr_fl (pP σ 464 a (some r)) 7 a := by simp [fr_fl, gI, gP, pP, va_rf]
theorem fs_7_17 (σ : fr_S) (a r : Nat) : (fr_fl σ 7 a).set 17 (.ref r) = fr_fl (pP σ 465 a (some r)) 7 a := by simp [fr_fl, gI, gP, pP, va_rf]
theorem fs_7_18 (σ : fr_S) (a r : Nat) : (fr_fl σ 7 a).set 18 (.ref r) = fr_fl (pP σ 466 a (some r)) 7 a := by simp [fr_fl, gI, gP, pP, va_rf]
theorem fs_7_19 (σ : fr_S) (a r : Nat) : (fr_fl σ 7 a).set 19 (.ref r) = fr_fl (pP σ 467 a (some r)) 7 a := by simp [fr_fl, gI, gP, pP, va_rf]
theorem fs_7_20 (σ : fr_S) (a r : Nat) : (fr_fl σ 7 a).set 20 (.ref r) = fr_fl (pP σ 468 a (some r)) 7 a := by simp [fr_fl, gI, gP, pP, va_rf]
theorem fs_7_21 (σ : fr_S) (a r : Nat) : (fr_fl σ 7 a).set 21 (.ref r) = fr_fl (pP σ 469 a (some r)) 7 a := by simp [fr_fl, gI, gP, pP, va_rf]
theorem fs_7_22 (σ : fr_S) (a r : Nat) : (fr_fl σ 7 a).set 22 (.ref r) = fr_fl (pP σ 470 a (some r)) 7 a := by simp [fr_fl, gI, gP, pP, va_rf]
theorem fs_7_23 (σ : fr_S) (a r : Nat) : (fr_fl σ 7 a).set 23 (.ref r) = fr_fl (pP σ 471 a (some r)) 7 a := by simp [fr_fl, gI, gP, pP, va_rf]
theorem fs_7_24 (σ : fr_S) (a r : Nat) : (fr_fl σ 7 a).set 24 (.ref r) = fr_fl (pP σ 472 a (some r)) 7 a := by simp [fr_fl, gI, gP, pP, va_rf]
theorem fs_7_25 (σ : fr_S) (a r : Nat) : (fr_fl σ 7 a).set 25 (.ref r) = fr_fl (pP σ 473 a (some r)) 7 a := by simp [fr_fl, gI, gP, pP, va_rf]
theorem fs_7_26 (σ : fr_S) (a r : Nat) : (fr_fl σ 7 a).set 26 (.ref r) = fr_fl (pP σ 474 a (some r)) 7 a := by simp [fr_fl, gI, gP, pP, va_rf]
theorem fs_7_27 (σ : fr_S) (a r : Nat) : (fr_fl σ 7 a).set 27 (.ref r) = fr_fl (pP σ 475 a (some r)) 7 a := by simp [fr_fl, gI, gP, pP, va_rf]
theorem fs_7_28 (σ : fr_S) (a r : Nat) : (fr_fl σ 7 a).set 28 (.ref r) = fr_fl (pP σ 476 a (some r)) 7 a := by simp [fr_fl, gI, gP, pP, va_rf]
theorem fs_7_29 (σ : fr_S) (a r : Nat) : (fr_fl σ 7 a).set 29 (.ref r) = fr_fl (pP σ 477 a (some r)) 7 a := by simp [fr_fl, gI, gP, pP, va_rf]
theorem fs_7_30 (σ : fr_S) (a r : Nat) : (fr_fl σ 7 a).set 30 (.ref r) = fr_fl (pP σ 478 a (some r)) 7 a := by simp [fr_fl, gI, gP, pP, va_rf]
theorem fs_7_31 (σ : fr_S) (a r : Nat) : (fr_fl σ 7 a).set 31 (.ref r) = fr_fl (pP σ 479 a (some r)) 7 a := by simp [fr_fl, gI, gP, pP, va_rf]
theorem fs_7_32 (σ : fr_S) (a r : Nat) : (fr_fl σ 7 a).set 32 (.ref r) = fr_fl (pP σ 480 a (some r)) 7 a := by simp [fr_fl, gI, gP, pP, va_rf]
theorem fs_7_33 (σ : fr_S) (a r : Nat) : (fr_fl σ 7 a).set 33 (.ref r) = fr_fl (pP σ 481 a (some r)) 7 a := by simp [fr_fl, gI, gP, pP, va_rf]
theorem fs_7_34 (σ : fr_S) (a r : Nat) : (fr_fl σ 7 a).set 34 (.ref r) = fr_fl (pP σ 482 a (some r)) 7 a := by simp [fr_fl, gI, gP, pP, va_rf]
theorem fs_7_35 (σ : fr_S) (a r : Nat) : (fr_fl σ 7 a).set 35 (.ref r) = fr_fl (pP σ 483 a (some r)) 7 a := by simp [fr_fl, gI, gP, pP, va_rf]
theorem fs_7_36 (σ : fr_S) (a r : Nat) : (fr_fl σ 7 a).set 36 (.ref r) = fr_fl (pP σ 484 a (some r)) 7 a := by simp [fr_fl, gI, gP, pP, va_rf]
theorem fs_7_37 (σ : fr_S) (a r : Nat) : (fr_fl σ 7 a).set 37 (.ref r) = fr_fl (pP σ 485 a (some r)) 7 a := by simp [fr_fl, gI, gP, pP, va_rf]
theorem fs_7_38 (σ : fr_S) (a r : Nat) : (fr_fl σ 7 a).set 38 (.ref r) = fr_fl (pP σ 486 a (some r)) 7 a := by simp [fr_fl, gI, gP, pP, va_rf]
theorem fs_7_39 (σ : fr_S) (a : Nat) (v : Int32) : (fr_fl σ 7 a).set 39 (.int v) = fr_fl (pI σ 487 a v) 7 a := by simp [fr_fl, gI, gP, pI]
theorem fs_7_40 (σ : fr_S) (a r : Nat) : (fr_fl σ 7 a).set 40 (.ref r) = fr_fl (pP σ 488 a (some r)) 7 a := by simp [fr_fl, gI, gP, pP, va_rf]
theorem fs_7_41 (σ : fr_S) (a r : Nat) : (fr_fl σ 7 a).set 41 (.ref r) = fr_fl (pP σ 489 a (some r)) 7 a := by simp [fr_fl, gI, gP, pP, va_rf]
theorem fs_7_42 (σ : fr_S) (a r : Nat) : (fr_fl σ 7 a).set 42 (.ref r) = fr_fl (pP σ 490 a (some r)) 7 a := by simp [fr_fl, gI, gP, pP, va_rf]
theorem fs_7_43 (σ : fr_S) (a r : Nat) : (fr_fl σ 7 a).set 43 (.ref r) = fr_fl (pP σ 491 a (some r)) 7 a := by simp [fr_fl, gI, gP, pP, va_rf]
end
section
/-! THE CELLS OF A STATE, and the heap that holds them -/
theorem fl_congr {σ τ : fr_S} {ci b : Nat} (h1 : ∀ f, gI σ f b = gI τ f b) (h2 : ∀ f, gP σ f b = gP τ f b) : fr_fl σ ci b = fr_fl τ ci b := by
  unfold fr_fl
  split <;> simp only [h1, h2]
def fr_el (σ : fr_S) (t a : Nat) : ((Nat → Int32) ⊕ (Nat → Int64) ⊕ (Nat → UInt32) ⊕ (Nat → UInt64) ⊕ (Nat → Option Nat)) := if t < 2 then .inl (gV σ a) else .inr (.inr (.inr (.inr (gQ σ a))))
def fr_c (T : Nat → ClassId) (σ : fr_S) (a : Nat) : Option va_E := match gK σ a with
  | none => none
  | some (.inl ci) => some (.inr (ci, fr_fl σ ci a))
  | some (.inr (t, n)) => some (.inl (T t, n, fr_el σ t a))
theorem c_obj {T : Nat → ClassId} {σ : fr_S} {a ci : Nat} (hk : gK σ a = some (.inl ci)) : fr_c T σ a = some (.inr (ci, fr_fl σ ci a)) := by
  unfold fr_c
  rw [hk]
theorem c_arr {T : Nat → ClassId} {σ : fr_S} {a t n : Nat} (hk : gK σ a = some (.inr (t, n))) : fr_c T σ a = some (.inl (T t, n, fr_el σ t a)) := by
  unfold fr_c
  rw [hk]
theorem c_none {T : Nat → ClassId} {σ : fr_S} {a : Nat} (hk : gK σ a = none) : fr_c T σ a = none := by
  unfold fr_c
  rw [hk]
theorem c_some {T : Nat → ClassId} {σ : fr_S} {a : Nat} {e : va_E} (h : fr_c T σ a = some e) : gK σ a ≠ none := by
  intro hk
  rw [c_none hk] at h
  cases h
/-- a cell is as it was where nothing of it has changed -/
theorem c_congr {T : Nat → ClassId} {σ τ : fr_S} {b : Nat} (h0 : gK σ b = gK τ b) (h1 : ∀ f, gI σ f b = gI τ f b) (h2 : ∀ f, gP σ f b = gP τ f b) (h3 : gV σ b = gV τ b) (h4 : gQ σ b = gQ τ b) : fr_c T σ b = fr_c T τ b := by
  cases hk : gK τ b with
  | none => rw [c_none hk, c_none (h0.trans hk)]
  | some k =>
    cases k with
    | inl ci => rw [c_obj hk, c_obj (h0.trans hk), fl_congr h1 h2]
    | inr tn =>
      obtain ⟨t, n⟩ := tn
      rw [c_arr hk, c_arr (h0.trans hk)]
      unfold fr_el
      rw [h3, h4]
def fr_H (D : va_G) (T : Nat → ClassId) (A : Nat → Prop) (σ : fr_S) (H : Heap) : Prop := (∀ (a : Nat) (e : va_E), fr_c T σ a = some e → va_at D vwCl (a, e) H) ∧ ∀ a : Nat, gK σ a ≠ none → A a
theorem fr_one {D : va_G} {T : Nat → ClassId} {A : Nat → Prop} {σ : fr_S} {H : Heap} {a : Nat} {e : va_E} (h : fr_H D T A σ H) (hc : fr_c T σ a = some e) : va_P D vwCl [(a, e)] H := by
  intro k q hq
  have hk : k < 1 := (List.getElem?_eq_some_iff.mp hq).1
  rw [show k = 0 by omega] at hq
  cases hq
  exact h.1 a e hc
/-- all cells of a state as a world of the kit -/
theorem fr_list {D : va_G} {T : Nat → ClassId} {A : Nat → Prop} {σ : fr_S} {H : Heap} (h : fr_H D T A σ H) : ∃ ws : va_W, va_P D vwCl ws H ∧ va_D A ws ∧ ∀ (b : Nat) (e : va_E), fr_c T σ b = some e → ∃ j : Nat, ws[j]? = some (b, e) := by
  have key : ∀ q : Nat × va_E, q ∈ (List.range H.size).filterMap (fun a => (fr_c T σ a).map (fun e => (a, e))) → fr_c T σ q.1 = some q.2 := by
    intro q hq
    obtain ⟨a, -, ha⟩ := List.mem_filterMap.mp hq
    cases hc : fr_c T σ a with
    | none => rw [hc] at ha; cases ha
    | some e => rw [hc] at ha; cases ha; exact hc
  refine ⟨(List.range H.size).filterMap (fun a => (fr_c T σ a).map (fun e => (a, e))), ?_, ⟨?_, ?_⟩, ?_⟩
  · intro k q hk
    exact h.1 q.1 q.2 (key q (List.mem_of_getElem? hk))
  · have hpw : List.Pairwise (fun (p q : Nat × va_E) => p.1 < q.1) ((List.range H.size).filterMap (fun a => (fr_c T σ a).map (fun e => (a, e)))) := by
      refine List.Pairwise.filterMap _ ?_ List.pairwise_lt_range
      intro a a' haa b hb b' hb'
      have hb : (fr_c T σ a).map (fun e => (a, e)) = some b := hb
      have hb' : (fr_c T σ a').map (fun e => (a', e)) = some b' := hb'
      cases hc : fr_c T σ a with
      | none => rw [hc] at hb; cases hb
      | some e =>
        cases hc' : fr_c T σ a' with
        | none => rw [hc'] at hb'; cases hb'
        | some e' =>
          rw [hc] at hb
          rw [hc'] at hb'
          cases hb
          cases hb'
          exact haa
    have hpi := List.pairwise_iff_getElem.mp hpw
    intro i j p q hi hj hpq
    obtain ⟨hi1, hi2⟩ := List.getElem?_eq_some_iff.mp hi
    obtain ⟨hj1, hj2⟩ := List.getElem?_eq_some_iff.mp hj
    rcases Nat.lt_trichotomy i j with hlt | heq | hgt
    · have := hpi i j hi1 hj1 hlt
      rw [hi2, hj2] at this
      omega
    · exact heq
    · have := hpi j i hj1 hi1 hgt
      rw [hi2, hj2] at this
      omega
  · intro k q hk
    exact h.2 q.1 (c_some (key q (List.mem_of_getElem? hk)))
  · intro b e hb
    have hlt : b < H.size := (h.1 b e hb).lt
    refine List.getElem?_of_mem (List.mem_filterMap.mpr ⟨b, List.mem_range.mpr hlt, ?_⟩)
    rw [hb]
    rfl
/-- behind a write to the cell a -/
theorem fr_back {D : va_G} {T : Nat → ClassId} {A : Nat → Prop} {σ τ : fr_S} {H H1 : Heap} {ws : va_W} {q0 a : Nat} {e e1 : va_E} (h : fr_H D T A σ H) (hw : ∀ (b : Nat) (e : va_E), fr_c T σ b = some e → ∃ j : Nat, ws[j]? = some (b, e)) (hq : ws[q0]? = some (a, e)) (hP : va_P D vwCl (ws.set q0 (a, e1)) H1)
    (ha : fr_c T τ a = some e1) (ho : ∀ b, b ≠ a → fr_c T τ b = fr_c T σ b) (hg : ∀ b, gK τ b = gK σ b) : fr_H D T A τ H1 := by
  have hl := (List.getElem?_eq_some_iff.mp hq).1
  refine ⟨fun b x hx => ?_, fun b hb => h.2 b (by rw [← hg b]; exact hb)⟩
  by_cases hba : b = a
  · subst hba
    rw [ha] at hx
    cases hx
    exact hP q0 _ (List.getElem?_set_self hl)
  · rw [ho b hba] at hx
    obtain ⟨j, hj⟩ := hw b x hx
    have hjq : q0 ≠ j := by
      intro hjq
      rw [hjq, hj] at hq
      cases hq
      exact hba rfl
    refine hP j _ ?_
    rw [List.getElem?_set_ne hjq]
    exact hj
theorem c_pI {T : Nat → ClassId} {σ : fr_S} {f a : Nat} {v : Int32} : ∀ b, b ≠ a → fr_c T (pI σ f a v) b = fr_c T σ b := fun b hb => c_congr rfl (fun g => by simp [gI, pI, hb]) (fun _ => rfl) rfl rfl
theorem c_pP {T : Nat → ClassId} {σ : fr_S} {f a : Nat} {v : Option Nat} : ∀ b, b ≠ a → fr_c T (pP σ f a v) b = fr_c T σ b := fun b hb => c_congr rfl (fun _ => rfl) (fun g => by simp [gP, pP, hb]) rfl rfl
theorem c_pA {T : Nat → ClassId} {σ : fr_S} {a : Nat} {u : Nat → Int32} : ∀ b, b ≠ a → fr_c T (pA σ a u) b = fr_c T σ b := fun b hb => c_congr rfl (fun _ => rfl) (fun _ => rfl) (by simp [gV, pA, hb]) rfl
theorem c_pB {T : Nat → ClassId} {σ : fr_S} {a : Nat} {u : Nat → Option Nat} : ∀ b, b ≠ a → fr_c T (pB σ a u) b = fr_c T σ b := fun b hb => c_congr rfl (fun _ => rfl) (fun _ => rfl) rfl (by simp [gQ, pB, hb])
theorem c_pN {T : Nat → ClassId} {σ : fr_S} {a : Nat} {k : fr_K} : ∀ b, b ≠ a → fr_c T (pN σ a k) b = fr_c T σ b := fun b hb => c_congr (by simp [gK, pN, hb]) (fun g => by simp [gI, pN, hb]) (fun g => by simp [gP, pN, hb]) (by simp [gV, pN, hb]) (by simp [gQ, pN, hb])
theorem gV_pA {σ : fr_S} {a : Nat} {u : Nat → Int32} : gV (pA σ a u) a = u := by simp [gV, pA]
theorem gQ_pB {σ : fr_S} {a : Nat} {u : Nat → Option Nat} : gQ (pB σ a u) a = u := by simp [gQ, pB]
section FRR
variable {p : Program} {l : Launch} {e : Env} {R : Room} {s : State} {m : MethodId} {args : Array Value} {below : List Frame} {meth : Method} {c : Code} {H : Heap} {locs : List Loc} {cells slots : Nat} {Q : State → Prop}
variable {cc : ByteArray} {pc : Nat} {ls : Array Slot} {rest : List Value} {D : va_G} {T : Nat → ClassId} {A : Nat → Prop} {a : Nat} {σ σ1 : fr_S} {H0 : Heap} {tys : List (ClassId × FieldType)}
theorem fr_gI (hx : p.tables.exec = Jvm.exec) (hb : c.code = cc) {own ref C : String} {Tt : u_T} {N ci index : Nat} {Ts : List Cond} (hts : ∀ w ∈ Ts, w.before args s = true) (hin : ∀ w ∈ u_ws C Tt N, w ∈ Ts) (hown : s.vm.findClass own = some m.cls) (hK : va_K D vwCl tys s) (hH : fr_H D T A σ H) {f : Nat} {v : Int32} (h : oI σ ci f a = some v) (hc : vwCl[ci]? = some (C, Tt, N)) (k : Nat) (hk : k < N) (hlink : (Cond.fieldLink own index ref (Tt k).2.1 (Tt k).2.2.1).before args s = true) (hsame : ∀ x, s.fieldFound? (Tt k).1 (Tt k).2.1 (Tt k).2.2.1 = some x → s.fieldFound? ref (Tt k).2.1 (Tt k).2.2.1 = some x) (hv : (fr_fl σ ci a)[k]? = some (.int (gI σ f a))) (hdg : decode cc pc = .ok (.getfield index, 3))
    (kk : W p l e R s m args below meth c H locs cells slots Q (F0 m (pc + 3) ls (.int v :: rest))) : W p l e R s m args below meth c H locs cells slots Q (F0 m pc ls (.ref a :: rest)) := by
  obtain ⟨hk0, hv0⟩ := oI_inv h
  subst hv0
  exact va_get hx hb hts hin hown hK (fr_one hH (c_obj hk0)) 0 rfl hc k hk hlink hsame hv hdg kk
theorem fr_gP (hx : p.tables.exec = Jvm.exec) (hb : c.code = cc) {own ref C : String} {Tt : u_T} {N ci index : Nat} {Ts : List Cond} (hts : ∀ w ∈ Ts, w.before args s = true) (hin : ∀ w ∈ u_ws C Tt N, w ∈ Ts) (hown : s.vm.findClass own = some m.cls) (hK : va_K D vwCl tys s) (hH : fr_H D T A σ H) {f r : Nat} (h : oP σ ci f a = some r) (hc : vwCl[ci]? = some (C, Tt, N)) (k : Nat) (hk : k < N) (hlink : (Cond.fieldLink own index ref (Tt k).2.1 (Tt k).2.2.1).before args s = true) (hsame : ∀ x, s.fieldFound? (Tt k).1 (Tt k).2.1 (Tt k).2.2.1 = some x → s.fieldFound? ref (Tt k).2.1 (Tt k).2.2.1 = some x) (hv : (fr_fl σ ci a)[k]? = some (va_rf (gP σ f a))) (hdg : decode cc pc = .ok (.getfield index, 3))
    (kk : W p l e R s m args below meth c H locs cells slots Q (F0 m (pc + 3) ls (.ref r :: rest))) : W p l e R s m args below meth c H locs cells slots Q (F0 m pc ls (.ref a :: rest)) := by
  obtain ⟨hk0, hv0⟩ := oP_inv h
  rw [hv0] at hv
  exact va_get hx hb hts hin hown hK (fr_one hH (c_obj hk0)) 0 rfl hc k hk hlink hsame hv hdg kk
theorem fr_putI (hx : p.tables.exec = Jvm.exec) (hb : c.code = cc) {own ref C : String} {Tt : u_T} {N ci index : Nat} {Ts : List Cond} (hts : ∀ w ∈ Ts, w.before args s = true) (hin : ∀ w ∈ u_ws C Tt N, w ∈ Ts) (ty0 : Nat → FieldType) (hty : ∀ k, k < N → parseFieldDescriptor (Tt k).2.2.1 = some (ty0 k)) (hnm : ∀ a, a < N → ∀ b, b < N → a ≠ b → (Tt a).2.1 ≠ (Tt b).2.1) (hown : s.vm.findClass own = some m.cls) (hK : va_K D vwCl tys s) (hH : fr_H D T A σ H) (hS : va_S A H0 H locs) {f : Nat} {v : Int32} (h : sI σ ci f a v = some σ1) (hc : vwCl[ci]? = some (C, Tt, N)) (k : Nat) (hk : k < N) (hlink : (Cond.fieldLink own index ref (Tt k).2.1 (Tt k).2.2.1).before args s = true) (hsame : ∀ x, s.fieldFound? (Tt k).1 (Tt k).2.1 (Tt k).2.2.1 = some x → s.fieldFound? ref (Tt k).2.1 (Tt k).2.2.1 = some x) (hfin : (Tt k).2.2.2 = false) (hd : parseFieldDescriptor (Tt k).2.2.1 = some .int)
    (hset : (fr_fl σ ci a).set k (.int v) = fr_fl (pI σ f a v) ci a) (hl : k < (fr_fl σ ci a).length) (hdg : decode cc pc = .ok (.putfield index, 3))
    (kk : ∀ (H1 : Heap) (locs1 : List Loc), fr_H D T A σ1 H1 → va_S A H0 H1 locs1 → W p l e R s m args below meth c H1 locs1 cells slots Q (F0 m (pc + 3) ls rest)) : W p l e R s m args below meth c H locs cells slots Q (F0 m pc ls (.int v :: .ref a :: rest)) := by
  obtain ⟨hk0, hs0⟩ := sI_inv h
  subst hs0
  obtain ⟨ws, hP, hD, hw⟩ := fr_list hH
  obtain ⟨q0, hq0⟩ := hw a _ (c_obj hk0)
  exact va_put hx hb hts hin ty0 hty hnm hown hK hP hD hS q0 hq0 hc k hk hlink hsame hfin hd rfl rfl hl hdg (fun H1 locs1 hP1 _ hS1 => kk H1 locs1 (fr_back hH hw hq0 hP1 (by rw [hset]; exact c_obj hk0) c_pI (fun _ => rfl)) hS1)
theorem fr_putZ (hx : p.tables.exec = Jvm.exec) (hb : c.code = cc) {own ref C : String} {Tt : u_T} {N ci index : Nat} {Ts : List Cond} (hts : ∀ w ∈ Ts, w.before args s = true) (hin : ∀ w ∈ u_ws C Tt N, w ∈ Ts) (ty0 : Nat → FieldType) (hty : ∀ k, k < N → parseFieldDescriptor (Tt k).2.2.1 = some (ty0 k)) (hnm : ∀ a, a < N → ∀ b, b < N → a ≠ b → (Tt a).2.1 ≠ (Tt b).2.1) (hown : s.vm.findClass own = some m.cls) (hK : va_K D vwCl tys s) (hH : fr_H D T A σ H) (hS : va_S A H0 H locs) {f : Nat} {v : Int32} (h : sZ σ ci f a v = some σ1) (hc : vwCl[ci]? = some (C, Tt, N)) (k : Nat) (hk : k < N) (hlink : (Cond.fieldLink own index ref (Tt k).2.1 (Tt k).2.2.1).before args s = true) (hsame : ∀ x, s.fieldFound? (Tt k).1 (Tt k).2.1 (Tt k).2.2.1 = some x → s.fieldFound? ref (Tt k).2.1 (Tt k).2.2.1 = some x) (hfin : (Tt k).2.2.2 = false) (hd : parseFieldDescriptor (Tt k).2.2.1 = some .boolean)
    (hset : (fr_fl σ ci a).set k (.int v) = fr_fl (pI σ f a v) ci a) (hl : k < (fr_fl σ ci a).length) (hdg : decode cc pc = .ok (.putfield index, 3))
    (kk : ∀ (H1 : Heap) (locs1 : List Loc), fr_H D T A σ1 H1 → va_S A H0 H1 locs1 → W p l e R s m args below meth c H1 locs1 cells slots Q (F0 m (pc + 3) ls rest)) : W p l e R s m args below meth c H locs cells slots Q (F0 m pc ls (.int v :: .ref a :: rest)) := by
  obtain ⟨hk0, hz, hs0⟩ := sZ_inv h
  subst hs0
  obtain ⟨ws, hP, hD, hw⟩ := fr_list hH
  obtain ⟨q0, hq0⟩ := hw a _ (c_obj hk0)
  exact va_put hx hb hts hin ty0 hty hnm hown hK hP hD hS q0 hq0 hc k hk hlink hsame hfin hd (by rcases hz with h1 | h1 <;> rw [h1] <;> rfl) (by rcases hz with h1 | h1 <;> rw [h1] <;> rfl) hl hdg (fun H1 locs1 hP1 _ hS1 => kk H1 locs1 (fr_back hH hw hq0 hP1 (by rw [hset]; exact c_obj hk0) c_pI (fun _ => rfl)) hS1)
theorem fr_ild (hx : p.tables.exec = Jvm.exec) (hb : c.code = cc) (hK : va_K D vwCl (fr_tys T) s) (hH : fr_H D T A σ H) {i v : Int32} (h : oV σ 0 a i = some v) (hdg : decode cc pc = .ok (.iaload, 1))
    (kk : W p l e R s m args below meth c H locs cells slots Q (F0 m (pc + 1) ls (.int v :: rest))) : W p l e R s m args below meth c H locs cells slots Q (F0 m pc ls (.int i :: .ref a :: rest)) := by
  obtain ⟨n, hk, hin, hv⟩ := oV_inv h
  subst hv
  exact va_iald hx hb hK (fr_one hH (c_arr hk)) 0 0 rfl rfl hin hdg kk
theorem fr_zld (hx : p.tables.exec = Jvm.exec) (hb : c.code = cc) (hK : va_K D vwCl (fr_tys T) s) (hH : fr_H D T A σ H) {i v : Int32} (h : oV σ 1 a i = some v) (hdg : decode cc pc = .ok (.baload, 1))
    (kk : W p l e R s m args below meth c H locs cells slots Q (F0 m (pc + 1) ls (.int v :: rest))) : W p l e R s m args below meth c H locs cells slots Q (F0 m pc ls (.int i :: .ref a :: rest)) := by
  obtain ⟨n, hk, hin, hv⟩ := oV_inv h
  subst hv
  exact va_zald hx hb hK (fr_one hH (c_arr hk)) 0 1 rfl rfl hin hdg kk
theorem fr_qld (hx : p.tables.exec = Jvm.exec) (hb : c.code = cc) (hK : va_K D vwCl (fr_tys T) s) (hH : fr_H D T A σ H) {i : Int32} {t r : Nat} {C : String} (h : oQ σ t a i = some r) (h2 : ¬ t < 2) (ht : (fr_tys T)[t]? = some (T t, .object C)) (hdg : decode cc pc = .ok (.aaload, 1))
    (kk : W p l e R s m args below meth c H locs cells slots Q (F0 m (pc + 1) ls (.ref r :: rest))) : W p l e R s m args below meth c H locs cells slots Q (F0 m pc ls (.int i :: .ref a :: rest)) := by
  obtain ⟨n, hk, hin, hv⟩ := oQ_inv h
  have hc := c_arr (T := T) hk
  unfold fr_el at hc
  rw [if_neg h2] at hc
  refine va_aldq hx hb hK (fr_one hH hc) 0 t rfl ht hin hdg ?_
  rw [hv]
  exact kk
theorem fr_len (hx : p.tables.exec = Jvm.exec) (hb : c.code = cc) (hK : va_K D vwCl (fr_tys T) s) (hH : fr_H D T A σ H) {t : Nat} {v : Int32} {ty : FieldType} (h : oN σ t a = some v) (ht : (fr_tys T)[t]? = some (T t, ty)) (hdg : decode cc pc = .ok (.arraylength, 1))
    (kk : W p l e R s m args below meth c H locs cells slots Q (F0 m (pc + 1) ls (.int v :: rest))) : W p l e R s m args below meth c H locs cells slots Q (F0 m pc ls (.ref a :: rest)) := by
  obtain ⟨n, hk, hv⟩ := oN_inv h
  exact va_alen hx hb hK (fr_one hH (c_arr hk)) 0 t rfl ht hv hdg kk
theorem fr_ist (hx : p.tables.exec = Jvm.exec) (hb : c.code = cc) (hK : va_K D vwCl (fr_tys T) s) (hH : fr_H D T A σ H) (hS : va_S A H0 H locs) {i v : Int32} (h : sV σ 0 a i v = some σ1) (hdg : decode cc pc = .ok (.iastore, 1))
    (kk : ∀ (H1 : Heap) (locs1 : List Loc), fr_H D T A σ1 H1 → va_S A H0 H1 locs1 → W p l e R s m args below meth c H1 locs1 cells slots Q (F0 m (pc + 1) ls rest)) : W p l e R s m args below meth c H locs cells slots Q (F0 m pc ls (.int v :: .int i :: .ref a :: rest)) := by
  obtain ⟨n, hk, hin, hs0⟩ := sV_inv h
  subst hs0
  obtain ⟨ws, hP, hD, hw⟩ := fr_list hH
  obtain ⟨q0, hq0⟩ := hw a _ (c_arr hk)
  refine va_iast hx hb hK hP hD hS q0 0 hq0 rfl hin hdg (fun H1 locs1 hP1 _ hS1 => kk H1 locs1 (fr_back hH hw hq0 hP1 ?_ c_pA (fun _ => rfl)) hS1)
  rw [c_arr (σ := pA σ a _) (t := 0) (n := n) hk]
  unfold fr_el
  rw [if_pos (by decide), gV_pA]
theorem fr_zst (hx : p.tables.exec = Jvm.exec) (hb : c.code = cc) (hK : va_K D vwCl (fr_tys T) s) (hH : fr_H D T A σ H) (hS : va_S A H0 H locs) {i v : Int32} (h : sV σ 1 a i (vp_nar .boolean v) = some σ1) (hdg : decode cc pc = .ok (.bastore, 1))
    (kk : ∀ (H1 : Heap) (locs1 : List Loc), fr_H D T A σ1 H1 → va_S A H0 H1 locs1 → W p l e R s m args below meth c H1 locs1 cells slots Q (F0 m (pc + 1) ls rest)) : W p l e R s m args below meth c H locs cells slots Q (F0 m pc ls (.int v :: .int i :: .ref a :: rest)) := by
  obtain ⟨n, hk, hin, hs0⟩ := sV_inv h
  subst hs0
  obtain ⟨ws, hP, hD, hw⟩ := fr_list hH
  obtain ⟨q0, hq0⟩ := hw a _ (c_arr hk)
  refine va_zast hx hb hK hP hD hS q0 1 hq0 rfl hin hdg (fun H1 locs1 hP1 _ hS1 => kk H1 locs1 (fr_back hH hw hq0 hP1 ?_ c_pA (fun _ => rfl)) hS1)
  rw [c_arr (σ := pA σ a _) (t := 1) (n := n) hk]
  unfold fr_el
  rw [if_pos (by decide), gV_pA]
theorem fr_cpy (hx : p.tables.exec = Jvm.exec) (hb : c.code = cc) (hml : c.maxLocals = ls.size) {own : String} {index : Nat} (hown : s.vm.findClass own = some m.cls) (hlink : (Cond.methodLink own index arraycopyName).before args s = true) (hnat : (Cond.native arraycopyName).before args s = true) (hstat : (Cond.static arraycopyName).before args s = true) (hini : (Cond.initialized "java/lang/System").before args s = true)
    (hK : va_K D vwCl (fr_tys T) s) (hH : fr_H D T A σ H) (hS : va_S A H0 H locs) {a0 : Nat} {sp dp n : Int32} (h : sC σ a0 sp a dp n = some σ1) (hframes : 1 ≤ R.frames) (hlocals : (rest.map fun v => v.category).sum + (nativeFrameWords "java/lang/System" "arraycopy" 5 + 11) ≤ R.locals) (hdg : decode cc pc = .ok (.invokestatic index, 3))
    (kk : ∀ (H1 : Heap) (locs1 : List Loc), fr_H D T A σ1 H1 → va_S A H0 H1 locs1 → W p l e R s m args below meth c H1 locs1 cells slots Q (F0 m (pc + 3) ls rest)) : W p l e R s m args below meth c H locs cells slots Q (F0 m pc ls (.int n :: .int dp :: .ref a :: .int sp :: .ref a0 :: rest)) := by
  obtain ⟨n0, n1, hk0, hk1, ⟨g1, g2, g3⟩, g4, g5, hs0⟩ := sC_inv h
  subst hs0
  obtain ⟨ws, hP, hD, hw⟩ := fr_list hH
  obtain ⟨q0, hq0⟩ := hw a0 _ (c_arr hk0)
  obtain ⟨q1, hq1⟩ := hw a _ (c_arr hk1)
  refine va_copyi hx hb hml hown hlink hnat hstat hini hK hP hD hS q0 q1 0 0 hq0 hq1 rfl rfl rfl g1 g2 g3 g4 g5 (fun _ _ => rfl) hframes hlocals hdg (fun H1 locs1 hP1 _ hS1 => kk H1 locs1 (fr_back hH hw hq1 hP1 ?_ c_pA (fun _ => rfl)) hS1)
  rw [c_arr (σ := pA σ a _) (t := 0) (n := n1) hk1]
  unfold fr_el
  rw [if_pos (by decide), gV_pA]
end FRR
end
section
/-! CONTRACTS over such states -/
def fr_X (U : State) : Prop := (∀ C ∈ fr_arrs, va_AO C U) ∧ ∀ q ∈ fr_nests, va_Nw (.methodLinkNest q.1 q.2.1 q.2.2.1 q.2.2.2) U
theorem fr_X.warm {s U : State} (hW : s.WarmedH U.vm) (h : fr_X s) : fr_X U := ⟨fun C hC => va_AO.moved hW.alike (h.1 C hC), fun q hq => va_Nw.warmM hW (h.2 q hq)⟩
theorem fr_X.same {u U : State} (hvm : u.vm = U.vm) (h : fr_X u) : fr_X U := ⟨fun C hC => va_AO.moved (hvm ▸ Vm.Alike.refl u.vm) (h.1 C hC), fun q hq => va_Nw.same rfl hvm (h.2 q hq)⟩
def fr_B (D : va_G) (T : Nat → ClassId) (A : Nat → Prop) (σ : fr_S) (U : State) : Prop := fr_H D T A σ U.heap ∧ va_K D vwCl (fr_tys T) U ∧ fr_X U
def fr_Qi (D : va_G) (T : Nat → ClassId) (A : Nat → Prop) (r : Int32) (σ1 : fr_S) : Array Value → State → Outcome → State → Prop := va_Qi (fun (r2 : Int32) (u : fr_S) => r2 = r ∧ u = σ1) (fr_B D T A) A
def fr_Qv (D : va_G) (T : Nat → ClassId) (A : Nat → Prop) (σ1 : fr_S) : Array Value → State → Outcome → State → Prop := va_Qv (fun u : fr_S => u = σ1) (fr_B D T A) A
/-- what a walk knows of its method -/
def fr_At (p : Program) (s : State) (m : MethodId) (args : Array Value) (meth : Method) (c : Code) (own : String) (cc : ByteArray) (nL : Nat) (ret : Option FieldType) : Prop :=
  p.tables.exec = Jvm.exec ∧ c.code = cc ∧ meth.sig.returnType = ret ∧ c.maxLocals = nL ∧ s.vm.findClass own = some m.cls ∧ (∀ w ∈ fr_W, w.before args s = true) ∧ meth.locks = false
theorem fr_at {p : Program} {l : Launch} {y : MethodName} {rm : Room} {cc : ByteArray} {maxL : Nat} {ret : Option FieldType} {e : Env} {s : State} {m : MethodId} {args : Array Value} {below : List Frame} {meth : Method} {c : Code} {s₁ : State} (B : BodyLoose p l y (headSpec (Cond.code y cc maxL ret :: fr_W) rm) cc maxL ret e s m args below meth c s₁) (hml : c.maxLocals = maxL) : fr_At p s m args meth c y.cls cc maxL ret :=
  ⟨B.exec, B.bytes, B.returns, hml, findClass_of_methodNamed B.named, fun w hw => atoms_spec (ws := Cond.code y cc maxL ret :: fr_W) B.pre w (List.mem_cons_of_mem _ hw), B.notSynchronized⟩
theorem fr_blind {D : va_G} {T : Nat → ClassId} {A : Nat → Prop} {σ : fr_S} {av : List Value} : FrameBlind (va_Pc av (fr_B D T A σ)) := fun a U g mk q => ⟨q.1, q.2.1, va_K.moved (u := U) (U := U.calling g mk a) (Vm.Alike.refl U.vm) q.2.2.1, fr_X.same (u := U) (U := U.calling g mk a) rfl q.2.2.2⟩
theorem fr_preV {D : va_G} {T : Nat → ClassId} {A : Nat → Prop} {σ : fr_S} {s : State} {H : Heap} (hK : va_K D vwCl (fr_tys T) s) (hX : fr_X s) (hH : fr_H D T A σ H) {ci b N : Nat} {C : String} {Tt : u_T} {u : Unit} (hk : oK σ ci b = some u) (hc : vwCl[ci]? = some (C, Tt, N)) (As : List Value) : PreV s H C b (va_Pc (.ref b :: As) (fr_B D T A σ)) As :=
  ⟨fr_blind, va_recv hK (fr_one hH (c_obj (oK_inv hk))) hc (q0 := 0) rfl, fun U hU hW => ⟨rfl, by rw [hU]; exact hH, va_K.moved hW.alike hK, hX.warm hW⟩⟩
theorem fr_preS {D : va_G} {T : Nat → ClassId} {A : Nat → Prop} {σ : fr_S} {s : State} {H : Heap} (hK : va_K D vwCl (fr_tys T) s) (hX : fr_X s) (hH : fr_H D T A σ H) (As : List Value) : PreS s H (va_Pc As (fr_B D T A σ)) As :=
  ⟨fr_blind, fun U hU hW => ⟨rfl, by rw [hU]; exact hH, va_K.moved hW.alike hK, hX.warm hW⟩⟩
section FRC
variable {p : Program} {l : Launch} {e : Env} {R : Room} {s : State} {m : MethodId} {args : Array Value} {below : List Frame} {meth : Method} {c : Code} {H : Heap} {locs : List Loc} {cells slots : Nat} {Q : State → Prop}
variable {cc : ByteArray} {pc : Nat} {ls : Array Slot} {rest st0 : List Value} {D : va_G} {T : Nat → ClassId} {A : Nat → Prop} {a : Array Value} {σ σ1 : fr_S} {H0 : Heap} {r v : Int32}
theorem fr_calli (hr : va_Run p l e R s m args below meth c H locs cells slots 0 0 (F0 m pc ls st0) rest (fr_Qi D T A r σ1 a) A) (hS : va_S A H0 H locs)
    (kk : ∀ (H1 : Heap) (locs1 : List Loc), fr_H D T A σ1 H1 → va_S A H0 H1 locs1 → W p l e R s m args below meth c H1 locs1 cells slots Q (F0 m (pc + 3) ls (.int r :: rest))) : W p l e R s m args below meth c H locs cells slots Q (F0 m pc ls st0) := by
  refine va_calli hr hS (fun q _ h => h) (fun q h => h) (fun r2 u t H1 locs1 ht hvm hw hB hz1 hk1 hS1 => ?_)
  obtain ⟨h1, h2⟩ := hw
  subst h1
  subst h2
  have hH1 := hB.1
  rw [ht] at hH1
  exact kk H1 locs1 hH1 hS1
theorem fr_callv (hr : va_Run p l e R s m args below meth c H locs cells slots 0 0 (F0 m pc ls st0) rest (fr_Qv D T A σ1 a) A) (hS : va_S A H0 H locs)
    (kk : ∀ (H1 : Heap) (locs1 : List Loc), fr_H D T A σ1 H1 → va_S A H0 H1 locs1 → W p l e R s m args below meth c H1 locs1 cells slots Q (F0 m (pc + 3) ls rest)) : W p l e R s m args below meth c H locs cells slots Q (F0 m pc ls st0) := by
  refine va_callv hr hS (fun q _ h => h) (fun q h => h) (fun u t H1 locs1 ht hvm hw hB hz1 hk1 hS1 => ?_)
  subst hw
  have hH1 := hB.1
  rw [ht] at hH1
  exact kk H1 locs1 hH1 hS1
theorem fr_iretO (hx : p.tables.exec = Jvm.exec) (hb : c.code = cc) (hr : meth.sig.returnType = some .int) (hlocks : meth.locks = false) (h : some v = some r) (hH : fr_H D T A σ H) (hK : va_K D vwCl (fr_tys T) s) (hX : fr_X s) (hS : va_S A s.heap H locs) (hdg : decode cc pc = .ok (.ireturn, 1)) : W p l e R s m args below meth c H locs cells slots (MQ below (fr_Qi D T A r σ) args s cells slots A) (F0 m pc ls [.int v]) := by
  cases h
  exact W.iret hx hb hr (fun t ht hW => ⟨⟨r, σ, rfl, ⟨rfl, rfl⟩, by rw [ht]; exact hH, va_K.moved hW.alike hK, hX.warm hW⟩, hS.F ht⟩) hS.2.2 hdg (hlocks := hlocks)
theorem fr_iret (hx : p.tables.exec = Jvm.exec) (hb : c.code = cc) (hr : meth.sig.returnType = some .int) (hlocks : meth.locks = false) (h : some (v, σ) = some (r, σ1)) (hH : fr_H D T A σ H) (hK : va_K D vwCl (fr_tys T) s) (hX : fr_X s) (hS : va_S A s.heap H locs) (hdg : decode cc pc = .ok (.ireturn, 1)) : W p l e R s m args below meth c H locs cells slots (MQ below (fr_Qi D T A r σ1) args s cells slots A) (F0 m pc ls [.int v]) := by
  cases h
  exact fr_iretO hx hb hr hlocks rfl hH hK hX hS hdg
theorem fr_zretO (hx : p.tables.exec = Jvm.exec) (hb : c.code = cc) (hr : meth.sig.returnType = some .boolean) (hlocks : meth.locks = false) (hz : v = 0 ∨ v = 1) (h : some v = some r) (hH : fr_H D T A σ H) (hK : va_K D vwCl (fr_tys T) s) (hX : fr_X s) (hS : va_S A s.heap H locs) (hdg : decode cc pc = .ok (.ireturn, 1)) : W p l e R s m args below meth c H locs cells slots (MQ below (fr_Qi D T A r σ) args s cells slots A) (F0 m pc ls [.int v]) := by
  cases h
  exact W.zret (ty := .boolean) hx hb hr (by rcases hz with h1 | h1 <;> rw [h1] <;> rfl) (fun t ht hW => ⟨⟨r, σ, rfl, ⟨rfl, rfl⟩, by rw [ht]; exact hH, va_K.moved hW.alike hK, hX.warm hW⟩, hS.F ht⟩) hS.2.2 hdg (hlocks := hlocks)
theorem fr_zret (hx : p.tables.exec = Jvm.exec) (hb : c.code = cc) (hr : meth.sig.returnType = some .boolean) (hlocks : meth.locks = false) (hz : v = 0 ∨ v = 1) (h : some (v, σ) = some (r, σ1)) (hH : fr_H D T A σ H) (hK : va_K D vwCl (fr_tys T) s) (hX : fr_X s) (hS : va_S A s.heap H locs) (hdg : decode cc pc = .ok (.ireturn, 1)) : W p l e R s m args below meth c H locs cells slots (MQ below (fr_Qi D T A r σ1) args s cells slots A) (F0 m pc ls [.int v]) := by
  cases h
  exact fr_zretO hx hb hr hlocks hz rfl hH hK hX hS hdg
theorem fr_vret (hx : p.tables.exec = Jvm.exec) (hb : c.code = cc) (hr : meth.sig.returnType = none) (hlocks : meth.locks = false) (h : some σ = some σ1) (hH : fr_H D T A σ H) (hK : va_K D vwCl (fr_tys T) s) (hX : fr_X s) (hS : va_S A s.heap H locs) (hdg : decode cc pc = .ok (.return_, 1)) : W p l e R s m args below meth c H locs cells slots (MQ below (fr_Qv D T A σ1) args s cells slots A) (F0 m pc ls []) := by
  cases h
  exact W.vret hx hb hr (fun t ht hW => ⟨⟨σ, rfl, rfl, by rw [ht]; exact hH, va_K.moved hW.alike hK, hX.warm hW⟩, hS.F ht⟩) hS.2.2 hdg (hlocks := hlocks)
/-- a call of a method that makes no cell -/
theorem fr_V {nL n index maxL : Nat} {y : MethodName} {bytes : ByteArray} {ret : Option FieldType} {rm : Room} {Qc : Array Value → State → Outcome → State → Prop} {own C : String} {b : Nat} {As : List Value} (hfix : CallFix p m c cc nL s args fr_W own) (hM : Met l y (Cond.code y bytes maxL ret :: fr_W) rm (va_Pc (.ref b :: As) (fr_B D T A σ)) Qc 0 0 A) (h1 : Cond.methodLink own index y ∈ fr_W) (hy : fr_MV y C bytes maxL ret n) (hrc : rm.cells = 0) (hrs : rm.slots = 0) (hR : rm.frames + 1 ≤ R.frames ∧ 8 + (maxL + 11) + rm.locals ≤ R.locals) (hp : PreV s H C b (va_Pc (.ref b :: As) (fr_B D T A σ)) As)
    (hn : As.length = n) (hsize : ls.size = nL) (hst : st0 = As.reverse ++ .ref b :: rest) (hW : (rest.map fun v => v.category).sum ≤ 8) (hdg : decode cc pc = .ok (.invokevirtual index, 3)) (hf : cells + 0 ≤ R.cells ∧ slots + 0 ≤ R.slots) : va_Run p l e R s m args below meth c H locs cells slots 0 0 (F0 m pc ls st0) rest (Qc (Value.ref b :: As).toArray) A := by
  obtain ⟨k2, k3, k4, k5, kd⟩ := hy
  exact va_runV hfix hM (cwV n hfix.2.2.2.2 (fr_GV h1 k2 k3 k4 k5) rfl hrc hrs kd hR) hp rfl hn hsize hst (lv_room hW) hdg hf
theorem fr_Sc {nL n index maxL : Nat} {y : MethodName} {bytes : ByteArray} {ret : Option FieldType} {rm : Room} {Qc : Array Value → State → Outcome → State → Prop} {own : String} {As : List Value} (hfix : CallFix p m c cc nL s args fr_W own) (hM : Met l y (Cond.code y bytes maxL ret :: fr_W) rm (va_Pc As (fr_B D T A σ)) Qc 0 0 A) (h1 : Cond.methodLink own index y ∈ fr_W) (hy : fr_MS y bytes maxL ret n) (hrc : rm.cells = 0) (hrs : rm.slots = 0) (hR : rm.frames + 1 ≤ R.frames ∧ 8 + (maxL + 11) + rm.locals ≤ R.locals)
    (hp : PreS s H (va_Pc As (fr_B D T A σ)) As) (hn : As.length = n) (hsize : ls.size = nL) (hst : st0 = As.reverse ++ rest) (hW : (rest.map fun v => v.category).sum ≤ 8) (hdg : decode cc pc = .ok (.invokestatic index, 3)) (hf : cells + 0 ≤ R.cells ∧ slots + 0 ≤ R.slots) : va_Run p l e R s m args below meth c H locs cells slots 0 0 (F0 m pc ls st0) rest (Qc As.toArray) A := by
  obtain ⟨k2, k4, k5, kd⟩ := hy
  have hts := hfix.2.2.2.2
  exact va_runS hfix hM ⟨callB_of n hts (fr_G k5) rfl hrc hrs (hts _ k4) (hts _ h1) kd hR, hts _ k2⟩ hp rfl hn hsize hst (lv_room hW) hdg hf
end FRC
end
section
theorem d_FR_init_0 : decode b_FR_init 0 = .ok (.aload_n 0, 1) := by decide +kernel
theorem d_FR_init_1 : decode b_FR_init 1 = .ok (.invokespecial 3, 3) := by decide +kernel
theorem d_FR_init_4 : decode b_FR_init 4 = .ok (.aload_n 0, 1) := by decide +kernel
theorem d_FR_init_5 : decode b_FR_init 5 = .ok (.bipush 8, 2) := by decide +kernel
theorem d_FR_init_7 : decode b_FR_init 7 = .ok (.newarray .boolean, 2) := by decide +kernel
theorem d_FR_init_9 : decode b_FR_init 9 = .ok (.putfield 9, 3) := by decide +kernel
theorem d_FR_init_12 : decode b_FR_init 12 = .ok (.aload_n 0, 1) := by decide +kernel
theorem d_FR_init_13 : decode b_FR_init 13 = .ok (.bipush 8, 2) := by decide +kernel
theorem d_FR_init_15 : decode b_FR_init 15 = .ok (.newarray .int, 2) := by decide +kernel
theorem d_FR_init_17 : decode b_FR_init 17 = .ok (.putfield 13, 3) := by decide +kernel
theorem d_FR_init_20 : decode b_FR_init 20 = .ok (.aload_n 0, 1) := by decide +kernel
theorem d_FR_init_21 : decode b_FR_init 21 = .ok (.bipush 16, 2) := by decide +kernel
theorem d_FR_init_23 : decode b_FR_init 23 = .ok (.anewarray 17, 3) := by decide +kernel
theorem d_FR_init_26 : decode b_FR_init 26 = .ok (.putfield 19, 3) := by decide +kernel
theorem d_FR_init_29 : decode b_FR_init 29 = .ok (.aload_n 0, 1) := by decide +kernel
theorem d_FR_init_30 : decode b_FR_init 30 = .ok (.iconst 0, 1) := by decide +kernel
theorem d_FR_init_31 : decode b_FR_init 31 = .ok (.putfield 23, 3) := by decide +kernel
theorem d_FR_init_34 : decode b_FR_init 34 = .ok (.aload_n 0, 1) := by decide +kernel
theorem d_FR_init_35 : decode b_FR_init 35 = .ok (.bipush 10, 2) := by decide +kernel
theorem d_FR_init_37 : decode b_FR_init 37 = .ok (.anewarray 27, 3) := by decide +kernel
theorem d_FR_init_40 : decode b_FR_init 40 = .ok (.putfield 29, 3) := by decide +kernel
theorem d_FR_init_43 : decode b_FR_init 43 = .ok (.aload_n 0, 1) := by decide +kernel
theorem d_FR_init_44 : decode b_FR_init 44 = .ok (.iconst 0, 1) := by decide +kernel
theorem d_FR_init_45 : decode b_FR_init 45 = .ok (.putfield 33, 3) := by decide +kernel
theorem d_FR_init_48 : decode b_FR_init 48 = .ok (.aload_n 0, 1) := by decide +kernel
theorem d_FR_init_49 : decode b_FR_init 49 = .ok (.new 36, 3) := by decide +kernel
theorem d_FR_init_52 : decode b_FR_init 52 = .ok (.dup, 1) := by decide +kernel
theorem d_FR_init_53 : decode b_FR_init 53 = .ok (.invokespecial 38, 3) := by decide +kernel
theorem d_FR_init_56 : decode b_FR_init 56 = .ok (.putfield 39, 3) := by decide +kernel
theorem d_FR_init_59 : decode b_FR_init 59 = .ok (.aload_n 0, 1) := by decide +kernel
theorem d_FR_init_60 : decode b_FR_init 60 = .ok (.new 43, 3) := by decide +kernel
theorem d_FR_init_63 : decode b_FR_init 63 = .ok (.dup, 1) := by decide +kernel
theorem d_FR_init_64 : decode b_FR_init 64 = .ok (.invokespecial 45, 3) := by decide +kernel
theorem d_FR_init_67 : decode b_FR_init 67 = .ok (.putfield 46, 3) := by decide +kernel
theorem d_FR_init_70 : decode b_FR_init 70 = .ok (.aload_n 0, 1) := by decide +kernel
theorem d_FR_init_71 : decode b_FR_init 71 = .ok (.bipush 10, 2) := by decide +kernel
theorem d_FR_init_73 : decode b_FR_init 73 = .ok (.newarray .int, 2) := by decide +kernel
theorem d_FR_init_75 : decode b_FR_init 75 = .ok (.putfield 50, 3) := by decide +kernel
theorem d_FR_init_78 : decode b_FR_init 78 = .ok (.aload_n 0, 1) := by decide +kernel
theorem d_FR_init_79 : decode b_FR_init 79 = .ok (.iconst 0, 1) := by decide +kernel
theorem d_FR_init_80 : decode b_FR_init 80 = .ok (.putfield 53, 3) := by decide +kernel
theorem d_FR_init_83 : decode b_FR_init 83 = .ok (.aload_n 0, 1) := by decide +kernel
theorem d_FR_init_84 : decode b_FR_init 84 = .ok (.new 56, 3) := by decide +kernel
theorem d_FR_init_87 : decode b_FR_init 87 = .ok (.dup, 1) := by decide +kernel
theorem d_FR_init_88 : decode b_FR_init 88 = .ok (.invokespecial 58, 3) := by decide +kernel
theorem d_FR_init_91 : decode b_FR_init 91 = .ok (.putfield 59, 3) := by decide +kernel
theorem d_FR_init_94 : decode b_FR_init 94 = .ok (.aload_n 0, 1) := by decide +kernel
theorem d_FR_init_95 : decode b_FR_init 95 = .ok (.iconst 0, 1) := by decide +kernel
theorem d_FR_init_96 : decode b_FR_init 96 = .ok (.putfield 63, 3) := by decide +kernel
theorem d_FR_init_99 : decode b_FR_init 99 = .ok (.aload_n 0, 1) := by decide +kernel
theorem d_FR_init_100 : decode b_FR_init 100 = .ok (.iconst 0, 1) := by decide +kernel
theorem d_FR_init_101 : decode b_FR_init 101 = .ok (.putfield 67, 3) := by decide +kernel
theorem d_FR_init_104 : decode b_FR_init 104 = .ok (.aload_n 0, 1) := by decide +kernel
theorem d_FR_init_105 : decode b_FR_init 105 = .ok (.iconst 0, 1) := by decide +kernel
theorem d_FR_init_106 : decode b_FR_init 106 = .ok (.iconst 5, 1) := by decide +kernel
theorem d_FR_init_107 : decode b_FR_init 107 = .ok (.iload_n 1, 1) := by decide +kernel
theorem d_FR_init_108 : decode b_FR_init 108 = .ok (.invokestatic 70, 3) := by decide +kernel
theorem d_FR_init_111 : decode b_FR_init 111 = .ok (.invokestatic 76, 3) := by decide +kernel
theorem d_FR_init_114 : decode b_FR_init 114 = .ok (.putfield 79, 3) := by decide +kernel
theorem d_FR_init_117 : decode b_FR_init 117 = .ok (.iconst 0, 1) := by decide +kernel
theorem d_FR_init_118 : decode b_FR_init 118 = .ok (.istore_n 2, 1) := by decide +kernel
theorem d_FR_init_119 : decode b_FR_init 119 = .ok (.iload_n 2, 1) := by decide +kernel
theorem d_FR_init_120 : decode b_FR_init 120 = .ok (.bipush 16, 2) := by decide +kernel
theorem d_FR_init_122 : decode b_FR_init 122 = .ok (.if_icmp .ge 22, 3) := by decide +kernel
theorem d_FR_init_125 : decode b_FR_init 125 = .ok (.aload_n 0, 1) := by decide +kernel
theorem d_FR_init_126 : decode b_FR_init 126 = .ok (.getfield 19, 3) := by decide +kernel
theorem d_FR_init_129 : decode b_FR_init 129 = .ok (.iload_n 2, 1) := by decide +kernel
theorem d_FR_init_130 : decode b_FR_init 130 = .ok (.new 17, 3) := by decide +kernel
theorem d_FR_init_133 : decode b_FR_init 133 = .ok (.dup, 1) := by decide +kernel
theorem d_FR_init_134 : decode b_FR_init 134 = .ok (.invokespecial 82, 3) := by decide +kernel
theorem d_FR_init_137 : decode b_FR_init 137 = .ok (.aastore, 1) := by decide +kernel
theorem d_FR_init_138 : decode b_FR_init 138 = .ok (.iinc 2 1, 3) := by decide +kernel
theorem d_FR_init_141 : decode b_FR_init 141 = .ok (.goto (-22), 3) := by decide +kernel
theorem d_FR_init_144 : decode b_FR_init 144 = .ok (.iconst 0, 1) := by decide +kernel
theorem d_FR_init_145 : decode b_FR_init 145 = .ok (.istore_n 2, 1) := by decide +kernel
theorem d_FR_init_146 : decode b_FR_init 146 = .ok (.iload_n 2, 1) := by decide +kernel
theorem d_FR_init_147 : decode b_FR_init 147 = .ok (.bipush 10, 2) := by decide +kernel
theorem d_FR_init_149 : decode b_FR_init 149 = .ok (.if_icmp .ge 22, 3) := by decide +kernel
theorem d_FR_init_152 : decode b_FR_init 152 = .ok (.aload_n 0, 1) := by decide +kernel
theorem d_FR_init_153 : decode b_FR_init 153 = .ok (.getfield 29, 3) := by decide +kernel
theorem d_FR_init_156 : decode b_FR_init 156 = .ok (.iload_n 2, 1) := by decide +kernel
theorem d_FR_init_157 : decode b_FR_init 157 = .ok (.new 27, 3) := by decide +kernel
theorem d_FR_init_160 : decode b_FR_init 160 = .ok (.dup, 1) := by decide +kernel
theorem d_FR_init_161 : decode b_FR_init 161 = .ok (.invokespecial 83, 3) := by decide +kernel
theorem d_FR_init_164 : decode b_FR_init 164 = .ok (.aastore, 1) := by decide +kernel
theorem d_FR_init_165 : decode b_FR_init 165 = .ok (.iinc 2 1, 3) := by decide +kernel
theorem d_FR_init_168 : decode b_FR_init 168 = .ok (.goto (-22), 3) := by decide +kernel
theorem d_FR_init_171 : decode b_FR_init 171 = .ok (.return_, 1) := by decide +kernel
theorem d_FR_credential_0 : decode b_FR_credential 0 = .ok (.iload_n 1, 1) := by decide +kernel
theorem d_FR_credential_1 : decode b_FR_credential 1 = .ok (.invokestatic 84, 3) := by decide +kernel
theorem d_FR_credential_4 : decode b_FR_credential 4 = .ok (.ifCond .ne 5, 3) := by decide +kernel
theorem d_FR_credential_7 : decode b_FR_credential 7 = .ok (.iconst 0, 1) := by decide +kernel
theorem d_FR_credential_8 : decode b_FR_credential 8 = .ok (.ireturn, 1) := by decide +kernel
theorem d_FR_credential_9 : decode b_FR_credential 9 = .ok (.aload_n 0, 1) := by decide +kernel
theorem d_FR_credential_10 : decode b_FR_credential 10 = .ok (.getfield 9, 3) := by decide +kernel
theorem d_FR_credential_13 : decode b_FR_credential 13 = .ok (.iload_n 1, 1) := by decide +kernel
theorem d_FR_credential_14 : decode b_FR_credential 14 = .ok (.iload_n 2, 1) := by decide +kernel
theorem d_FR_credential_15 : decode b_FR_credential 15 = .ok (.bastore, 1) := by decide +kernel
theorem d_FR_credential_16 : decode b_FR_credential 16 = .ok (.iconst 1, 1) := by decide +kernel
theorem d_FR_credential_17 : decode b_FR_credential 17 = .ok (.ireturn, 1) := by decide +kernel
theorem d_FR_place_0 : decode b_FR_place 0 = .ok (.aload_n 0, 1) := by decide +kernel
theorem d_FR_place_1 : decode b_FR_place 1 = .ok (.getfield 23, 3) := by decide +kernel
theorem d_FR_place_4 : decode b_FR_place 4 = .ok (.bipush 16, 2) := by decide +kernel
theorem d_FR_place_6 : decode b_FR_place 6 = .ok (.if_icmp .ge 21, 3) := by decide +kernel
theorem d_FR_place_9 : decode b_FR_place 9 = .ok (.iload_n 1, 1) := by decide +kernel
theorem d_FR_place_10 : decode b_FR_place 10 = .ok (.invokestatic 84, 3) := by decide +kernel
theorem d_FR_place_13 : decode b_FR_place 13 = .ok (.ifCond .eq 14, 3) := by decide +kernel
theorem d_FR_place_16 : decode b_FR_place 16 = .ok (.iload_n 2, 1) := by decide +kernel
theorem d_FR_place_17 : decode b_FR_place 17 = .ok (.iconst 1, 1) := by decide +kernel
theorem d_FR_place_18 : decode b_FR_place 18 = .ok (.if_icmp .lt 9, 3) := by decide +kernel
theorem d_FR_place_21 : decode b_FR_place 21 = .ok (.iload_n 2, 1) := by decide +kernel
theorem d_FR_place_22 : decode b_FR_place 22 = .ok (.bipush 50, 2) := by decide +kernel
theorem d_FR_place_24 : decode b_FR_place 24 = .ok (.if_icmp .le 5, 3) := by decide +kernel
theorem d_FR_place_27 : decode b_FR_place 27 = .ok (.iconst (-1), 1) := by decide +kernel
theorem d_FR_place_28 : decode b_FR_place 28 = .ok (.ireturn, 1) := by decide +kernel
theorem d_FR_place_29 : decode b_FR_place 29 = .ok (.aload_n 0, 1) := by decide +kernel
theorem d_FR_place_30 : decode b_FR_place 30 = .ok (.getfield 19, 3) := by decide +kernel
theorem d_FR_place_33 : decode b_FR_place 33 = .ok (.aload_n 0, 1) := by decide +kernel
theorem d_FR_place_34 : decode b_FR_place 34 = .ok (.getfield 23, 3) := by decide +kernel
theorem d_FR_place_37 : decode b_FR_place 37 = .ok (.aaload, 1) := by decide +kernel
theorem d_FR_place_38 : decode b_FR_place 38 = .ok (.astore_n 3, 1) := by decide +kernel
theorem d_FR_place_39 : decode b_FR_place 39 = .ok (.aload_n 3, 1) := by decide +kernel
theorem d_FR_place_40 : decode b_FR_place 40 = .ok (.iload_n 1, 1) := by decide +kernel
theorem d_FR_place_41 : decode b_FR_place 41 = .ok (.putfield 88, 3) := by decide +kernel
theorem d_FR_place_44 : decode b_FR_place 44 = .ok (.aload_n 3, 1) := by decide +kernel
theorem d_FR_place_45 : decode b_FR_place 45 = .ok (.iload_n 2, 1) := by decide +kernel
theorem d_FR_place_46 : decode b_FR_place 46 = .ok (.putfield 91, 3) := by decide +kernel
theorem d_FR_place_49 : decode b_FR_place 49 = .ok (.aload_n 0, 1) := by decide +kernel
theorem d_FR_place_50 : decode b_FR_place 50 = .ok (.dup, 1) := by decide +kernel
theorem d_FR_place_51 : decode b_FR_place 51 = .ok (.getfield 23, 3) := by decide +kernel
theorem d_FR_place_54 : decode b_FR_place 54 = .ok (.dup_x1, 1) := by decide +kernel
theorem d_FR_place_55 : decode b_FR_place 55 = .ok (.iconst 1, 1) := by decide +kernel
theorem d_FR_place_56 : decode b_FR_place 56 = .ok (.iadd, 1) := by decide +kernel
theorem d_FR_place_57 : decode b_FR_place 57 = .ok (.putfield 23, 3) := by decide +kernel
theorem d_FR_place_60 : decode b_FR_place 60 = .ok (.ireturn, 1) := by decide +kernel
theorem d_FR_content_0 : decode b_FR_content 0 = .ok (.aload_n 0, 1) := by decide +kernel
theorem d_FR_content_1 : decode b_FR_content 1 = .ok (.iload_n 1, 1) := by decide +kernel
theorem d_FR_content_2 : decode b_FR_content 2 = .ok (.invokevirtual 94, 3) := by decide +kernel
theorem d_FR_content_5 : decode b_FR_content 5 = .ok (.ifCond .eq 16, 3) := by decide +kernel
theorem d_FR_content_8 : decode b_FR_content 8 = .ok (.iload 4, 2) := by decide +kernel
theorem d_FR_content_10 : decode b_FR_content 10 = .ok (.iconst 1, 1) := by decide +kernel
theorem d_FR_content_11 : decode b_FR_content 11 = .ok (.if_icmp .lt 10, 3) := by decide +kernel
theorem d_FR_content_14 : decode b_FR_content 14 = .ok (.iload 4, 2) := by decide +kernel
theorem d_FR_content_16 : decode b_FR_content 16 = .ok (.bipush 8, 2) := by decide +kernel
theorem d_FR_content_18 : decode b_FR_content 18 = .ok (.if_icmp .le 5, 3) := by decide +kernel
theorem d_FR_content_21 : decode b_FR_content 21 = .ok (.iconst 0, 1) := by decide +kernel
theorem d_FR_content_22 : decode b_FR_content 22 = .ok (.ireturn, 1) := by decide +kernel
theorem d_FR_content_23 : decode b_FR_content 23 = .ok (.aload_n 0, 1) := by decide +kernel
theorem d_FR_content_24 : decode b_FR_content 24 = .ok (.getfield 19, 3) := by decide +kernel
theorem d_FR_content_27 : decode b_FR_content 27 = .ok (.iload_n 1, 1) := by decide +kernel
theorem d_FR_content_28 : decode b_FR_content 28 = .ok (.aaload, 1) := by decide +kernel
theorem d_FR_content_29 : decode b_FR_content 29 = .ok (.getfield 97, 3) := by decide +kernel
theorem d_FR_content_32 : decode b_FR_content 32 = .ok (.astore 5, 2) := by decide +kernel
theorem d_FR_content_34 : decode b_FR_content 34 = .ok (.aload 5, 2) := by decide +kernel
theorem d_FR_content_36 : decode b_FR_content 36 = .ok (.getfield 101, 3) := by decide +kernel
theorem d_FR_content_39 : decode b_FR_content 39 = .ok (.iload 4, 2) := by decide +kernel
theorem d_FR_content_41 : decode b_FR_content 41 = .ok (.iadd, 1) := by decide +kernel
theorem d_FR_content_42 : decode b_FR_content 42 = .ok (.bipush 100, 2) := by decide +kernel
theorem d_FR_content_44 : decode b_FR_content 44 = .ok (.if_icmp .le 5, 3) := by decide +kernel
theorem d_FR_content_47 : decode b_FR_content 47 = .ok (.iconst 0, 1) := by decide +kernel
theorem d_FR_content_48 : decode b_FR_content 48 = .ok (.ireturn, 1) := by decide +kernel
theorem d_FR_content_49 : decode b_FR_content 49 = .ok (.iload 4, 2) := by decide +kernel
theorem d_FR_content_51 : decode b_FR_content 51 = .ok (.iconst 1, 1) := by decide +kernel
theorem d_FR_content_52 : decode b_FR_content 52 = .ok (.isub, 1) := by decide +kernel
theorem d_FR_content_53 : decode b_FR_content 53 = .ok (.istore 6, 2) := by decide +kernel
theorem d_FR_content_55 : decode b_FR_content 55 = .ok (.iload 6, 2) := by decide +kernel
theorem d_FR_content_57 : decode b_FR_content 57 = .ok (.ifCond .lt 26, 3) := by decide +kernel
theorem d_FR_content_60 : decode b_FR_content 60 = .ok (.aload 5, 2) := by decide +kernel
theorem d_FR_content_62 : decode b_FR_content 62 = .ok (.lload_n 2, 1) := by decide +kernel
theorem d_FR_content_63 : decode b_FR_content 63 = .ok (.bipush 8, 2) := by decide +kernel
theorem d_FR_content_65 : decode b_FR_content 65 = .ok (.iload 6, 2) := by decide +kernel
theorem d_FR_content_67 : decode b_FR_content 67 = .ok (.imul, 1) := by decide +kernel
theorem d_FR_content_68 : decode b_FR_content 68 = .ok (.lushr, 1) := by decide +kernel
theorem d_FR_content_69 : decode b_FR_content 69 = .ok (.l2i, 1) := by decide +kernel
theorem d_FR_content_70 : decode b_FR_content 70 = .ok (.sipush 255, 3) := by decide +kernel
theorem d_FR_content_73 : decode b_FR_content 73 = .ok (.iand, 1) := by decide +kernel
theorem d_FR_content_74 : decode b_FR_content 74 = .ok (.invokevirtual 106, 3) := by decide +kernel
theorem d_FR_content_77 : decode b_FR_content 77 = .ok (.iinc 6 (-1), 3) := by decide +kernel
theorem d_FR_content_80 : decode b_FR_content 80 = .ok (.goto (-25), 3) := by decide +kernel
theorem d_FR_content_83 : decode b_FR_content 83 = .ok (.iconst 1, 1) := by decide +kernel
theorem d_FR_content_84 : decode b_FR_content 84 = .ok (.ireturn, 1) := by decide +kernel
theorem d_FR_does_0 : decode b_FR_does 0 = .ok (.aload_n 0, 1) := by decide +kernel
theorem d_FR_does_1 : decode b_FR_does 1 = .ok (.iload_n 1, 1) := by decide +kernel
theorem d_FR_does_2 : decode b_FR_does 2 = .ok (.invokevirtual 94, 3) := by decide +kernel
theorem d_FR_does_5 : decode b_FR_does 5 = .ok (.ifCond .ne 5, 3) := by decide +kernel
theorem d_FR_does_8 : decode b_FR_does 8 = .ok (.iconst 0, 1) := by decide +kernel
theorem d_FR_does_9 : decode b_FR_does 9 = .ok (.ireturn, 1) := by decide +kernel
theorem d_FR_does_10 : decode b_FR_does 10 = .ok (.aload_n 0, 1) := by decide +kernel
theorem d_FR_does_11 : decode b_FR_does 11 = .ok (.getfield 19, 3) := by decide +kernel
theorem d_FR_does_14 : decode b_FR_does 14 = .ok (.iload_n 1, 1) := by decide +kernel
theorem d_FR_does_15 : decode b_FR_does 15 = .ok (.aaload, 1) := by decide +kernel
theorem d_FR_does_16 : decode b_FR_does 16 = .ok (.astore 4, 2) := by decide +kernel
theorem d_FR_does_18 : decode b_FR_does 18 = .ok (.iload_n 2, 1) := by decide +kernel
theorem d_FR_does_19 : decode b_FR_does 19 = .ok (.tableswitch 100 0 3 #[29, 45, 68, 84], 29) := by decide +kernel
theorem d_FR_does_48 : decode b_FR_does 48 = .ok (.aload 4, 2) := by decide +kernel
theorem d_FR_does_50 : decode b_FR_does 50 = .ok (.iload_n 3, 1) := by decide +kernel
theorem d_FR_does_51 : decode b_FR_does 51 = .ok (.ifCond .eq 7, 3) := by decide +kernel
theorem d_FR_does_54 : decode b_FR_does 54 = .ok (.iconst 1, 1) := by decide +kernel
theorem d_FR_does_55 : decode b_FR_does 55 = .ok (.goto 4, 3) := by decide +kernel
theorem d_FR_does_58 : decode b_FR_does 58 = .ok (.iconst 0, 1) := by decide +kernel
theorem d_FR_does_59 : decode b_FR_does 59 = .ok (.putfield 110, 3) := by decide +kernel
theorem d_FR_does_62 : decode b_FR_does 62 = .ok (.iconst 1, 1) := by decide +kernel
theorem d_FR_does_63 : decode b_FR_does 63 = .ok (.ireturn, 1) := by decide +kernel
theorem d_FR_does_64 : decode b_FR_does 64 = .ok (.iload_n 3, 1) := by decide +kernel
theorem d_FR_does_65 : decode b_FR_does 65 = .ok (.iconst (-1), 1) := by decide +kernel
theorem d_FR_does_66 : decode b_FR_does 66 = .ok (.if_icmp .eq 13, 3) := by decide +kernel
theorem d_FR_does_69 : decode b_FR_does 69 = .ok (.aload_n 0, 1) := by decide +kernel
theorem d_FR_does_70 : decode b_FR_does 70 = .ok (.iload_n 3, 1) := by decide +kernel
theorem d_FR_does_71 : decode b_FR_does 71 = .ok (.invokevirtual 94, 3) := by decide +kernel
theorem d_FR_does_74 : decode b_FR_does 74 = .ok (.ifCond .ne 5, 3) := by decide +kernel
theorem d_FR_does_77 : decode b_FR_does 77 = .ok (.iconst 0, 1) := by decide +kernel
theorem d_FR_does_78 : decode b_FR_does 78 = .ok (.ireturn, 1) := by decide +kernel
theorem d_FR_does_79 : decode b_FR_does 79 = .ok (.aload 4, 2) := by decide +kernel
theorem d_FR_does_81 : decode b_FR_does 81 = .ok (.iload_n 3, 1) := by decide +kernel
theorem d_FR_does_82 : decode b_FR_does 82 = .ok (.putfield 113, 3) := by decide +kernel
theorem d_FR_does_85 : decode b_FR_does 85 = .ok (.iconst 1, 1) := by decide +kernel
theorem d_FR_does_86 : decode b_FR_does 86 = .ok (.ireturn, 1) := by decide +kernel
theorem d_FR_does_87 : decode b_FR_does 87 = .ok (.aload 4, 2) := by decide +kernel
theorem d_FR_does_89 : decode b_FR_does 89 = .ok (.iload_n 3, 1) := by decide +kernel
theorem d_FR_does_90 : decode b_FR_does 90 = .ok (.ifCond .eq 7, 3) := by decide +kernel
theorem d_FR_does_93 : decode b_FR_does 93 = .ok (.iconst 1, 1) := by decide +kernel
theorem d_FR_does_94 : decode b_FR_does 94 = .ok (.goto 4, 3) := by decide +kernel
theorem d_FR_does_97 : decode b_FR_does 97 = .ok (.iconst 0, 1) := by decide +kernel
theorem d_FR_does_98 : decode b_FR_does 98 = .ok (.putfield 116, 3) := by decide +kernel
theorem d_FR_does_101 : decode b_FR_does 101 = .ok (.iconst 1, 1) := by decide +kernel
theorem d_FR_does_102 : decode b_FR_does 102 = .ok (.ireturn, 1) := by decide +kernel
theorem d_FR_does_103 : decode b_FR_does 103 = .ok (.aload 4, 2) := by decide +kernel
theorem d_FR_does_105 : decode b_FR_does 105 = .ok (.iload_n 3, 1) := by decide +kernel
theorem d_FR_does_106 : decode b_FR_does 106 = .ok (.ifCond .eq 7, 3) := by decide +kernel
theorem d_FR_does_109 : decode b_FR_does 109 = .ok (.iconst 1, 1) := by decide +kernel
theorem d_FR_does_110 : decode b_FR_does 110 = .ok (.goto 4, 3) := by decide +kernel
theorem d_FR_does_113 : decode b_FR_does 113 = .ok (.iconst 0, 1) := by decide +kernel
theorem d_FR_does_114 : decode b_FR_does 114 = .ok (.putfield 119, 3) := by decide +kernel
theorem d_FR_does_117 : decode b_FR_does 117 = .ok (.iconst 1, 1) := by decide +kernel
theorem d_FR_does_118 : decode b_FR_does 118 = .ok (.ireturn, 1) := by decide +kernel
theorem d_FR_does_119 : decode b_FR_does 119 = .ok (.iconst 0, 1) := by decide +kernel
theorem d_FR_does_120 : decode b_FR_does 120 = .ok (.ireturn, 1) := by decide +kernel
theorem d_FR_cut_0 : decode b_FR_cut 0 = .ok (.aload_n 0, 1) := by decide +kernel
theorem d_FR_cut_1 : decode b_FR_cut 1 = .ok (.iload_n 1, 1) := by decide +kernel
theorem d_FR_cut_2 : decode b_FR_cut 2 = .ok (.invokevirtual 94, 3) := by decide +kernel
theorem d_FR_cut_5 : decode b_FR_cut 5 = .ok (.ifCond .eq 23, 3) := by decide +kernel
theorem d_FR_cut_8 : decode b_FR_cut 8 = .ok (.iload_n 2, 1) := by decide +kernel
theorem d_FR_cut_9 : decode b_FR_cut 9 = .ok (.ifCond .lt 19, 3) := by decide +kernel
theorem d_FR_cut_12 : decode b_FR_cut 12 = .ok (.iload_n 2, 1) := by decide +kernel
theorem d_FR_cut_13 : decode b_FR_cut 13 = .ok (.bipush 9, 2) := by decide +kernel
theorem d_FR_cut_15 : decode b_FR_cut 15 = .ok (.if_icmp .gt 13, 3) := by decide +kernel
theorem d_FR_cut_18 : decode b_FR_cut 18 = .ok (.iload_n 3, 1) := by decide +kernel
theorem d_FR_cut_19 : decode b_FR_cut 19 = .ok (.ifCond .lt 9, 3) := by decide +kernel
theorem d_FR_cut_22 : decode b_FR_cut 22 = .ok (.iload_n 3, 1) := by decide +kernel
theorem d_FR_cut_23 : decode b_FR_cut 23 = .ok (.bipush 100, 2) := by decide +kernel
theorem d_FR_cut_25 : decode b_FR_cut 25 = .ok (.if_icmp .le 5, 3) := by decide +kernel
theorem d_FR_cut_28 : decode b_FR_cut 28 = .ok (.iconst 0, 1) := by decide +kernel
theorem d_FR_cut_29 : decode b_FR_cut 29 = .ok (.ireturn, 1) := by decide +kernel
theorem d_FR_cut_30 : decode b_FR_cut 30 = .ok (.aload_n 0, 1) := by decide +kernel
theorem d_FR_cut_31 : decode b_FR_cut 31 = .ok (.getfield 19, 3) := by decide +kernel
theorem d_FR_cut_34 : decode b_FR_cut 34 = .ok (.iload_n 1, 1) := by decide +kernel
theorem d_FR_cut_35 : decode b_FR_cut 35 = .ok (.aaload, 1) := by decide +kernel
theorem d_FR_cut_36 : decode b_FR_cut 36 = .ok (.iload_n 2, 1) := by decide +kernel
theorem d_FR_cut_37 : decode b_FR_cut 37 = .ok (.putfield 122, 3) := by decide +kernel
theorem d_FR_cut_40 : decode b_FR_cut 40 = .ok (.aload_n 0, 1) := by decide +kernel
theorem d_FR_cut_41 : decode b_FR_cut 41 = .ok (.getfield 19, 3) := by decide +kernel
theorem d_FR_cut_44 : decode b_FR_cut 44 = .ok (.iload_n 1, 1) := by decide +kernel
theorem d_FR_cut_45 : decode b_FR_cut 45 = .ok (.aaload, 1) := by decide +kernel
theorem d_FR_cut_46 : decode b_FR_cut 46 = .ok (.iload_n 3, 1) := by decide +kernel
theorem d_FR_cut_47 : decode b_FR_cut 47 = .ok (.putfield 125, 3) := by decide +kernel
theorem d_FR_cut_50 : decode b_FR_cut 50 = .ok (.iconst 1, 1) := by decide +kernel
theorem d_FR_cut_51 : decode b_FR_cut 51 = .ok (.ireturn, 1) := by decide +kernel
theorem d_FR_digest_0 : decode b_FR_digest 0 = .ok (.aload_n 0, 1) := by decide +kernel
theorem d_FR_digest_1 : decode b_FR_digest 1 = .ok (.iload_n 1, 1) := by decide +kernel
theorem d_FR_digest_2 : decode b_FR_digest 2 = .ok (.invokevirtual 94, 3) := by decide +kernel
theorem d_FR_digest_5 : decode b_FR_digest 5 = .ok (.ifCond .eq 18, 3) := by decide +kernel
theorem d_FR_digest_8 : decode b_FR_digest 8 = .ok (.aload_n 0, 1) := by decide +kernel
theorem d_FR_digest_9 : decode b_FR_digest 9 = .ok (.getfield 19, 3) := by decide +kernel
theorem d_FR_digest_12 : decode b_FR_digest 12 = .ok (.iload_n 1, 1) := by decide +kernel
theorem d_FR_digest_13 : decode b_FR_digest 13 = .ok (.aaload, 1) := by decide +kernel
theorem d_FR_digest_14 : decode b_FR_digest 14 = .ok (.getfield 97, 3) := by decide +kernel
theorem d_FR_digest_17 : decode b_FR_digest 17 = .ok (.invokevirtual 128, 3) := by decide +kernel
theorem d_FR_digest_20 : decode b_FR_digest 20 = .ok (.goto 4, 3) := by decide +kernel
theorem d_FR_digest_23 : decode b_FR_digest 23 = .ok (.iconst 0, 1) := by decide +kernel
theorem d_FR_digest_24 : decode b_FR_digest 24 = .ok (.ireturn, 1) := by decide +kernel
theorem d_FR_want_0 : decode b_FR_want 0 = .ok (.aload_n 0, 1) := by decide +kernel
theorem d_FR_want_1 : decode b_FR_want 1 = .ok (.getfield 33, 3) := by decide +kernel
theorem d_FR_want_4 : decode b_FR_want 4 = .ok (.bipush 10, 2) := by decide +kernel
theorem d_FR_want_6 : decode b_FR_want 6 = .ok (.if_icmp .lt 5, 3) := by decide +kernel
theorem d_FR_want_9 : decode b_FR_want 9 = .ok (.iconst (-1), 1) := by decide +kernel
theorem d_FR_want_10 : decode b_FR_want 10 = .ok (.ireturn, 1) := by decide +kernel
theorem d_FR_want_11 : decode b_FR_want 11 = .ok (.aload_n 0, 1) := by decide +kernel
theorem d_FR_want_12 : decode b_FR_want 12 = .ok (.getfield 29, 3) := by decide +kernel
theorem d_FR_want_15 : decode b_FR_want 15 = .ok (.aload_n 0, 1) := by decide +kernel
theorem d_FR_want_16 : decode b_FR_want 16 = .ok (.getfield 33, 3) := by decide +kernel
theorem d_FR_want_19 : decode b_FR_want 19 = .ok (.aaload, 1) := by decide +kernel
theorem d_FR_want_20 : decode b_FR_want 20 = .ok (.iload_n 1, 1) := by decide +kernel
theorem d_FR_want_21 : decode b_FR_want 21 = .ok (.putfield 132, 3) := by decide +kernel
theorem d_FR_want_24 : decode b_FR_want 24 = .ok (.aload_n 0, 1) := by decide +kernel
theorem d_FR_want_25 : decode b_FR_want 25 = .ok (.dup, 1) := by decide +kernel
theorem d_FR_want_26 : decode b_FR_want 26 = .ok (.getfield 33, 3) := by decide +kernel
theorem d_FR_want_29 : decode b_FR_want 29 = .ok (.dup_x1, 1) := by decide +kernel
theorem d_FR_want_30 : decode b_FR_want 30 = .ok (.iconst 1, 1) := by decide +kernel
theorem d_FR_want_31 : decode b_FR_want 31 = .ok (.iadd, 1) := by decide +kernel
theorem d_FR_want_32 : decode b_FR_want 32 = .ok (.putfield 33, 3) := by decide +kernel
theorem d_FR_want_35 : decode b_FR_want 35 = .ok (.ireturn, 1) := by decide +kernel
theorem d_FR_from_0 : decode b_FR_from 0 = .ok (.aload_n 0, 1) := by decide +kernel
theorem d_FR_from_1 : decode b_FR_from 1 = .ok (.iload_n 1, 1) := by decide +kernel
theorem d_FR_from_2 : decode b_FR_from 2 = .ok (.invokevirtual 135, 3) := by decide +kernel
theorem d_FR_from_5 : decode b_FR_from 5 = .ok (.ifCond .eq 23, 3) := by decide +kernel
theorem d_FR_from_8 : decode b_FR_from 8 = .ok (.aload_n 0, 1) := by decide +kernel
theorem d_FR_from_9 : decode b_FR_from 9 = .ok (.iload_n 2, 1) := by decide +kernel
theorem d_FR_from_10 : decode b_FR_from 10 = .ok (.invokevirtual 94, 3) := by decide +kernel
theorem d_FR_from_13 : decode b_FR_from 13 = .ok (.ifCond .eq 15, 3) := by decide +kernel
theorem d_FR_from_16 : decode b_FR_from 16 = .ok (.aload_n 0, 1) := by decide +kernel
theorem d_FR_from_17 : decode b_FR_from 17 = .ok (.getfield 29, 3) := by decide +kernel
theorem d_FR_from_20 : decode b_FR_from 20 = .ok (.iload_n 1, 1) := by decide +kernel
theorem d_FR_from_21 : decode b_FR_from 21 = .ok (.aaload, 1) := by decide +kernel
theorem d_FR_from_22 : decode b_FR_from 22 = .ok (.getfield 138, 3) := by decide +kernel
theorem d_FR_from_25 : decode b_FR_from 25 = .ok (.ifCond .eq 5, 3) := by decide +kernel
theorem d_FR_from_28 : decode b_FR_from 28 = .ok (.iconst 0, 1) := by decide +kernel
theorem d_FR_from_29 : decode b_FR_from 29 = .ok (.ireturn, 1) := by decide +kernel
theorem d_FR_from_30 : decode b_FR_from 30 = .ok (.aload_n 0, 1) := by decide +kernel
theorem d_FR_from_31 : decode b_FR_from 31 = .ok (.getfield 29, 3) := by decide +kernel
theorem d_FR_from_34 : decode b_FR_from 34 = .ok (.iload_n 1, 1) := by decide +kernel
theorem d_FR_from_35 : decode b_FR_from 35 = .ok (.aaload, 1) := by decide +kernel
theorem d_FR_from_36 : decode b_FR_from 36 = .ok (.iload_n 2, 1) := by decide +kernel
theorem d_FR_from_37 : decode b_FR_from 37 = .ok (.invokevirtual 141, 3) := by decide +kernel
theorem d_FR_from_40 : decode b_FR_from 40 = .ok (.ireturn, 1) := by decide +kernel
theorem d_FR_offLine_0 : decode b_FR_offLine 0 = .ok (.aload_n 0, 1) := by decide +kernel
theorem d_FR_offLine_1 : decode b_FR_offLine 1 = .ok (.iload_n 1, 1) := by decide +kernel
theorem d_FR_offLine_2 : decode b_FR_offLine 2 = .ok (.putfield 63, 3) := by decide +kernel
theorem d_FR_offLine_5 : decode b_FR_offLine 5 = .ok (.aload_n 0, 1) := by decide +kernel
theorem d_FR_offLine_6 : decode b_FR_offLine 6 = .ok (.iconst 0, 1) := by decide +kernel
theorem d_FR_offLine_7 : decode b_FR_offLine 7 = .ok (.putfield 53, 3) := by decide +kernel
theorem d_FR_offLine_10 : decode b_FR_offLine 10 = .ok (.return_, 1) := by decide +kernel
theorem d_FR_begin_0 : decode b_FR_begin 0 = .ok (.aload_n 0, 1) := by decide +kernel
theorem d_FR_begin_1 : decode b_FR_begin 1 = .ok (.iload_n 1, 1) := by decide +kernel
theorem d_FR_begin_2 : decode b_FR_begin 2 = .ok (.invokevirtual 135, 3) := by decide +kernel
theorem d_FR_begin_5 : decode b_FR_begin 5 = .ok (.ifCond .eq 15, 3) := by decide +kernel
theorem d_FR_begin_8 : decode b_FR_begin 8 = .ok (.aload_n 0, 1) := by decide +kernel
theorem d_FR_begin_9 : decode b_FR_begin 9 = .ok (.getfield 29, 3) := by decide +kernel
theorem d_FR_begin_12 : decode b_FR_begin 12 = .ok (.iload_n 1, 1) := by decide +kernel
theorem d_FR_begin_13 : decode b_FR_begin 13 = .ok (.aaload, 1) := by decide +kernel
theorem d_FR_begin_14 : decode b_FR_begin 14 = .ok (.invokevirtual 144, 3) := by decide +kernel
theorem d_FR_begin_17 : decode b_FR_begin 17 = .ok (.ifCond .eq 5, 3) := by decide +kernel
theorem d_FR_begin_20 : decode b_FR_begin 20 = .ok (.iconst (-1), 1) := by decide +kernel
theorem d_FR_begin_21 : decode b_FR_begin 21 = .ok (.ireturn, 1) := by decide +kernel
theorem d_FR_begin_22 : decode b_FR_begin 22 = .ok (.aload_n 0, 1) := by decide +kernel
theorem d_FR_begin_23 : decode b_FR_begin 23 = .ok (.getfield 29, 3) := by decide +kernel
theorem d_FR_begin_26 : decode b_FR_begin 26 = .ok (.iload_n 1, 1) := by decide +kernel
theorem d_FR_begin_27 : decode b_FR_begin 27 = .ok (.aaload, 1) := by decide +kernel
theorem d_FR_begin_28 : decode b_FR_begin 28 = .ok (.astore_n 2, 1) := by decide +kernel
theorem d_FR_begin_29 : decode b_FR_begin 29 = .ok (.aload_n 0, 1) := by decide +kernel
theorem d_FR_begin_30 : decode b_FR_begin 30 = .ok (.getfield 39, 3) := by decide +kernel
theorem d_FR_begin_33 : decode b_FR_begin 33 = .ok (.aload_n 2, 1) := by decide +kernel
theorem d_FR_begin_34 : decode b_FR_begin 34 = .ok (.getfield 132, 3) := by decide +kernel
theorem d_FR_begin_37 : decode b_FR_begin 37 = .ok (.invokevirtual 148, 3) := by decide +kernel
theorem d_FR_begin_40 : decode b_FR_begin 40 = .ok (.istore_n 3, 1) := by decide +kernel
theorem d_FR_begin_41 : decode b_FR_begin 41 = .ok (.iload_n 3, 1) := by decide +kernel
theorem d_FR_begin_42 : decode b_FR_begin 42 = .ok (.iconst (-1), 1) := by decide +kernel
theorem d_FR_begin_43 : decode b_FR_begin 43 = .ok (.if_icmp .eq 27, 3) := by decide +kernel
theorem d_FR_begin_46 : decode b_FR_begin 46 = .ok (.aload_n 2, 1) := by decide +kernel
theorem d_FR_begin_47 : decode b_FR_begin 47 = .ok (.getfield 152, 3) := by decide +kernel
theorem d_FR_begin_50 : decode b_FR_begin 50 = .ok (.aload_n 0, 1) := by decide +kernel
theorem d_FR_begin_51 : decode b_FR_begin 51 = .ok (.getfield 39, 3) := by decide +kernel
theorem d_FR_begin_54 : decode b_FR_begin 54 = .ok (.getfield 153, 3) := by decide +kernel
theorem d_FR_begin_57 : decode b_FR_begin 57 = .ok (.iload_n 3, 1) := by decide +kernel
theorem d_FR_begin_58 : decode b_FR_begin 58 = .ok (.aaload, 1) := by decide +kernel
theorem d_FR_begin_59 : decode b_FR_begin 59 = .ok (.invokevirtual 157, 3) := by decide +kernel
theorem d_FR_begin_62 : decode b_FR_begin 62 = .ok (.aload_n 2, 1) := by decide +kernel
theorem d_FR_begin_63 : decode b_FR_begin 63 = .ok (.iconst 3, 1) := by decide +kernel
theorem d_FR_begin_64 : decode b_FR_begin 64 = .ok (.putfield 138, 3) := by decide +kernel
theorem d_FR_begin_67 : decode b_FR_begin 67 = .ok (.goto 29, 3) := by decide +kernel
theorem d_FR_begin_70 : decode b_FR_begin 70 = .ok (.aload_n 0, 1) := by decide +kernel
theorem d_FR_begin_71 : decode b_FR_begin 71 = .ok (.getfield 63, 3) := by decide +kernel
theorem d_FR_begin_74 : decode b_FR_begin 74 = .ok (.ifCond .eq 16, 3) := by decide +kernel
theorem d_FR_begin_77 : decode b_FR_begin 77 = .ok (.aload_n 2, 1) := by decide +kernel
theorem d_FR_begin_78 : decode b_FR_begin 78 = .ok (.iconst 4, 1) := by decide +kernel
theorem d_FR_begin_79 : decode b_FR_begin 79 = .ok (.putfield 138, 3) := by decide +kernel
theorem d_FR_begin_82 : decode b_FR_begin 82 = .ok (.aload_n 0, 1) := by decide +kernel
theorem d_FR_begin_83 : decode b_FR_begin 83 = .ok (.iload_n 1, 1) := by decide +kernel
theorem d_FR_begin_84 : decode b_FR_begin 84 = .ok (.invokevirtual 161, 3) := by decide +kernel
theorem d_FR_begin_87 : decode b_FR_begin 87 = .ok (.goto 9, 3) := by decide +kernel
theorem d_FR_begin_90 : decode b_FR_begin 90 = .ok (.aload_n 0, 1) := by decide +kernel
theorem d_FR_begin_91 : decode b_FR_begin 91 = .ok (.aload_n 2, 1) := by decide +kernel
theorem d_FR_begin_92 : decode b_FR_begin 92 = .ok (.iconst 0, 1) := by decide +kernel
theorem d_FR_begin_93 : decode b_FR_begin 93 = .ok (.invokevirtual 164, 3) := by decide +kernel
theorem d_FR_begin_96 : decode b_FR_begin 96 = .ok (.aload_n 2, 1) := by decide +kernel
theorem d_FR_begin_97 : decode b_FR_begin 97 = .ok (.getfield 138, 3) := by decide +kernel
theorem d_FR_begin_100 : decode b_FR_begin 100 = .ok (.ireturn, 1) := by decide +kernel
theorem d_FR_tick_0 : decode b_FR_tick 0 = .ok (.iload_n 1, 1) := by decide +kernel
theorem d_FR_tick_1 : decode b_FR_tick 1 = .ok (.ifCond .lt 9, 3) := by decide +kernel
theorem d_FR_tick_4 : decode b_FR_tick 4 = .ok (.iload_n 1, 1) := by decide +kernel
theorem d_FR_tick_5 : decode b_FR_tick 5 = .ok (.bipush 50, 2) := by decide +kernel
theorem d_FR_tick_7 : decode b_FR_tick 7 = .ok (.if_icmp .le 5, 3) := by decide +kernel
theorem d_FR_tick_10 : decode b_FR_tick 10 = .ok (.iconst (-1), 1) := by decide +kernel
theorem d_FR_tick_11 : decode b_FR_tick 11 = .ok (.ireturn, 1) := by decide +kernel
theorem d_FR_tick_12 : decode b_FR_tick 12 = .ok (.iconst 0, 1) := by decide +kernel
theorem d_FR_tick_13 : decode b_FR_tick 13 = .ok (.istore_n 2, 1) := by decide +kernel
theorem d_FR_tick_14 : decode b_FR_tick 14 = .ok (.iload_n 2, 1) := by decide +kernel
theorem d_FR_tick_15 : decode b_FR_tick 15 = .ok (.iload_n 1, 1) := by decide +kernel
theorem d_FR_tick_16 : decode b_FR_tick 16 = .ok (.if_icmp .ge 13, 3) := by decide +kernel
theorem d_FR_tick_19 : decode b_FR_tick 19 = .ok (.aload_n 0, 1) := by decide +kernel
theorem d_FR_tick_20 : decode b_FR_tick 20 = .ok (.invokevirtual 168, 3) := by decide +kernel
theorem d_FR_tick_23 : decode b_FR_tick 23 = .ok (.iinc 2 1, 3) := by decide +kernel
theorem d_FR_tick_26 : decode b_FR_tick 26 = .ok (.goto (-12), 3) := by decide +kernel
theorem d_FR_tick_29 : decode b_FR_tick 29 = .ok (.aload_n 0, 1) := by decide +kernel
theorem d_FR_tick_30 : decode b_FR_tick 30 = .ok (.invokevirtual 171, 3) := by decide +kernel
theorem d_FR_tick_33 : decode b_FR_tick 33 = .ok (.ireturn, 1) := by decide +kernel
theorem d_FR_about_0 : decode b_FR_about 0 = .ok (.aload_n 0, 1) := by decide +kernel
theorem d_FR_about_1 : decode b_FR_about 1 = .ok (.iload_n 1, 1) := by decide +kernel
theorem d_FR_about_2 : decode b_FR_about 2 = .ok (.invokevirtual 135, 3) := by decide +kernel
theorem d_FR_about_5 : decode b_FR_about 5 = .ok (.ifCond .ne 5, 3) := by decide +kernel
theorem d_FR_about_8 : decode b_FR_about 8 = .ok (.iconst (-1), 1) := by decide +kernel
theorem d_FR_about_9 : decode b_FR_about 9 = .ok (.ireturn, 1) := by decide +kernel
theorem d_FR_about_10 : decode b_FR_about 10 = .ok (.aload_n 0, 1) := by decide +kernel
theorem d_FR_about_11 : decode b_FR_about 11 = .ok (.getfield 29, 3) := by decide +kernel
theorem d_FR_about_14 : decode b_FR_about 14 = .ok (.iload_n 1, 1) := by decide +kernel
theorem d_FR_about_15 : decode b_FR_about 15 = .ok (.aaload, 1) := by decide +kernel
theorem d_FR_about_16 : decode b_FR_about 16 = .ok (.astore_n 3, 1) := by decide +kernel
theorem d_FR_about_17 : decode b_FR_about 17 = .ok (.iload_n 2, 1) := by decide +kernel
theorem d_FR_about_18 : decode b_FR_about 18 = .ok (.tableswitch 85 0 4 #[34, 39, 55, 63, 80], 34) := by decide +kernel
theorem d_FR_about_52 : decode b_FR_about 52 = .ok (.aload_n 3, 1) := by decide +kernel
theorem d_FR_about_53 : decode b_FR_about 53 = .ok (.getfield 138, 3) := by decide +kernel
theorem d_FR_about_56 : decode b_FR_about 56 = .ok (.ireturn, 1) := by decide +kernel
theorem d_FR_about_57 : decode b_FR_about 57 = .ok (.aload_n 3, 1) := by decide +kernel
theorem d_FR_about_58 : decode b_FR_about 58 = .ok (.invokevirtual 144, 3) := by decide +kernel
theorem d_FR_about_61 : decode b_FR_about 61 = .ok (.ifCond .eq 10, 3) := by decide +kernel
theorem d_FR_about_64 : decode b_FR_about 64 = .ok (.aload_n 3, 1) := by decide +kernel
theorem d_FR_about_65 : decode b_FR_about 65 = .ok (.invokevirtual 174, 3) := by decide +kernel
theorem d_FR_about_68 : decode b_FR_about 68 = .ok (.goto 4, 3) := by decide +kernel
theorem d_FR_about_71 : decode b_FR_about 71 = .ok (.iconst (-1), 1) := by decide +kernel
theorem d_FR_about_72 : decode b_FR_about 72 = .ok (.ireturn, 1) := by decide +kernel
theorem d_FR_about_73 : decode b_FR_about 73 = .ok (.aload_n 3, 1) := by decide +kernel
theorem d_FR_about_74 : decode b_FR_about 74 = .ok (.getfield 152, 3) := by decide +kernel
theorem d_FR_about_77 : decode b_FR_about 77 = .ok (.getfield 101, 3) := by decide +kernel
theorem d_FR_about_80 : decode b_FR_about 80 = .ok (.ireturn, 1) := by decide +kernel
theorem d_FR_about_81 : decode b_FR_about 81 = .ok (.aload_n 3, 1) := by decide +kernel
theorem d_FR_about_82 : decode b_FR_about 82 = .ok (.getfield 138, 3) := by decide +kernel
theorem d_FR_about_85 : decode b_FR_about 85 = .ok (.iconst 2, 1) := by decide +kernel
theorem d_FR_about_86 : decode b_FR_about 86 = .ok (.if_icmp .ne 10, 3) := by decide +kernel
theorem d_FR_about_89 : decode b_FR_about 89 = .ok (.aload_n 3, 1) := by decide +kernel
theorem d_FR_about_90 : decode b_FR_about 90 = .ok (.getfield 177, 3) := by decide +kernel
theorem d_FR_about_93 : decode b_FR_about 93 = .ok (.goto 4, 3) := by decide +kernel
theorem d_FR_about_96 : decode b_FR_about 96 = .ok (.iconst (-1), 1) := by decide +kernel
theorem d_FR_about_97 : decode b_FR_about 97 = .ok (.ireturn, 1) := by decide +kernel
theorem d_FR_about_98 : decode b_FR_about 98 = .ok (.aload_n 3, 1) := by decide +kernel
theorem d_FR_about_99 : decode b_FR_about 99 = .ok (.getfield 180, 3) := by decide +kernel
theorem d_FR_about_102 : decode b_FR_about 102 = .ok (.ireturn, 1) := by decide +kernel
theorem d_FR_about_103 : decode b_FR_about 103 = .ok (.iconst (-1), 1) := by decide +kernel
theorem d_FR_about_104 : decode b_FR_about 104 = .ok (.ireturn, 1) := by decide +kernel
theorem d_FR_byteOf_0 : decode b_FR_byteOf 0 = .ok (.aload_n 0, 1) := by decide +kernel
theorem d_FR_byteOf_1 : decode b_FR_byteOf 1 = .ok (.iload_n 1, 1) := by decide +kernel
theorem d_FR_byteOf_2 : decode b_FR_byteOf 2 = .ok (.invokevirtual 135, 3) := by decide +kernel
theorem d_FR_byteOf_5 : decode b_FR_byteOf 5 = .ok (.ifCond .eq 19, 3) := by decide +kernel
theorem d_FR_byteOf_8 : decode b_FR_byteOf 8 = .ok (.aload_n 0, 1) := by decide +kernel
theorem d_FR_byteOf_9 : decode b_FR_byteOf 9 = .ok (.getfield 29, 3) := by decide +kernel
theorem d_FR_byteOf_12 : decode b_FR_byteOf 12 = .ok (.iload_n 1, 1) := by decide +kernel
theorem d_FR_byteOf_13 : decode b_FR_byteOf 13 = .ok (.aaload, 1) := by decide +kernel
theorem d_FR_byteOf_14 : decode b_FR_byteOf 14 = .ok (.getfield 152, 3) := by decide +kernel
theorem d_FR_byteOf_17 : decode b_FR_byteOf 17 = .ok (.iload_n 2, 1) := by decide +kernel
theorem d_FR_byteOf_18 : decode b_FR_byteOf 18 = .ok (.invokevirtual 183, 3) := by decide +kernel
theorem d_FR_byteOf_21 : decode b_FR_byteOf 21 = .ok (.goto 4, 3) := by decide +kernel
theorem d_FR_byteOf_24 : decode b_FR_byteOf 24 = .ok (.iconst (-1), 1) := by decide +kernel
theorem d_FR_byteOf_25 : decode b_FR_byteOf 25 = .ok (.ireturn, 1) := by decide +kernel
theorem d_FR_barred_0 : decode b_FR_barred 0 = .ok (.aload_n 0, 1) := by decide +kernel
theorem d_FR_barred_1 : decode b_FR_barred 1 = .ok (.getfield 46, 3) := by decide +kernel
theorem d_FR_barred_4 : decode b_FR_barred 4 = .ok (.iload_n 1, 1) := by decide +kernel
theorem d_FR_barred_5 : decode b_FR_barred 5 = .ok (.invokevirtual 186, 3) := by decide +kernel
theorem d_FR_barred_8 : decode b_FR_barred 8 = .ok (.ifCond .ne 5, 3) := by decide +kernel
theorem d_FR_barred_11 : decode b_FR_barred 11 = .ok (.iconst (-1), 1) := by decide +kernel
theorem d_FR_barred_12 : decode b_FR_barred 12 = .ok (.ireturn, 1) := by decide +kernel
theorem d_FR_barred_13 : decode b_FR_barred 13 = .ok (.iload_n 2, 1) := by decide +kernel
theorem d_FR_barred_14 : decode b_FR_barred 14 = .ok (.lookupswitch 46 #[(0, 26), (1, 36)], 26) := by decide +kernel
theorem d_FR_barred_40 : decode b_FR_barred 40 = .ok (.aload_n 0, 1) := by decide +kernel
theorem d_FR_barred_41 : decode b_FR_barred 41 = .ok (.getfield 46, 3) := by decide +kernel
theorem d_FR_barred_44 : decode b_FR_barred 44 = .ok (.getfield 189, 3) := by decide +kernel
theorem d_FR_barred_47 : decode b_FR_barred 47 = .ok (.iload_n 1, 1) := by decide +kernel
theorem d_FR_barred_48 : decode b_FR_barred 48 = .ok (.iaload, 1) := by decide +kernel
theorem d_FR_barred_49 : decode b_FR_barred 49 = .ok (.ireturn, 1) := by decide +kernel
theorem d_FR_barred_50 : decode b_FR_barred 50 = .ok (.aload_n 0, 1) := by decide +kernel
theorem d_FR_barred_51 : decode b_FR_barred 51 = .ok (.getfield 46, 3) := by decide +kernel
theorem d_FR_barred_54 : decode b_FR_barred 54 = .ok (.getfield 192, 3) := by decide +kernel
theorem d_FR_barred_57 : decode b_FR_barred 57 = .ok (.iload_n 1, 1) := by decide +kernel
theorem d_FR_barred_58 : decode b_FR_barred 58 = .ok (.iaload, 1) := by decide +kernel
theorem d_FR_barred_59 : decode b_FR_barred 59 = .ok (.ireturn, 1) := by decide +kernel
theorem d_FR_barred_60 : decode b_FR_barred 60 = .ok (.iconst (-1), 1) := by decide +kernel
theorem d_FR_barred_61 : decode b_FR_barred 61 = .ok (.ireturn, 1) := by decide +kernel
theorem d_FR_came_0 : decode b_FR_came 0 = .ok (.aload_n 0, 1) := by decide +kernel
theorem d_FR_came_1 : decode b_FR_came 1 = .ok (.getfield 46, 3) := by decide +kernel
theorem d_FR_came_4 : decode b_FR_came 4 = .ok (.iload_n 1, 1) := by decide +kernel
theorem d_FR_came_5 : decode b_FR_came 5 = .ok (.invokevirtual 186, 3) := by decide +kernel
theorem d_FR_came_8 : decode b_FR_came 8 = .ok (.ifCond .eq 15, 3) := by decide +kernel
theorem d_FR_came_11 : decode b_FR_came 11 = .ok (.aload_n 0, 1) := by decide +kernel
theorem d_FR_came_12 : decode b_FR_came 12 = .ok (.getfield 46, 3) := by decide +kernel
theorem d_FR_came_15 : decode b_FR_came 15 = .ok (.getfield 195, 3) := by decide +kernel
theorem d_FR_came_18 : decode b_FR_came 18 = .ok (.iload_n 1, 1) := by decide +kernel
theorem d_FR_came_19 : decode b_FR_came 19 = .ok (.iaload, 1) := by decide +kernel
theorem d_FR_came_20 : decode b_FR_came 20 = .ok (.goto 4, 3) := by decide +kernel
theorem d_FR_came_23 : decode b_FR_came 23 = .ok (.iconst 0, 1) := by decide +kernel
theorem d_FR_came_24 : decode b_FR_came 24 = .ok (.ireturn, 1) := by decide +kernel
theorem d_FR_lacks_0 : decode b_FR_lacks 0 = .ok (.iload_n 1, 1) := by decide +kernel
theorem d_FR_lacks_1 : decode b_FR_lacks 1 = .ok (.ifCond .lt 20, 3) := by decide +kernel
theorem d_FR_lacks_4 : decode b_FR_lacks 4 = .ok (.iload_n 1, 1) := by decide +kernel
end
section
theorem d_FR_lacks_5 : decode b_FR_lacks 5 = .ok (.aload_n 0, 1) := by decide +kernel
theorem d_FR_lacks_6 : decode b_FR_lacks 6 = .ok (.getfield 53, 3) := by decide +kernel
theorem d_FR_lacks_9 : decode b_FR_lacks 9 = .ok (.if_icmp .ge 12, 3) := by decide +kernel
theorem d_FR_lacks_12 : decode b_FR_lacks 12 = .ok (.aload_n 0, 1) := by decide +kernel
theorem d_FR_lacks_13 : decode b_FR_lacks 13 = .ok (.getfield 50, 3) := by decide +kernel
theorem d_FR_lacks_16 : decode b_FR_lacks 16 = .ok (.iload_n 1, 1) := by decide +kernel
theorem d_FR_lacks_17 : decode b_FR_lacks 17 = .ok (.iaload, 1) := by decide +kernel
theorem d_FR_lacks_18 : decode b_FR_lacks 18 = .ok (.goto 4, 3) := by decide +kernel
theorem d_FR_lacks_21 : decode b_FR_lacks 21 = .ok (.iconst (-1), 1) := by decide +kernel
theorem d_FR_lacks_22 : decode b_FR_lacks 22 = .ok (.ireturn, 1) := by decide +kernel
theorem d_FR_sent_0 : decode b_FR_sent 0 = .ok (.iload_n 1, 1) := by decide +kernel
theorem d_FR_sent_1 : decode b_FR_sent 1 = .ok (.invokestatic 84, 3) := by decide +kernel
theorem d_FR_sent_4 : decode b_FR_sent 4 = .ok (.ifCond .eq 12, 3) := by decide +kernel
theorem d_FR_sent_7 : decode b_FR_sent 7 = .ok (.aload_n 0, 1) := by decide +kernel
theorem d_FR_sent_8 : decode b_FR_sent 8 = .ok (.getfield 13, 3) := by decide +kernel
theorem d_FR_sent_11 : decode b_FR_sent 11 = .ok (.iload_n 1, 1) := by decide +kernel
theorem d_FR_sent_12 : decode b_FR_sent 12 = .ok (.iaload, 1) := by decide +kernel
theorem d_FR_sent_13 : decode b_FR_sent 13 = .ok (.goto 4, 3) := by decide +kernel
theorem d_FR_sent_16 : decode b_FR_sent 16 = .ok (.iconst 0, 1) := by decide +kernel
theorem d_FR_sent_17 : decode b_FR_sent 17 = .ok (.ireturn, 1) := by decide +kernel
theorem d_FR_unpack_0 : decode b_FR_unpack 0 = .ok (.aload_n 0, 1) := by decide +kernel
theorem d_FR_unpack_1 : decode b_FR_unpack 1 = .ok (.iload_n 1, 1) := by decide +kernel
theorem d_FR_unpack_2 : decode b_FR_unpack 2 = .ok (.invokevirtual 135, 3) := by decide +kernel
theorem d_FR_unpack_5 : decode b_FR_unpack 5 = .ok (.ifCond .eq 25, 3) := by decide +kernel
theorem d_FR_unpack_8 : decode b_FR_unpack 8 = .ok (.aload_n 0, 1) := by decide +kernel
theorem d_FR_unpack_9 : decode b_FR_unpack 9 = .ok (.getfield 29, 3) := by decide +kernel
theorem d_FR_unpack_12 : decode b_FR_unpack 12 = .ok (.iload_n 1, 1) := by decide +kernel
theorem d_FR_unpack_13 : decode b_FR_unpack 13 = .ok (.aaload, 1) := by decide +kernel
theorem d_FR_unpack_14 : decode b_FR_unpack 14 = .ok (.getfield 138, 3) := by decide +kernel
theorem d_FR_unpack_17 : decode b_FR_unpack 17 = .ok (.iconst 3, 1) := by decide +kernel
theorem d_FR_unpack_18 : decode b_FR_unpack 18 = .ok (.if_icmp .ne 12, 3) := by decide +kernel
theorem d_FR_unpack_21 : decode b_FR_unpack 21 = .ok (.iload_n 2, 1) := by decide +kernel
theorem d_FR_unpack_22 : decode b_FR_unpack 22 = .ok (.ifCond .lt 8, 3) := by decide +kernel
theorem d_FR_unpack_25 : decode b_FR_unpack 25 = .ok (.iload_n 2, 1) := by decide +kernel
theorem d_FR_unpack_26 : decode b_FR_unpack 26 = .ok (.iconst 5, 1) := by decide +kernel
theorem d_FR_unpack_27 : decode b_FR_unpack 27 = .ok (.if_icmp .le 7, 3) := by decide +kernel
theorem d_FR_unpack_30 : decode b_FR_unpack 30 = .ok (.sipush (-1000), 3) := by decide +kernel
theorem d_FR_unpack_33 : decode b_FR_unpack 33 = .ok (.ireturn, 1) := by decide +kernel
theorem d_FR_unpack_34 : decode b_FR_unpack 34 = .ok (.aload_n 0, 1) := by decide +kernel
theorem d_FR_unpack_35 : decode b_FR_unpack 35 = .ok (.getfield 29, 3) := by decide +kernel
theorem d_FR_unpack_38 : decode b_FR_unpack 38 = .ok (.iload_n 1, 1) := by decide +kernel
theorem d_FR_unpack_39 : decode b_FR_unpack 39 = .ok (.aaload, 1) := by decide +kernel
theorem d_FR_unpack_40 : decode b_FR_unpack 40 = .ok (.getfield 152, 3) := by decide +kernel
theorem d_FR_unpack_43 : decode b_FR_unpack 43 = .ok (.astore_n 3, 1) := by decide +kernel
theorem d_FR_unpack_44 : decode b_FR_unpack 44 = .ok (.aload_n 3, 1) := by decide +kernel
theorem d_FR_unpack_45 : decode b_FR_unpack 45 = .ok (.invokestatic 198, 3) := by decide +kernel
theorem d_FR_unpack_48 : decode b_FR_unpack 48 = .ok (.istore 4, 2) := by decide +kernel
theorem d_FR_unpack_50 : decode b_FR_unpack 50 = .ok (.iload 4, 2) := by decide +kernel
theorem d_FR_unpack_52 : decode b_FR_unpack 52 = .ok (.iconst (-1), 1) := by decide +kernel
theorem d_FR_unpack_53 : decode b_FR_unpack 53 = .ok (.if_icmp .eq 8, 3) := by decide +kernel
theorem d_FR_unpack_56 : decode b_FR_unpack 56 = .ok (.iconst (-1), 1) := by decide +kernel
theorem d_FR_unpack_57 : decode b_FR_unpack 57 = .ok (.iload 4, 2) := by decide +kernel
theorem d_FR_unpack_59 : decode b_FR_unpack 59 = .ok (.isub, 1) := by decide +kernel
theorem d_FR_unpack_60 : decode b_FR_unpack 60 = .ok (.ireturn, 1) := by decide +kernel
theorem d_FR_unpack_61 : decode b_FR_unpack 61 = .ok (.aload_n 0, 1) := by decide +kernel
theorem d_FR_unpack_62 : decode b_FR_unpack 62 = .ok (.getfield 59, 3) := by decide +kernel
theorem d_FR_unpack_65 : decode b_FR_unpack 65 = .ok (.aload_n 3, 1) := by decide +kernel
theorem d_FR_unpack_66 : decode b_FR_unpack 66 = .ok (.iload_n 2, 1) := by decide +kernel
theorem d_FR_unpack_67 : decode b_FR_unpack 67 = .ok (.invokevirtual 204, 3) := by decide +kernel
theorem d_FR_unpack_70 : decode b_FR_unpack 70 = .ok (.aload_n 0, 1) := by decide +kernel
theorem d_FR_unpack_71 : decode b_FR_unpack 71 = .ok (.getfield 59, 3) := by decide +kernel
theorem d_FR_unpack_74 : decode b_FR_unpack 74 = .ok (.getfield 208, 3) := by decide +kernel
theorem d_FR_unpack_77 : decode b_FR_unpack 77 = .ok (.ireturn, 1) := by decide +kernel
theorem d_FR_file_0 : decode b_FR_file 0 = .ok (.aload_n 0, 1) := by decide +kernel
theorem d_FR_file_1 : decode b_FR_file 1 = .ok (.getfield 59, 3) := by decide +kernel
theorem d_FR_file_4 : decode b_FR_file 4 = .ok (.iload_n 1, 1) := by decide +kernel
theorem d_FR_file_5 : decode b_FR_file 5 = .ok (.invokevirtual 211, 3) := by decide +kernel
theorem d_FR_file_8 : decode b_FR_file 8 = .ok (.ifCond .ne 5, 3) := by decide +kernel
theorem d_FR_file_11 : decode b_FR_file 11 = .ok (.iconst (-1), 1) := by decide +kernel
theorem d_FR_file_12 : decode b_FR_file 12 = .ok (.ireturn, 1) := by decide +kernel
theorem d_FR_file_13 : decode b_FR_file 13 = .ok (.iload_n 2, 1) := by decide +kernel
theorem d_FR_file_14 : decode b_FR_file 14 = .ok (.tableswitch 70 0 3 #[30, 40, 50, 60], 30) := by decide +kernel
theorem d_FR_file_44 : decode b_FR_file 44 = .ok (.aload_n 0, 1) := by decide +kernel
theorem d_FR_file_45 : decode b_FR_file 45 = .ok (.getfield 59, 3) := by decide +kernel
theorem d_FR_file_48 : decode b_FR_file 48 = .ok (.getfield 212, 3) := by decide +kernel
theorem d_FR_file_51 : decode b_FR_file 51 = .ok (.iload_n 1, 1) := by decide +kernel
theorem d_FR_file_52 : decode b_FR_file 52 = .ok (.iaload, 1) := by decide +kernel
theorem d_FR_file_53 : decode b_FR_file 53 = .ok (.ireturn, 1) := by decide +kernel
theorem d_FR_file_54 : decode b_FR_file 54 = .ok (.aload_n 0, 1) := by decide +kernel
theorem d_FR_file_55 : decode b_FR_file 55 = .ok (.getfield 59, 3) := by decide +kernel
theorem d_FR_file_58 : decode b_FR_file 58 = .ok (.getfield 215, 3) := by decide +kernel
theorem d_FR_file_61 : decode b_FR_file 61 = .ok (.iload_n 1, 1) := by decide +kernel
theorem d_FR_file_62 : decode b_FR_file 62 = .ok (.iaload, 1) := by decide +kernel
theorem d_FR_file_63 : decode b_FR_file 63 = .ok (.ireturn, 1) := by decide +kernel
theorem d_FR_file_64 : decode b_FR_file 64 = .ok (.aload_n 0, 1) := by decide +kernel
theorem d_FR_file_65 : decode b_FR_file 65 = .ok (.getfield 59, 3) := by decide +kernel
theorem d_FR_file_68 : decode b_FR_file 68 = .ok (.getfield 218, 3) := by decide +kernel
theorem d_FR_file_71 : decode b_FR_file 71 = .ok (.iload_n 1, 1) := by decide +kernel
theorem d_FR_file_72 : decode b_FR_file 72 = .ok (.iaload, 1) := by decide +kernel
theorem d_FR_file_73 : decode b_FR_file 73 = .ok (.ireturn, 1) := by decide +kernel
theorem d_FR_file_74 : decode b_FR_file 74 = .ok (.aload_n 0, 1) := by decide +kernel
theorem d_FR_file_75 : decode b_FR_file 75 = .ok (.getfield 59, 3) := by decide +kernel
theorem d_FR_file_78 : decode b_FR_file 78 = .ok (.getfield 221, 3) := by decide +kernel
theorem d_FR_file_81 : decode b_FR_file 81 = .ok (.iload_n 1, 1) := by decide +kernel
theorem d_FR_file_82 : decode b_FR_file 82 = .ok (.iaload, 1) := by decide +kernel
theorem d_FR_file_83 : decode b_FR_file 83 = .ok (.ireturn, 1) := by decide +kernel
theorem d_FR_file_84 : decode b_FR_file 84 = .ok (.iconst (-1), 1) := by decide +kernel
theorem d_FR_file_85 : decode b_FR_file 85 = .ok (.ireturn, 1) := by decide +kernel
theorem d_FR_isHost_0 : decode b_FR_isHost 0 = .ok (.iload_n 0, 1) := by decide +kernel
theorem d_FR_isHost_1 : decode b_FR_isHost 1 = .ok (.ifCond .lt 13, 3) := by decide +kernel
theorem d_FR_isHost_4 : decode b_FR_isHost 4 = .ok (.iload_n 0, 1) := by decide +kernel
theorem d_FR_isHost_5 : decode b_FR_isHost 5 = .ok (.bipush 8, 2) := by decide +kernel
theorem d_FR_isHost_7 : decode b_FR_isHost 7 = .ok (.if_icmp .ge 7, 3) := by decide +kernel
theorem d_FR_isHost_10 : decode b_FR_isHost 10 = .ok (.iconst 1, 1) := by decide +kernel
theorem d_FR_isHost_11 : decode b_FR_isHost 11 = .ok (.goto 4, 3) := by decide +kernel
theorem d_FR_isHost_14 : decode b_FR_isHost 14 = .ok (.iconst 0, 1) := by decide +kernel
theorem d_FR_isHost_15 : decode b_FR_isHost 15 = .ok (.ireturn, 1) := by decide +kernel
theorem d_FR_isPlace_0 : decode b_FR_isPlace 0 = .ok (.iload_n 1, 1) := by decide +kernel
theorem d_FR_isPlace_1 : decode b_FR_isPlace 1 = .ok (.ifCond .lt 15, 3) := by decide +kernel
theorem d_FR_isPlace_4 : decode b_FR_isPlace 4 = .ok (.iload_n 1, 1) := by decide +kernel
theorem d_FR_isPlace_5 : decode b_FR_isPlace 5 = .ok (.aload_n 0, 1) := by decide +kernel
theorem d_FR_isPlace_6 : decode b_FR_isPlace 6 = .ok (.getfield 23, 3) := by decide +kernel
theorem d_FR_isPlace_9 : decode b_FR_isPlace 9 = .ok (.if_icmp .ge 7, 3) := by decide +kernel
theorem d_FR_isPlace_12 : decode b_FR_isPlace 12 = .ok (.iconst 1, 1) := by decide +kernel
theorem d_FR_isPlace_13 : decode b_FR_isPlace 13 = .ok (.goto 4, 3) := by decide +kernel
theorem d_FR_isPlace_16 : decode b_FR_isPlace 16 = .ok (.iconst 0, 1) := by decide +kernel
theorem d_FR_isPlace_17 : decode b_FR_isPlace 17 = .ok (.ireturn, 1) := by decide +kernel
theorem d_FR_isWant_0 : decode b_FR_isWant 0 = .ok (.iload_n 1, 1) := by decide +kernel
theorem d_FR_isWant_1 : decode b_FR_isWant 1 = .ok (.ifCond .lt 15, 3) := by decide +kernel
theorem d_FR_isWant_4 : decode b_FR_isWant 4 = .ok (.iload_n 1, 1) := by decide +kernel
theorem d_FR_isWant_5 : decode b_FR_isWant 5 = .ok (.aload_n 0, 1) := by decide +kernel
theorem d_FR_isWant_6 : decode b_FR_isWant 6 = .ok (.getfield 33, 3) := by decide +kernel
theorem d_FR_isWant_9 : decode b_FR_isWant 9 = .ok (.if_icmp .ge 7, 3) := by decide +kernel
theorem d_FR_isWant_12 : decode b_FR_isWant 12 = .ok (.iconst 1, 1) := by decide +kernel
theorem d_FR_isWant_13 : decode b_FR_isWant 13 = .ok (.goto 4, 3) := by decide +kernel
theorem d_FR_isWant_16 : decode b_FR_isWant 16 = .ok (.iconst 0, 1) := by decide +kernel
theorem d_FR_isWant_17 : decode b_FR_isWant 17 = .ok (.ireturn, 1) := by decide +kernel
theorem d_FR_noteLacking_0 : decode b_FR_noteLacking 0 = .ok (.iconst 0, 1) := by decide +kernel
theorem d_FR_noteLacking_1 : decode b_FR_noteLacking 1 = .ok (.istore_n 2, 1) := by decide +kernel
theorem d_FR_noteLacking_2 : decode b_FR_noteLacking 2 = .ok (.iload_n 2, 1) := by decide +kernel
theorem d_FR_noteLacking_3 : decode b_FR_noteLacking 3 = .ok (.aload_n 0, 1) := by decide +kernel
theorem d_FR_noteLacking_4 : decode b_FR_noteLacking 4 = .ok (.getfield 53, 3) := by decide +kernel
theorem d_FR_noteLacking_7 : decode b_FR_noteLacking 7 = .ok (.if_icmp .ge 20, 3) := by decide +kernel
theorem d_FR_noteLacking_10 : decode b_FR_noteLacking 10 = .ok (.aload_n 0, 1) := by decide +kernel
theorem d_FR_noteLacking_11 : decode b_FR_noteLacking 11 = .ok (.getfield 50, 3) := by decide +kernel
theorem d_FR_noteLacking_14 : decode b_FR_noteLacking 14 = .ok (.iload_n 2, 1) := by decide +kernel
theorem d_FR_noteLacking_15 : decode b_FR_noteLacking 15 = .ok (.iaload, 1) := by decide +kernel
theorem d_FR_noteLacking_16 : decode b_FR_noteLacking 16 = .ok (.iload_n 1, 1) := by decide +kernel
theorem d_FR_noteLacking_17 : decode b_FR_noteLacking 17 = .ok (.if_icmp .ne 4, 3) := by decide +kernel
theorem d_FR_noteLacking_20 : decode b_FR_noteLacking 20 = .ok (.return_, 1) := by decide +kernel
theorem d_FR_noteLacking_21 : decode b_FR_noteLacking 21 = .ok (.iinc 2 1, 3) := by decide +kernel
theorem d_FR_noteLacking_24 : decode b_FR_noteLacking 24 = .ok (.goto (-22), 3) := by decide +kernel
theorem d_FR_noteLacking_27 : decode b_FR_noteLacking 27 = .ok (.aload_n 0, 1) := by decide +kernel
theorem d_FR_noteLacking_28 : decode b_FR_noteLacking 28 = .ok (.getfield 53, 3) := by decide +kernel
theorem d_FR_noteLacking_31 : decode b_FR_noteLacking 31 = .ok (.bipush 10, 2) := by decide +kernel
theorem d_FR_noteLacking_33 : decode b_FR_noteLacking 33 = .ok (.if_icmp .ge 20, 3) := by decide +kernel
theorem d_FR_noteLacking_36 : decode b_FR_noteLacking 36 = .ok (.aload_n 0, 1) := by decide +kernel
theorem d_FR_noteLacking_37 : decode b_FR_noteLacking 37 = .ok (.getfield 50, 3) := by decide +kernel
theorem d_FR_noteLacking_40 : decode b_FR_noteLacking 40 = .ok (.aload_n 0, 1) := by decide +kernel
theorem d_FR_noteLacking_41 : decode b_FR_noteLacking 41 = .ok (.dup, 1) := by decide +kernel
theorem d_FR_noteLacking_42 : decode b_FR_noteLacking 42 = .ok (.getfield 53, 3) := by decide +kernel
theorem d_FR_noteLacking_45 : decode b_FR_noteLacking 45 = .ok (.dup_x1, 1) := by decide +kernel
theorem d_FR_noteLacking_46 : decode b_FR_noteLacking 46 = .ok (.iconst 1, 1) := by decide +kernel
theorem d_FR_noteLacking_47 : decode b_FR_noteLacking 47 = .ok (.iadd, 1) := by decide +kernel
theorem d_FR_noteLacking_48 : decode b_FR_noteLacking 48 = .ok (.putfield 53, 3) := by decide +kernel
theorem d_FR_noteLacking_51 : decode b_FR_noteLacking 51 = .ok (.iload_n 1, 1) := by decide +kernel
theorem d_FR_noteLacking_52 : decode b_FR_noteLacking 52 = .ok (.iastore, 1) := by decide +kernel
theorem d_FR_noteLacking_53 : decode b_FR_noteLacking 53 = .ok (.return_, 1) := by decide +kernel
theorem d_FR_countBusy_0 : decode b_FR_countBusy 0 = .ok (.iconst 0, 1) := by decide +kernel
theorem d_FR_countBusy_1 : decode b_FR_countBusy 1 = .ok (.istore_n 1, 1) := by decide +kernel
theorem d_FR_countBusy_2 : decode b_FR_countBusy 2 = .ok (.iconst 0, 1) := by decide +kernel
theorem d_FR_countBusy_3 : decode b_FR_countBusy 3 = .ok (.istore_n 2, 1) := by decide +kernel
theorem d_FR_countBusy_4 : decode b_FR_countBusy 4 = .ok (.iload_n 2, 1) := by decide +kernel
theorem d_FR_countBusy_5 : decode b_FR_countBusy 5 = .ok (.aload_n 0, 1) := by decide +kernel
theorem d_FR_countBusy_6 : decode b_FR_countBusy 6 = .ok (.getfield 33, 3) := by decide +kernel
theorem d_FR_countBusy_9 : decode b_FR_countBusy 9 = .ok (.if_icmp .ge 24, 3) := by decide +kernel
theorem d_FR_countBusy_12 : decode b_FR_countBusy 12 = .ok (.aload_n 0, 1) := by decide +kernel
theorem d_FR_countBusy_13 : decode b_FR_countBusy 13 = .ok (.getfield 29, 3) := by decide +kernel
theorem d_FR_countBusy_16 : decode b_FR_countBusy 16 = .ok (.iload_n 2, 1) := by decide +kernel
theorem d_FR_countBusy_17 : decode b_FR_countBusy 17 = .ok (.aaload, 1) := by decide +kernel
theorem d_FR_countBusy_18 : decode b_FR_countBusy 18 = .ok (.invokevirtual 144, 3) := by decide +kernel
theorem d_FR_countBusy_21 : decode b_FR_countBusy 21 = .ok (.ifCond .eq 6, 3) := by decide +kernel
theorem d_FR_countBusy_24 : decode b_FR_countBusy 24 = .ok (.iinc 1 1, 3) := by decide +kernel
theorem d_FR_countBusy_27 : decode b_FR_countBusy 27 = .ok (.iinc 2 1, 3) := by decide +kernel
theorem d_FR_countBusy_30 : decode b_FR_countBusy 30 = .ok (.goto (-26), 3) := by decide +kernel
theorem d_FR_countBusy_33 : decode b_FR_countBusy 33 = .ok (.iload_n 1, 1) := by decide +kernel
theorem d_FR_countBusy_34 : decode b_FR_countBusy 34 = .ok (.ireturn, 1) := by decide +kernel
theorem d_FR_moveClock_0 : decode b_FR_moveClock 0 = .ok (.aload_n 0, 1) := by decide +kernel
theorem d_FR_moveClock_1 : decode b_FR_moveClock 1 = .ok (.dup, 1) := by decide +kernel
theorem d_FR_moveClock_2 : decode b_FR_moveClock 2 = .ok (.getfield 67, 3) := by decide +kernel
theorem d_FR_moveClock_5 : decode b_FR_moveClock 5 = .ok (.iconst 1, 1) := by decide +kernel
theorem d_FR_moveClock_6 : decode b_FR_moveClock 6 = .ok (.iadd, 1) := by decide +kernel
theorem d_FR_moveClock_7 : decode b_FR_moveClock 7 = .ok (.putfield 67, 3) := by decide +kernel
theorem d_FR_moveClock_10 : decode b_FR_moveClock 10 = .ok (.iconst 0, 1) := by decide +kernel
theorem d_FR_moveClock_11 : decode b_FR_moveClock 11 = .ok (.istore_n 1, 1) := by decide +kernel
theorem d_FR_moveClock_12 : decode b_FR_moveClock 12 = .ok (.iload_n 1, 1) := by decide +kernel
theorem d_FR_moveClock_13 : decode b_FR_moveClock 13 = .ok (.aload_n 0, 1) := by decide +kernel
theorem d_FR_moveClock_14 : decode b_FR_moveClock 14 = .ok (.getfield 33, 3) := by decide +kernel
theorem d_FR_moveClock_17 : decode b_FR_moveClock 17 = .ok (.if_icmp .ge 53, 3) := by decide +kernel
theorem d_FR_moveClock_20 : decode b_FR_moveClock 20 = .ok (.aload_n 0, 1) := by decide +kernel
theorem d_FR_moveClock_21 : decode b_FR_moveClock 21 = .ok (.getfield 29, 3) := by decide +kernel
theorem d_FR_moveClock_24 : decode b_FR_moveClock 24 = .ok (.iload_n 1, 1) := by decide +kernel
theorem d_FR_moveClock_25 : decode b_FR_moveClock 25 = .ok (.aaload, 1) := by decide +kernel
theorem d_FR_moveClock_26 : decode b_FR_moveClock 26 = .ok (.astore_n 2, 1) := by decide +kernel
theorem d_FR_moveClock_27 : decode b_FR_moveClock 27 = .ok (.aload_n 2, 1) := by decide +kernel
theorem d_FR_moveClock_28 : decode b_FR_moveClock 28 = .ok (.getfield 138, 3) := by decide +kernel
theorem d_FR_moveClock_31 : decode b_FR_moveClock 31 = .ok (.iconst 2, 1) := by decide +kernel
theorem d_FR_moveClock_32 : decode b_FR_moveClock 32 = .ok (.if_icmp .ne 19, 3) := by decide +kernel
theorem d_FR_moveClock_35 : decode b_FR_moveClock 35 = .ok (.aload_n 2, 1) := by decide +kernel
theorem d_FR_moveClock_36 : decode b_FR_moveClock 36 = .ok (.getfield 177, 3) := by decide +kernel
theorem d_FR_moveClock_39 : decode b_FR_moveClock 39 = .ok (.aload_n 0, 1) := by decide +kernel
theorem d_FR_moveClock_40 : decode b_FR_moveClock 40 = .ok (.getfield 67, 3) := by decide +kernel
theorem d_FR_moveClock_43 : decode b_FR_moveClock 43 = .ok (.if_icmp .gt 8, 3) := by decide +kernel
theorem d_FR_moveClock_46 : decode b_FR_moveClock 46 = .ok (.aload_n 2, 1) := by decide +kernel
theorem d_FR_moveClock_47 : decode b_FR_moveClock 47 = .ok (.iconst 1, 1) := by decide +kernel
theorem d_FR_moveClock_48 : decode b_FR_moveClock 48 = .ok (.putfield 138, 3) := by decide +kernel
theorem d_FR_moveClock_51 : decode b_FR_moveClock 51 = .ok (.aload_n 2, 1) := by decide +kernel
theorem d_FR_moveClock_52 : decode b_FR_moveClock 52 = .ok (.getfield 138, 3) := by decide +kernel
theorem d_FR_moveClock_55 : decode b_FR_moveClock 55 = .ok (.iconst 1, 1) := by decide +kernel
theorem d_FR_moveClock_56 : decode b_FR_moveClock 56 = .ok (.if_icmp .ne 8, 3) := by decide +kernel
theorem d_FR_moveClock_59 : decode b_FR_moveClock 59 = .ok (.aload_n 0, 1) := by decide +kernel
theorem d_FR_moveClock_60 : decode b_FR_moveClock 60 = .ok (.iload_n 1, 1) := by decide +kernel
theorem d_FR_moveClock_61 : decode b_FR_moveClock 61 = .ok (.invokevirtual 224, 3) := by decide +kernel
theorem d_FR_moveClock_64 : decode b_FR_moveClock 64 = .ok (.iinc 1 1, 3) := by decide +kernel
theorem d_FR_moveClock_67 : decode b_FR_moveClock 67 = .ok (.goto (-55), 3) := by decide +kernel
theorem d_FR_moveClock_70 : decode b_FR_moveClock 70 = .ok (.return_, 1) := by decide +kernel
theorem d_FR_takeTurn_0 : decode b_FR_takeTurn 0 = .ok (.aload_n 0, 1) := by decide +kernel
theorem d_FR_takeTurn_1 : decode b_FR_takeTurn 1 = .ok (.getfield 29, 3) := by decide +kernel
theorem d_FR_takeTurn_4 : decode b_FR_takeTurn 4 = .ok (.iload_n 1, 1) := by decide +kernel
theorem d_FR_takeTurn_5 : decode b_FR_takeTurn 5 = .ok (.aaload, 1) := by decide +kernel
theorem d_FR_takeTurn_6 : decode b_FR_takeTurn 6 = .ok (.astore_n 2, 1) := by decide +kernel
theorem d_FR_takeTurn_7 : decode b_FR_takeTurn 7 = .ok (.aload_n 2, 1) := by decide +kernel
theorem d_FR_takeTurn_8 : decode b_FR_takeTurn 8 = .ok (.dup, 1) := by decide +kernel
theorem d_FR_takeTurn_9 : decode b_FR_takeTurn 9 = .ok (.getfield 180, 3) := by decide +kernel
theorem d_FR_takeTurn_12 : decode b_FR_takeTurn 12 = .ok (.iconst 1, 1) := by decide +kernel
theorem d_FR_takeTurn_13 : decode b_FR_takeTurn 13 = .ok (.iadd, 1) := by decide +kernel
theorem d_FR_takeTurn_14 : decode b_FR_takeTurn 14 = .ok (.putfield 180, 3) := by decide +kernel
theorem d_FR_takeTurn_17 : decode b_FR_takeTurn 17 = .ok (.aload_n 0, 1) := by decide +kernel
theorem d_FR_takeTurn_18 : decode b_FR_takeTurn 18 = .ok (.aload_n 2, 1) := by decide +kernel
theorem d_FR_takeTurn_19 : decode b_FR_takeTurn 19 = .ok (.invokevirtual 174, 3) := by decide +kernel
theorem d_FR_takeTurn_22 : decode b_FR_takeTurn 22 = .ok (.invokevirtual 227, 3) := by decide +kernel
theorem d_FR_takeTurn_25 : decode b_FR_takeTurn 25 = .ok (.istore_n 3, 1) := by decide +kernel
theorem d_FR_takeTurn_26 : decode b_FR_takeTurn 26 = .ok (.iload_n 3, 1) := by decide +kernel
theorem d_FR_takeTurn_27 : decode b_FR_takeTurn 27 = .ok (.iconst (-1), 1) := by decide +kernel
theorem d_FR_takeTurn_28 : decode b_FR_takeTurn 28 = .ok (.if_icmp .ne 9, 3) := by decide +kernel
theorem d_FR_takeTurn_31 : decode b_FR_takeTurn 31 = .ok (.aload_n 0, 1) := by decide +kernel
theorem d_FR_takeTurn_32 : decode b_FR_takeTurn 32 = .ok (.aload_n 2, 1) := by decide +kernel
theorem d_FR_takeTurn_33 : decode b_FR_takeTurn 33 = .ok (.invokevirtual 230, 3) := by decide +kernel
theorem d_FR_takeTurn_36 : decode b_FR_takeTurn 36 = .ok (.return_, 1) := by decide +kernel
theorem d_FR_takeTurn_37 : decode b_FR_takeTurn 37 = .ok (.aload_n 0, 1) := by decide +kernel
theorem d_FR_takeTurn_38 : decode b_FR_takeTurn 38 = .ok (.getfield 19, 3) := by decide +kernel
theorem d_FR_takeTurn_41 : decode b_FR_takeTurn 41 = .ok (.iload_n 3, 1) := by decide +kernel
theorem d_FR_takeTurn_42 : decode b_FR_takeTurn 42 = .ok (.aaload, 1) := by decide +kernel
theorem d_FR_takeTurn_43 : decode b_FR_takeTurn 43 = .ok (.astore 4, 2) := by decide +kernel
theorem d_FR_takeTurn_45 : decode b_FR_takeTurn 45 = .ok (.aload 4, 2) := by decide +kernel
theorem d_FR_takeTurn_47 : decode b_FR_takeTurn 47 = .ok (.aload_n 2, 1) := by decide +kernel
theorem d_FR_takeTurn_48 : decode b_FR_takeTurn 48 = .ok (.getfield 152, 3) := by decide +kernel
theorem d_FR_takeTurn_51 : decode b_FR_takeTurn 51 = .ok (.invokevirtual 234, 3) := by decide +kernel
theorem d_FR_takeTurn_54 : decode b_FR_takeTurn 54 = .ok (.istore 5, 2) := by decide +kernel
theorem d_FR_takeTurn_56 : decode b_FR_takeTurn 56 = .ok (.aload_n 2, 1) := by decide +kernel
theorem d_FR_takeTurn_57 : decode b_FR_takeTurn 57 = .ok (.getfield 152, 3) := by decide +kernel
theorem d_FR_takeTurn_60 : decode b_FR_takeTurn 60 = .ok (.getfield 101, 3) := by decide +kernel
theorem d_FR_takeTurn_63 : decode b_FR_takeTurn 63 = .ok (.aload 4, 2) := by decide +kernel
theorem d_FR_takeTurn_65 : decode b_FR_takeTurn 65 = .ok (.getfield 97, 3) := by decide +kernel
theorem d_FR_takeTurn_68 : decode b_FR_takeTurn 68 = .ok (.getfield 101, 3) := by decide +kernel
theorem d_FR_takeTurn_71 : decode b_FR_takeTurn 71 = .ok (.if_icmp .lt 11, 3) := by decide +kernel
theorem d_FR_takeTurn_74 : decode b_FR_takeTurn 74 = .ok (.aload_n 0, 1) := by decide +kernel
theorem d_FR_takeTurn_75 : decode b_FR_takeTurn 75 = .ok (.iload_n 1, 1) := by decide +kernel
theorem d_FR_takeTurn_76 : decode b_FR_takeTurn 76 = .ok (.invokevirtual 238, 3) := by decide +kernel
theorem d_FR_takeTurn_79 : decode b_FR_takeTurn 79 = .ok (.goto 13, 3) := by decide +kernel
theorem d_FR_takeTurn_82 : decode b_FR_takeTurn 82 = .ok (.iload 5, 2) := by decide +kernel
theorem d_FR_takeTurn_84 : decode b_FR_takeTurn 84 = .ok (.ifCond .eq 8, 3) := by decide +kernel
theorem d_FR_takeTurn_87 : decode b_FR_takeTurn 87 = .ok (.aload_n 0, 1) := by decide +kernel
theorem d_FR_takeTurn_88 : decode b_FR_takeTurn 88 = .ok (.aload_n 2, 1) := by decide +kernel
theorem d_FR_takeTurn_89 : decode b_FR_takeTurn 89 = .ok (.invokevirtual 241, 3) := by decide +kernel
theorem d_FR_takeTurn_92 : decode b_FR_takeTurn 92 = .ok (.return_, 1) := by decide +kernel
theorem d_FR_ask_0 : decode b_FR_ask 0 = .ok (.aload_n 0, 1) := by decide +kernel
theorem d_FR_ask_1 : decode b_FR_ask 1 = .ok (.iload_n 1, 1) := by decide +kernel
theorem d_FR_ask_2 : decode b_FR_ask 2 = .ok (.invokevirtual 94, 3) := by decide +kernel
theorem d_FR_ask_5 : decode b_FR_ask 5 = .ok (.ifCond .ne 5, 3) := by decide +kernel
theorem d_FR_ask_8 : decode b_FR_ask 8 = .ok (.iconst (-1), 1) := by decide +kernel
theorem d_FR_ask_9 : decode b_FR_ask 9 = .ok (.ireturn, 1) := by decide +kernel
theorem d_FR_ask_10 : decode b_FR_ask 10 = .ok (.iload_n 1, 1) := by decide +kernel
theorem d_FR_ask_11 : decode b_FR_ask 11 = .ok (.istore_n 2, 1) := by decide +kernel
theorem d_FR_ask_12 : decode b_FR_ask 12 = .ok (.aload_n 0, 1) := by decide +kernel
theorem d_FR_ask_13 : decode b_FR_ask 13 = .ok (.getfield 9, 3) := by decide +kernel
theorem d_FR_ask_16 : decode b_FR_ask 16 = .ok (.aload_n 0, 1) := by decide +kernel
theorem d_FR_ask_17 : decode b_FR_ask 17 = .ok (.getfield 19, 3) := by decide +kernel
theorem d_FR_ask_20 : decode b_FR_ask 20 = .ok (.iload_n 2, 1) := by decide +kernel
theorem d_FR_ask_21 : decode b_FR_ask 21 = .ok (.aaload, 1) := by decide +kernel
theorem d_FR_ask_22 : decode b_FR_ask 22 = .ok (.getfield 88, 3) := by decide +kernel
theorem d_FR_ask_25 : decode b_FR_ask 25 = .ok (.baload, 1) := by decide +kernel
theorem d_FR_ask_26 : decode b_FR_ask 26 = .ok (.istore_n 3, 1) := by decide +kernel
theorem d_FR_ask_27 : decode b_FR_ask 27 = .ok (.aload_n 0, 1) := by decide +kernel
theorem d_FR_ask_28 : decode b_FR_ask 28 = .ok (.iload_n 2, 1) := by decide +kernel
theorem d_FR_ask_29 : decode b_FR_ask 29 = .ok (.iload_n 3, 1) := by decide +kernel
theorem d_FR_ask_30 : decode b_FR_ask 30 = .ok (.invokevirtual 244, 3) := by decide +kernel
theorem d_FR_ask_33 : decode b_FR_ask 33 = .ok (.iconst 0, 1) := by decide +kernel
theorem d_FR_ask_34 : decode b_FR_ask 34 = .ok (.istore 4, 2) := by decide +kernel
theorem d_FR_ask_36 : decode b_FR_ask 36 = .ok (.iload 4, 2) := by decide +kernel
theorem d_FR_ask_38 : decode b_FR_ask 38 = .ok (.iconst 3, 1) := by decide +kernel
theorem d_FR_ask_39 : decode b_FR_ask 39 = .ok (.if_icmp .ge 73, 3) := by decide +kernel
theorem d_FR_ask_42 : decode b_FR_ask 42 = .ok (.aload_n 0, 1) := by decide +kernel
theorem d_FR_ask_43 : decode b_FR_ask 43 = .ok (.getfield 19, 3) := by decide +kernel
theorem d_FR_ask_46 : decode b_FR_ask 46 = .ok (.iload_n 2, 1) := by decide +kernel
theorem d_FR_ask_47 : decode b_FR_ask 47 = .ok (.aaload, 1) := by decide +kernel
theorem d_FR_ask_48 : decode b_FR_ask 48 = .ok (.invokevirtual 248, 3) := by decide +kernel
theorem d_FR_ask_51 : decode b_FR_ask 51 = .ok (.ifCond .eq 61, 3) := by decide +kernel
theorem d_FR_ask_54 : decode b_FR_ask 54 = .ok (.aload_n 0, 1) := by decide +kernel
theorem d_FR_ask_55 : decode b_FR_ask 55 = .ok (.getfield 19, 3) := by decide +kernel
theorem d_FR_ask_58 : decode b_FR_ask 58 = .ok (.iload_n 2, 1) := by decide +kernel
theorem d_FR_ask_59 : decode b_FR_ask 59 = .ok (.aaload, 1) := by decide +kernel
theorem d_FR_ask_60 : decode b_FR_ask 60 = .ok (.getfield 113, 3) := by decide +kernel
theorem d_FR_ask_63 : decode b_FR_ask 63 = .ok (.istore 5, 2) := by decide +kernel
theorem d_FR_ask_65 : decode b_FR_ask 65 = .ok (.iload_n 3, 1) := by decide +kernel
theorem d_FR_ask_66 : decode b_FR_ask 66 = .ok (.ifCond .eq 29, 3) := by decide +kernel
theorem d_FR_ask_69 : decode b_FR_ask 69 = .ok (.aload_n 0, 1) := by decide +kernel
theorem d_FR_ask_70 : decode b_FR_ask 70 = .ok (.getfield 19, 3) := by decide +kernel
theorem d_FR_ask_73 : decode b_FR_ask 73 = .ok (.iload 5, 2) := by decide +kernel
theorem d_FR_ask_75 : decode b_FR_ask 75 = .ok (.aaload, 1) := by decide +kernel
theorem d_FR_ask_76 : decode b_FR_ask 76 = .ok (.getfield 88, 3) := by decide +kernel
theorem d_FR_ask_79 : decode b_FR_ask 79 = .ok (.aload_n 0, 1) := by decide +kernel
theorem d_FR_ask_80 : decode b_FR_ask 80 = .ok (.getfield 19, 3) := by decide +kernel
theorem d_FR_ask_83 : decode b_FR_ask 83 = .ok (.iload_n 2, 1) := by decide +kernel
theorem d_FR_ask_84 : decode b_FR_ask 84 = .ok (.aaload, 1) := by decide +kernel
theorem d_FR_ask_85 : decode b_FR_ask 85 = .ok (.getfield 88, 3) := by decide +kernel
theorem d_FR_ask_88 : decode b_FR_ask 88 = .ok (.if_icmp .ne 7, 3) := by decide +kernel
theorem d_FR_ask_91 : decode b_FR_ask 91 = .ok (.iconst 1, 1) := by decide +kernel
theorem d_FR_ask_92 : decode b_FR_ask 92 = .ok (.goto 4, 3) := by decide +kernel
theorem d_FR_ask_95 : decode b_FR_ask 95 = .ok (.iconst 0, 1) := by decide +kernel
theorem d_FR_ask_96 : decode b_FR_ask 96 = .ok (.istore_n 3, 1) := by decide +kernel
theorem d_FR_ask_97 : decode b_FR_ask 97 = .ok (.iload 5, 2) := by decide +kernel
theorem d_FR_ask_99 : decode b_FR_ask 99 = .ok (.istore_n 2, 1) := by decide +kernel
theorem d_FR_ask_100 : decode b_FR_ask 100 = .ok (.aload_n 0, 1) := by decide +kernel
theorem d_FR_ask_101 : decode b_FR_ask 101 = .ok (.iload_n 2, 1) := by decide +kernel
theorem d_FR_ask_102 : decode b_FR_ask 102 = .ok (.iload_n 3, 1) := by decide +kernel
theorem d_FR_ask_103 : decode b_FR_ask 103 = .ok (.invokevirtual 244, 3) := by decide +kernel
theorem d_FR_ask_106 : decode b_FR_ask 106 = .ok (.iinc 4 1, 3) := by decide +kernel
theorem d_FR_ask_109 : decode b_FR_ask 109 = .ok (.goto (-73), 3) := by decide +kernel
theorem d_FR_ask_112 : decode b_FR_ask 112 = .ok (.aload_n 0, 1) := by decide +kernel
theorem d_FR_ask_113 : decode b_FR_ask 113 = .ok (.getfield 19, 3) := by decide +kernel
theorem d_FR_ask_116 : decode b_FR_ask 116 = .ok (.iload_n 2, 1) := by decide +kernel
theorem d_FR_ask_117 : decode b_FR_ask 117 = .ok (.aaload, 1) := by decide +kernel
theorem d_FR_ask_118 : decode b_FR_ask 118 = .ok (.iload_n 3, 1) := by decide +kernel
theorem d_FR_ask_119 : decode b_FR_ask 119 = .ok (.invokevirtual 251, 3) := by decide +kernel
theorem d_FR_ask_122 : decode b_FR_ask 122 = .ok (.ifCond .eq 7, 3) := by decide +kernel
theorem d_FR_ask_125 : decode b_FR_ask 125 = .ok (.iload_n 2, 1) := by decide +kernel
theorem d_FR_ask_126 : decode b_FR_ask 126 = .ok (.goto 4, 3) := by decide +kernel
theorem d_FR_ask_129 : decode b_FR_ask 129 = .ok (.iconst (-1), 1) := by decide +kernel
theorem d_FR_ask_130 : decode b_FR_ask 130 = .ok (.ireturn, 1) := by decide +kernel
theorem d_FR_countSent_0 : decode b_FR_countSent 0 = .ok (.iload_n 2, 1) := by decide +kernel
theorem d_FR_countSent_1 : decode b_FR_countSent 1 = .ok (.ifCond .eq 21, 3) := by decide +kernel
theorem d_FR_countSent_4 : decode b_FR_countSent 4 = .ok (.aload_n 0, 1) := by decide +kernel
theorem d_FR_countSent_5 : decode b_FR_countSent 5 = .ok (.getfield 13, 3) := by decide +kernel
theorem d_FR_countSent_8 : decode b_FR_countSent 8 = .ok (.aload_n 0, 1) := by decide +kernel
theorem d_FR_countSent_9 : decode b_FR_countSent 9 = .ok (.getfield 19, 3) := by decide +kernel
theorem d_FR_countSent_12 : decode b_FR_countSent 12 = .ok (.iload_n 1, 1) := by decide +kernel
theorem d_FR_countSent_13 : decode b_FR_countSent 13 = .ok (.aaload, 1) := by decide +kernel
theorem d_FR_countSent_14 : decode b_FR_countSent 14 = .ok (.getfield 88, 3) := by decide +kernel
theorem d_FR_countSent_17 : decode b_FR_countSent 17 = .ok (.dup2, 1) := by decide +kernel
theorem d_FR_countSent_18 : decode b_FR_countSent 18 = .ok (.iaload, 1) := by decide +kernel
theorem d_FR_countSent_19 : decode b_FR_countSent 19 = .ok (.iconst 1, 1) := by decide +kernel
theorem d_FR_countSent_20 : decode b_FR_countSent 20 = .ok (.iadd, 1) := by decide +kernel
theorem d_FR_countSent_21 : decode b_FR_countSent 21 = .ok (.iastore, 1) := by decide +kernel
theorem d_FR_countSent_22 : decode b_FR_countSent 22 = .ok (.return_, 1) := by decide +kernel
theorem d_FR_checkDigest_0 : decode b_FR_checkDigest 0 = .ok (.aload_n 0, 1) := by decide +kernel
theorem d_FR_checkDigest_1 : decode b_FR_checkDigest 1 = .ok (.getfield 29, 3) := by decide +kernel
theorem d_FR_checkDigest_4 : decode b_FR_checkDigest 4 = .ok (.iload_n 1, 1) := by decide +kernel
theorem d_FR_checkDigest_5 : decode b_FR_checkDigest 5 = .ok (.aaload, 1) := by decide +kernel
theorem d_FR_checkDigest_6 : decode b_FR_checkDigest 6 = .ok (.astore_n 2, 1) := by decide +kernel
theorem d_FR_checkDigest_7 : decode b_FR_checkDigest 7 = .ok (.aload_n 2, 1) := by decide +kernel
theorem d_FR_checkDigest_8 : decode b_FR_checkDigest 8 = .ok (.getfield 152, 3) := by decide +kernel
theorem d_FR_checkDigest_11 : decode b_FR_checkDigest 11 = .ok (.invokevirtual 128, 3) := by decide +kernel
theorem d_FR_checkDigest_14 : decode b_FR_checkDigest 14 = .ok (.istore_n 3, 1) := by decide +kernel
theorem d_FR_checkDigest_15 : decode b_FR_checkDigest 15 = .ok (.iload_n 3, 1) := by decide +kernel
theorem d_FR_checkDigest_16 : decode b_FR_checkDigest 16 = .ok (.aload_n 2, 1) := by decide +kernel
theorem d_FR_checkDigest_17 : decode b_FR_checkDigest 17 = .ok (.getfield 132, 3) := by decide +kernel
theorem d_FR_checkDigest_20 : decode b_FR_checkDigest 20 = .ok (.if_icmp .ne 21, 3) := by decide +kernel
theorem d_FR_checkDigest_23 : decode b_FR_checkDigest 23 = .ok (.aload_n 2, 1) := by decide +kernel
theorem d_FR_checkDigest_24 : decode b_FR_checkDigest 24 = .ok (.iconst 3, 1) := by decide +kernel
theorem d_FR_checkDigest_25 : decode b_FR_checkDigest 25 = .ok (.putfield 138, 3) := by decide +kernel
theorem d_FR_checkDigest_28 : decode b_FR_checkDigest 28 = .ok (.aload_n 0, 1) := by decide +kernel
theorem d_FR_checkDigest_29 : decode b_FR_checkDigest 29 = .ok (.getfield 39, 3) := by decide +kernel
theorem d_FR_checkDigest_32 : decode b_FR_checkDigest 32 = .ok (.iload_n 3, 1) := by decide +kernel
theorem d_FR_checkDigest_33 : decode b_FR_checkDigest 33 = .ok (.aload_n 2, 1) := by decide +kernel
theorem d_FR_checkDigest_34 : decode b_FR_checkDigest 34 = .ok (.getfield 152, 3) := by decide +kernel
theorem d_FR_checkDigest_37 : decode b_FR_checkDigest 37 = .ok (.invokevirtual 255, 3) := by decide +kernel
theorem d_FR_checkDigest_40 : decode b_FR_checkDigest 40 = .ok (.return_, 1) := by decide +kernel
theorem d_FR_checkDigest_41 : decode b_FR_checkDigest 41 = .ok (.aload_n 2, 1) := by decide +kernel
theorem d_FR_checkDigest_42 : decode b_FR_checkDigest 42 = .ok (.invokevirtual 174, 3) := by decide +kernel
theorem d_FR_checkDigest_45 : decode b_FR_checkDigest 45 = .ok (.istore 4, 2) := by decide +kernel
theorem d_FR_checkDigest_47 : decode b_FR_checkDigest 47 = .ok (.aload_n 0, 1) := by decide +kernel
theorem d_FR_checkDigest_48 : decode b_FR_checkDigest 48 = .ok (.iload 4, 2) := by decide +kernel
theorem d_FR_checkDigest_50 : decode b_FR_checkDigest 50 = .ok (.invokevirtual 94, 3) := by decide +kernel
theorem d_FR_checkDigest_53 : decode b_FR_checkDigest 53 = .ok (.ifCond .eq 25, 3) := by decide +kernel
theorem d_FR_checkDigest_56 : decode b_FR_checkDigest 56 = .ok (.aload_n 0, 1) := by decide +kernel
theorem d_FR_checkDigest_57 : decode b_FR_checkDigest 57 = .ok (.getfield 19, 3) := by decide +kernel
theorem d_FR_checkDigest_60 : decode b_FR_checkDigest 60 = .ok (.iload 4, 2) := by decide +kernel
theorem d_FR_checkDigest_62 : decode b_FR_checkDigest 62 = .ok (.aaload, 1) := by decide +kernel
theorem d_FR_checkDigest_63 : decode b_FR_checkDigest 63 = .ok (.iconst 1, 1) := by decide +kernel
theorem d_FR_checkDigest_64 : decode b_FR_checkDigest 64 = .ok (.putfield 259, 3) := by decide +kernel
theorem d_FR_checkDigest_67 : decode b_FR_checkDigest 67 = .ok (.aload_n 0, 1) := by decide +kernel
theorem d_FR_checkDigest_68 : decode b_FR_checkDigest 68 = .ok (.getfield 46, 3) := by decide +kernel
theorem d_FR_checkDigest_71 : decode b_FR_checkDigest 71 = .ok (.iload_n 1, 1) := by decide +kernel
theorem d_FR_checkDigest_72 : decode b_FR_checkDigest 72 = .ok (.iload 4, 2) := by decide +kernel
theorem d_FR_checkDigest_74 : decode b_FR_checkDigest 74 = .ok (.iload_n 3, 1) := by decide +kernel
theorem d_FR_checkDigest_75 : decode b_FR_checkDigest 75 = .ok (.invokevirtual 262, 3) := by decide +kernel
theorem d_FR_checkDigest_78 : decode b_FR_checkDigest 78 = .ok (.aload_n 0, 1) := by decide +kernel
theorem d_FR_checkDigest_79 : decode b_FR_checkDigest 79 = .ok (.aload_n 2, 1) := by decide +kernel
theorem d_FR_checkDigest_80 : decode b_FR_checkDigest 80 = .ok (.invokevirtual 230, 3) := by decide +kernel
theorem d_FR_checkDigest_83 : decode b_FR_checkDigest 83 = .ok (.return_, 1) := by decide +kernel
theorem d_FR_falter_0 : decode b_FR_falter 0 = .ok (.aload_n 1, 1) := by decide +kernel
theorem d_FR_falter_1 : decode b_FR_falter 1 = .ok (.getfield 266, 3) := by decide +kernel
theorem d_FR_falter_4 : decode b_FR_falter 4 = .ok (.aload_n 0, 1) := by decide +kernel
theorem d_FR_falter_5 : decode b_FR_falter 5 = .ok (.getfield 79, 3) := by decide +kernel
theorem d_FR_falter_8 : decode b_FR_falter 8 = .ok (.if_icmp .lt 9, 3) := by decide +kernel
theorem d_FR_falter_11 : decode b_FR_falter 11 = .ok (.aload_n 0, 1) := by decide +kernel
theorem d_FR_falter_12 : decode b_FR_falter 12 = .ok (.aload_n 1, 1) := by decide +kernel
theorem d_FR_falter_13 : decode b_FR_falter 13 = .ok (.invokevirtual 230, 3) := by decide +kernel
theorem d_FR_falter_16 : decode b_FR_falter 16 = .ok (.return_, 1) := by decide +kernel
theorem d_FR_falter_17 : decode b_FR_falter 17 = .ok (.aload_n 1, 1) := by decide +kernel
theorem d_FR_falter_18 : decode b_FR_falter 18 = .ok (.aload_n 0, 1) := by decide +kernel
theorem d_FR_falter_19 : decode b_FR_falter 19 = .ok (.getfield 67, 3) := by decide +kernel
theorem d_FR_falter_22 : decode b_FR_falter 22 = .ok (.iconst 1, 1) := by decide +kernel
theorem d_FR_falter_23 : decode b_FR_falter 23 = .ok (.aload_n 1, 1) := by decide +kernel
theorem d_FR_falter_24 : decode b_FR_falter 24 = .ok (.getfield 266, 3) := by decide +kernel
theorem d_FR_falter_27 : decode b_FR_falter 27 = .ok (.ishl, 1) := by decide +kernel
theorem d_FR_falter_28 : decode b_FR_falter 28 = .ok (.iadd, 1) := by decide +kernel
theorem d_FR_falter_29 : decode b_FR_falter 29 = .ok (.putfield 177, 3) := by decide +kernel
theorem d_FR_falter_32 : decode b_FR_falter 32 = .ok (.aload_n 1, 1) := by decide +kernel
theorem d_FR_falter_33 : decode b_FR_falter 33 = .ok (.dup, 1) := by decide +kernel
theorem d_FR_falter_34 : decode b_FR_falter 34 = .ok (.getfield 266, 3) := by decide +kernel
theorem d_FR_falter_37 : decode b_FR_falter 37 = .ok (.iconst 1, 1) := by decide +kernel
theorem d_FR_falter_38 : decode b_FR_falter 38 = .ok (.iadd, 1) := by decide +kernel
theorem d_FR_falter_39 : decode b_FR_falter 39 = .ok (.putfield 266, 3) := by decide +kernel
theorem d_FR_falter_42 : decode b_FR_falter 42 = .ok (.aload_n 1, 1) := by decide +kernel
theorem d_FR_falter_43 : decode b_FR_falter 43 = .ok (.iconst 2, 1) := by decide +kernel
theorem d_FR_falter_44 : decode b_FR_falter 44 = .ok (.putfield 138, 3) := by decide +kernel
theorem d_FR_falter_47 : decode b_FR_falter 47 = .ok (.return_, 1) := by decide +kernel
theorem d_FR_giveUp_0 : decode b_FR_giveUp 0 = .ok (.aload_n 0, 1) := by decide +kernel
theorem d_FR_giveUp_1 : decode b_FR_giveUp 1 = .ok (.aload_n 1, 1) := by decide +kernel
theorem d_FR_giveUp_2 : decode b_FR_giveUp 2 = .ok (.aload_n 1, 1) := by decide +kernel
theorem d_FR_giveUp_3 : decode b_FR_giveUp 3 = .ok (.getfield 269, 3) := by decide +kernel
theorem d_FR_giveUp_6 : decode b_FR_giveUp 6 = .ok (.iconst 1, 1) := by decide +kernel
theorem d_FR_giveUp_7 : decode b_FR_giveUp 7 = .ok (.iadd, 1) := by decide +kernel
theorem d_FR_giveUp_8 : decode b_FR_giveUp 8 = .ok (.invokevirtual 164, 3) := by decide +kernel
theorem d_FR_giveUp_11 : decode b_FR_giveUp 11 = .ok (.return_, 1) := by decide +kernel
theorem d_FR_fetchFrom_0 : decode b_FR_fetchFrom 0 = .ok (.iload_n 2, 1) := by decide +kernel
theorem d_FR_fetchFrom_1 : decode b_FR_fetchFrom 1 = .ok (.istore_n 3, 1) := by decide +kernel
theorem d_FR_fetchFrom_2 : decode b_FR_fetchFrom 2 = .ok (.iload_n 3, 1) := by decide +kernel
theorem d_FR_fetchFrom_3 : decode b_FR_fetchFrom 3 = .ok (.aload_n 1, 1) := by decide +kernel
theorem d_FR_fetchFrom_4 : decode b_FR_fetchFrom 4 = .ok (.getfield 272, 3) := by decide +kernel
theorem d_FR_fetchFrom_7 : decode b_FR_fetchFrom 7 = .ok (.if_icmp .ge 32, 3) := by decide +kernel
theorem d_FR_fetchFrom_10 : decode b_FR_fetchFrom 10 = .ok (.aload_n 0, 1) := by decide +kernel
theorem d_FR_fetchFrom_11 : decode b_FR_fetchFrom 11 = .ok (.getfield 19, 3) := by decide +kernel
theorem d_FR_fetchFrom_14 : decode b_FR_fetchFrom 14 = .ok (.aload_n 1, 1) := by decide +kernel
theorem d_FR_fetchFrom_15 : decode b_FR_fetchFrom 15 = .ok (.getfield 273, 3) := by decide +kernel
theorem d_FR_fetchFrom_18 : decode b_FR_fetchFrom 18 = .ok (.iload_n 3, 1) := by decide +kernel
theorem d_FR_fetchFrom_19 : decode b_FR_fetchFrom 19 = .ok (.iaload, 1) := by decide +kernel
theorem d_FR_fetchFrom_20 : decode b_FR_fetchFrom 20 = .ok (.aaload, 1) := by decide +kernel
theorem d_FR_fetchFrom_21 : decode b_FR_fetchFrom 21 = .ok (.getfield 259, 3) := by decide +kernel
theorem d_FR_fetchFrom_24 : decode b_FR_fetchFrom 24 = .ok (.ifCond .ne 9, 3) := by decide +kernel
theorem d_FR_fetchFrom_27 : decode b_FR_fetchFrom 27 = .ok (.aload_n 1, 1) := by decide +kernel
theorem d_FR_fetchFrom_28 : decode b_FR_fetchFrom 28 = .ok (.iload_n 3, 1) := by decide +kernel
theorem d_FR_fetchFrom_29 : decode b_FR_fetchFrom 29 = .ok (.invokevirtual 274, 3) := by decide +kernel
theorem d_FR_fetchFrom_32 : decode b_FR_fetchFrom 32 = .ok (.return_, 1) := by decide +kernel
theorem d_FR_fetchFrom_33 : decode b_FR_fetchFrom 33 = .ok (.iinc 3 1, 3) := by decide +kernel
theorem d_FR_fetchFrom_36 : decode b_FR_fetchFrom 36 = .ok (.goto (-34), 3) := by decide +kernel
theorem d_FR_fetchFrom_39 : decode b_FR_fetchFrom 39 = .ok (.aload_n 1, 1) := by decide +kernel
theorem d_FR_fetchFrom_40 : decode b_FR_fetchFrom 40 = .ok (.iconst 4, 1) := by decide +kernel
theorem d_FR_fetchFrom_41 : decode b_FR_fetchFrom 41 = .ok (.putfield 138, 3) := by decide +kernel
theorem d_FR_fetchFrom_44 : decode b_FR_fetchFrom 44 = .ok (.return_, 1) := by decide +kernel
theorem d_Archive_findIll_0 : decode b_Archive_findIll 0 = .ok (.iconst 0, 1) := by decide +kernel
theorem d_Archive_findIll_1 : decode b_Archive_findIll 1 = .ok (.istore_n 1, 1) := by decide +kernel
theorem d_Archive_findIll_2 : decode b_Archive_findIll 2 = .ok (.iconst 0, 1) := by decide +kernel
theorem d_Archive_findIll_3 : decode b_Archive_findIll 3 = .ok (.istore_n 2, 1) := by decide +kernel
theorem d_Archive_findIll_4 : decode b_Archive_findIll 4 = .ok (.iload_n 2, 1) := by decide +kernel
theorem d_Archive_findIll_5 : decode b_Archive_findIll 5 = .ok (.bipush 100, 2) := by decide +kernel
theorem d_Archive_findIll_7 : decode b_Archive_findIll 7 = .ok (.if_icmp .ge 36, 3) := by decide +kernel
theorem d_Archive_findIll_10 : decode b_Archive_findIll 10 = .ok (.iload_n 1, 1) := by decide +kernel
theorem d_Archive_findIll_11 : decode b_Archive_findIll 11 = .ok (.aload_n 0, 1) := by decide +kernel
theorem d_Archive_findIll_12 : decode b_Archive_findIll 12 = .ok (.getfield 9, 3) := by decide +kernel
theorem d_Archive_findIll_15 : decode b_Archive_findIll 15 = .ok (.if_icmp .ge 28, 3) := by decide +kernel
theorem d_Archive_findIll_18 : decode b_Archive_findIll 18 = .ok (.aload_n 0, 1) := by decide +kernel
theorem d_Archive_findIll_19 : decode b_Archive_findIll 19 = .ok (.iload_n 1, 1) := by decide +kernel
theorem d_Archive_findIll_20 : decode b_Archive_findIll 20 = .ok (.invokestatic 15, 3) := by decide +kernel
theorem d_Archive_findIll_23 : decode b_Archive_findIll 23 = .ok (.istore_n 3, 1) := by decide +kernel
theorem d_Archive_findIll_24 : decode b_Archive_findIll 24 = .ok (.iload_n 3, 1) := by decide +kernel
theorem d_Archive_findIll_25 : decode b_Archive_findIll 25 = .ok (.iconst (-1), 1) := by decide +kernel
theorem d_Archive_findIll_26 : decode b_Archive_findIll 26 = .ok (.if_icmp .eq 5, 3) := by decide +kernel
theorem d_Archive_findIll_29 : decode b_Archive_findIll 29 = .ok (.iload_n 3, 1) := by decide +kernel
theorem d_Archive_findIll_30 : decode b_Archive_findIll 30 = .ok (.ireturn, 1) := by decide +kernel
theorem d_Archive_findIll_31 : decode b_Archive_findIll 31 = .ok (.aload_n 0, 1) := by decide +kernel
theorem d_Archive_findIll_32 : decode b_Archive_findIll 32 = .ok (.iload_n 1, 1) := by decide +kernel
theorem d_Archive_findIll_33 : decode b_Archive_findIll 33 = .ok (.invokestatic 21, 3) := by decide +kernel
theorem d_Archive_findIll_36 : decode b_Archive_findIll 36 = .ok (.istore_n 1, 1) := by decide +kernel
theorem d_Archive_findIll_37 : decode b_Archive_findIll 37 = .ok (.iinc 2 1, 3) := by decide +kernel
theorem d_Archive_findIll_40 : decode b_Archive_findIll 40 = .ok (.goto (-36), 3) := by decide +kernel
theorem d_Archive_findIll_43 : decode b_Archive_findIll 43 = .ok (.iconst (-1), 1) := by decide +kernel
theorem d_Archive_findIll_44 : decode b_Archive_findIll 44 = .ok (.ireturn, 1) := by decide +kernel
theorem d_Archive_findIllOfEntry_0 : decode b_Archive_findIllOfEntry 0 = .ok (.aload_n 0, 1) := by decide +kernel
theorem d_Archive_findIllOfEntry_1 : decode b_Archive_findIllOfEntry 1 = .ok (.iload_n 1, 1) := by decide +kernel
theorem d_Archive_findIllOfEntry_2 : decode b_Archive_findIllOfEntry 2 = .ok (.invokevirtual 24, 3) := by decide +kernel
theorem d_Archive_findIllOfEntry_5 : decode b_Archive_findIllOfEntry 5 = .ok (.istore_n 2, 1) := by decide +kernel
theorem d_Archive_findIllOfEntry_6 : decode b_Archive_findIllOfEntry 6 = .ok (.iload_n 2, 1) := by decide +kernel
theorem d_Archive_findIllOfEntry_7 : decode b_Archive_findIllOfEntry 7 = .ok (.iconst 1, 1) := by decide +kernel
theorem d_Archive_findIllOfEntry_8 : decode b_Archive_findIllOfEntry 8 = .ok (.if_icmp .lt 9, 3) := by decide +kernel
theorem d_Archive_findIllOfEntry_11 : decode b_Archive_findIllOfEntry 11 = .ok (.iload_n 2, 1) := by decide +kernel
theorem d_Archive_findIllOfEntry_12 : decode b_Archive_findIllOfEntry 12 = .ok (.bipush 20, 2) := by decide +kernel
theorem d_Archive_findIllOfEntry_14 : decode b_Archive_findIllOfEntry 14 = .ok (.if_icmp .le 5, 3) := by decide +kernel
end
section
theorem d_Archive_findIllOfEntry_17 : decode b_Archive_findIllOfEntry 17 = .ok (.iload_n 1, 1) := by decide +kernel
theorem d_Archive_findIllOfEntry_18 : decode b_Archive_findIllOfEntry 18 = .ok (.ireturn, 1) := by decide +kernel
theorem d_Archive_findIllOfEntry_19 : decode b_Archive_findIllOfEntry 19 = .ok (.aload_n 0, 1) := by decide +kernel
theorem d_Archive_findIllOfEntry_20 : decode b_Archive_findIllOfEntry 20 = .ok (.iload_n 1, 1) := by decide +kernel
theorem d_Archive_findIllOfEntry_21 : decode b_Archive_findIllOfEntry 21 = .ok (.invokestatic 28, 3) := by decide +kernel
theorem d_Archive_findIllOfEntry_24 : decode b_Archive_findIllOfEntry 24 = .ok (.aload_n 0, 1) := by decide +kernel
theorem d_Archive_findIllOfEntry_25 : decode b_Archive_findIllOfEntry 25 = .ok (.getfield 9, 3) := by decide +kernel
theorem d_Archive_findIllOfEntry_28 : decode b_Archive_findIllOfEntry 28 = .ok (.if_icmp .lt 8, 3) := by decide +kernel
theorem d_Archive_findIllOfEntry_31 : decode b_Archive_findIllOfEntry 31 = .ok (.aload_n 0, 1) := by decide +kernel
theorem d_Archive_findIllOfEntry_32 : decode b_Archive_findIllOfEntry 32 = .ok (.getfield 9, 3) := by decide +kernel
theorem d_Archive_findIllOfEntry_35 : decode b_Archive_findIllOfEntry 35 = .ok (.ireturn, 1) := by decide +kernel
theorem d_Archive_findIllOfEntry_36 : decode b_Archive_findIllOfEntry 36 = .ok (.aload_n 0, 1) := by decide +kernel
theorem d_Archive_findIllOfEntry_37 : decode b_Archive_findIllOfEntry 37 = .ok (.iload_n 1, 1) := by decide +kernel
theorem d_Archive_findIllOfEntry_38 : decode b_Archive_findIllOfEntry 38 = .ok (.iconst 1, 1) := by decide +kernel
theorem d_Archive_findIllOfEntry_39 : decode b_Archive_findIllOfEntry 39 = .ok (.iadd, 1) := by decide +kernel
theorem d_Archive_findIllOfEntry_40 : decode b_Archive_findIllOfEntry 40 = .ok (.aload_n 0, 1) := by decide +kernel
theorem d_Archive_findIllOfEntry_41 : decode b_Archive_findIllOfEntry 41 = .ok (.iload_n 1, 1) := by decide +kernel
theorem d_Archive_findIllOfEntry_42 : decode b_Archive_findIllOfEntry 42 = .ok (.invokestatic 28, 3) := by decide +kernel
theorem d_Archive_findIllOfEntry_45 : decode b_Archive_findIllOfEntry 45 = .ok (.invokestatic 31, 3) := by decide +kernel
theorem d_Archive_findIllOfEntry_48 : decode b_Archive_findIllOfEntry 48 = .ok (.ifCond .ne 7, 3) := by decide +kernel
theorem d_Archive_findIllOfEntry_51 : decode b_Archive_findIllOfEntry 51 = .ok (.iload_n 1, 1) := by decide +kernel
theorem d_Archive_findIllOfEntry_52 : decode b_Archive_findIllOfEntry 52 = .ok (.iconst 1, 1) := by decide +kernel
theorem d_Archive_findIllOfEntry_53 : decode b_Archive_findIllOfEntry 53 = .ok (.iadd, 1) := by decide +kernel
theorem d_Archive_findIllOfEntry_54 : decode b_Archive_findIllOfEntry 54 = .ok (.ireturn, 1) := by decide +kernel
theorem d_Archive_findIllOfEntry_55 : decode b_Archive_findIllOfEntry 55 = .ok (.aload_n 0, 1) := by decide +kernel
theorem d_Archive_findIllOfEntry_56 : decode b_Archive_findIllOfEntry 56 = .ok (.iload_n 1, 1) := by decide +kernel
theorem d_Archive_findIllOfEntry_57 : decode b_Archive_findIllOfEntry 57 = .ok (.invokestatic 21, 3) := by decide +kernel
theorem d_Archive_findIllOfEntry_60 : decode b_Archive_findIllOfEntry 60 = .ok (.aload_n 0, 1) := by decide +kernel
theorem d_Archive_findIllOfEntry_61 : decode b_Archive_findIllOfEntry 61 = .ok (.getfield 9, 3) := by decide +kernel
theorem d_Archive_findIllOfEntry_64 : decode b_Archive_findIllOfEntry 64 = .ok (.if_icmp .le 10, 3) := by decide +kernel
theorem d_Archive_findIllOfEntry_67 : decode b_Archive_findIllOfEntry 67 = .ok (.aload_n 0, 1) := by decide +kernel
theorem d_Archive_findIllOfEntry_68 : decode b_Archive_findIllOfEntry 68 = .ok (.getfield 9, 3) := by decide +kernel
theorem d_Archive_findIllOfEntry_71 : decode b_Archive_findIllOfEntry 71 = .ok (.goto 4, 3) := by decide +kernel
theorem d_Archive_findIllOfEntry_74 : decode b_Archive_findIllOfEntry 74 = .ok (.iconst (-1), 1) := by decide +kernel
theorem d_Archive_findIllOfEntry_75 : decode b_Archive_findIllOfEntry 75 = .ok (.ireturn, 1) := by decide +kernel
theorem d_Archive_pathEnd_0 : decode b_Archive_pathEnd 0 = .ok (.iload_n 1, 1) := by decide +kernel
theorem d_Archive_pathEnd_1 : decode b_Archive_pathEnd 1 = .ok (.iconst 1, 1) := by decide +kernel
theorem d_Archive_pathEnd_2 : decode b_Archive_pathEnd 2 = .ok (.iadd, 1) := by decide +kernel
theorem d_Archive_pathEnd_3 : decode b_Archive_pathEnd 3 = .ok (.aload_n 0, 1) := by decide +kernel
theorem d_Archive_pathEnd_4 : decode b_Archive_pathEnd 4 = .ok (.iload_n 1, 1) := by decide +kernel
theorem d_Archive_pathEnd_5 : decode b_Archive_pathEnd 5 = .ok (.invokevirtual 24, 3) := by decide +kernel
theorem d_Archive_pathEnd_8 : decode b_Archive_pathEnd 8 = .ok (.iadd, 1) := by decide +kernel
theorem d_Archive_pathEnd_9 : decode b_Archive_pathEnd 9 = .ok (.ireturn, 1) := by decide +kernel
theorem d_Archive_entryEnd_0 : decode b_Archive_entryEnd 0 = .ok (.aload_n 0, 1) := by decide +kernel
theorem d_Archive_entryEnd_1 : decode b_Archive_entryEnd 1 = .ok (.iload_n 1, 1) := by decide +kernel
theorem d_Archive_entryEnd_2 : decode b_Archive_entryEnd 2 = .ok (.invokestatic 28, 3) := by decide +kernel
theorem d_Archive_entryEnd_5 : decode b_Archive_entryEnd 5 = .ok (.istore_n 2, 1) := by decide +kernel
theorem d_Archive_entryEnd_6 : decode b_Archive_entryEnd 6 = .ok (.iload_n 2, 1) := by decide +kernel
theorem d_Archive_entryEnd_7 : decode b_Archive_entryEnd 7 = .ok (.iconst 1, 1) := by decide +kernel
theorem d_Archive_entryEnd_8 : decode b_Archive_entryEnd 8 = .ok (.iadd, 1) := by decide +kernel
theorem d_Archive_entryEnd_9 : decode b_Archive_entryEnd 9 = .ok (.aload_n 0, 1) := by decide +kernel
theorem d_Archive_entryEnd_10 : decode b_Archive_entryEnd 10 = .ok (.iload_n 2, 1) := by decide +kernel
theorem d_Archive_entryEnd_11 : decode b_Archive_entryEnd 11 = .ok (.invokevirtual 24, 3) := by decide +kernel
theorem d_Archive_entryEnd_14 : decode b_Archive_entryEnd 14 = .ok (.iadd, 1) := by decide +kernel
theorem d_Archive_entryEnd_15 : decode b_Archive_entryEnd 15 = .ok (.ireturn, 1) := by decide +kernel
theorem d_Archive_isRightPath_0 : decode b_Archive_isRightPath 0 = .ok (.iload_n 1, 1) := by decide +kernel
theorem d_Archive_isRightPath_1 : decode b_Archive_isRightPath 1 = .ok (.istore_n 3, 1) := by decide +kernel
theorem d_Archive_isRightPath_2 : decode b_Archive_isRightPath 2 = .ok (.iload_n 1, 1) := by decide +kernel
theorem d_Archive_isRightPath_3 : decode b_Archive_isRightPath 3 = .ok (.istore 4, 2) := by decide +kernel
theorem d_Archive_isRightPath_5 : decode b_Archive_isRightPath 5 = .ok (.iload 4, 2) := by decide +kernel
theorem d_Archive_isRightPath_7 : decode b_Archive_isRightPath 7 = .ok (.iload_n 2, 1) := by decide +kernel
theorem d_Archive_isRightPath_8 : decode b_Archive_isRightPath 8 = .ok (.if_icmp .ge 54, 3) := by decide +kernel
theorem d_Archive_isRightPath_11 : decode b_Archive_isRightPath 11 = .ok (.aload_n 0, 1) := by decide +kernel
theorem d_Archive_isRightPath_12 : decode b_Archive_isRightPath 12 = .ok (.iload 4, 2) := by decide +kernel
theorem d_Archive_isRightPath_14 : decode b_Archive_isRightPath 14 = .ok (.invokevirtual 24, 3) := by decide +kernel
theorem d_Archive_isRightPath_17 : decode b_Archive_isRightPath 17 = .ok (.istore 5, 2) := by decide +kernel
theorem d_Archive_isRightPath_19 : decode b_Archive_isRightPath 19 = .ok (.iload 5, 2) := by decide +kernel
theorem d_Archive_isRightPath_21 : decode b_Archive_isRightPath 21 = .ok (.bipush 47, 2) := by decide +kernel
theorem d_Archive_isRightPath_23 : decode b_Archive_isRightPath 23 = .ok (.if_icmp .ne 23, 3) := by decide +kernel
theorem d_Archive_isRightPath_26 : decode b_Archive_isRightPath 26 = .ok (.aload_n 0, 1) := by decide +kernel
theorem d_Archive_isRightPath_27 : decode b_Archive_isRightPath 27 = .ok (.iload_n 3, 1) := by decide +kernel
theorem d_Archive_isRightPath_28 : decode b_Archive_isRightPath 28 = .ok (.iload 4, 2) := by decide +kernel
theorem d_Archive_isRightPath_30 : decode b_Archive_isRightPath 30 = .ok (.invokestatic 35, 3) := by decide +kernel
theorem d_Archive_isRightPath_33 : decode b_Archive_isRightPath 33 = .ok (.ifCond .ne 5, 3) := by decide +kernel
theorem d_Archive_isRightPath_36 : decode b_Archive_isRightPath 36 = .ok (.iconst 0, 1) := by decide +kernel
theorem d_Archive_isRightPath_37 : decode b_Archive_isRightPath 37 = .ok (.ireturn, 1) := by decide +kernel
theorem d_Archive_isRightPath_38 : decode b_Archive_isRightPath 38 = .ok (.iload 4, 2) := by decide +kernel
theorem d_Archive_isRightPath_40 : decode b_Archive_isRightPath 40 = .ok (.iconst 1, 1) := by decide +kernel
theorem d_Archive_isRightPath_41 : decode b_Archive_isRightPath 41 = .ok (.iadd, 1) := by decide +kernel
theorem d_Archive_isRightPath_42 : decode b_Archive_isRightPath 42 = .ok (.istore_n 3, 1) := by decide +kernel
theorem d_Archive_isRightPath_43 : decode b_Archive_isRightPath 43 = .ok (.goto 13, 3) := by decide +kernel
theorem d_Archive_isRightPath_46 : decode b_Archive_isRightPath 46 = .ok (.iload 5, 2) := by decide +kernel
theorem d_Archive_isRightPath_48 : decode b_Archive_isRightPath 48 = .ok (.invokestatic 38, 3) := by decide +kernel
theorem d_Archive_isRightPath_51 : decode b_Archive_isRightPath 51 = .ok (.ifCond .ne 5, 3) := by decide +kernel
theorem d_Archive_isRightPath_54 : decode b_Archive_isRightPath 54 = .ok (.iconst 0, 1) := by decide +kernel
theorem d_Archive_isRightPath_55 : decode b_Archive_isRightPath 55 = .ok (.ireturn, 1) := by decide +kernel
theorem d_Archive_isRightPath_56 : decode b_Archive_isRightPath 56 = .ok (.iinc 4 1, 3) := by decide +kernel
theorem d_Archive_isRightPath_59 : decode b_Archive_isRightPath 59 = .ok (.goto (-54), 3) := by decide +kernel
theorem d_Archive_isRightPath_62 : decode b_Archive_isRightPath 62 = .ok (.aload_n 0, 1) := by decide +kernel
theorem d_Archive_isRightPath_63 : decode b_Archive_isRightPath 63 = .ok (.iload_n 3, 1) := by decide +kernel
theorem d_Archive_isRightPath_64 : decode b_Archive_isRightPath 64 = .ok (.iload_n 2, 1) := by decide +kernel
theorem d_Archive_isRightPath_65 : decode b_Archive_isRightPath 65 = .ok (.invokestatic 35, 3) := by decide +kernel
theorem d_Archive_isRightPath_68 : decode b_Archive_isRightPath 68 = .ok (.ireturn, 1) := by decide +kernel
theorem d_Archive_isPathCharacter_0 : decode b_Archive_isPathCharacter 0 = .ok (.iload_n 0, 1) := by decide +kernel
theorem d_Archive_isPathCharacter_1 : decode b_Archive_isPathCharacter 1 = .ok (.bipush 97, 2) := by decide +kernel
theorem d_Archive_isPathCharacter_3 : decode b_Archive_isPathCharacter 3 = .ok (.if_icmp .lt 9, 3) := by decide +kernel
theorem d_Archive_isPathCharacter_6 : decode b_Archive_isPathCharacter 6 = .ok (.iload_n 0, 1) := by decide +kernel
theorem d_Archive_isPathCharacter_7 : decode b_Archive_isPathCharacter 7 = .ok (.bipush 122, 2) := by decide +kernel
theorem d_Archive_isPathCharacter_9 : decode b_Archive_isPathCharacter 9 = .ok (.if_icmp .le 21, 3) := by decide +kernel
theorem d_Archive_isPathCharacter_12 : decode b_Archive_isPathCharacter 12 = .ok (.iload_n 0, 1) := by decide +kernel
theorem d_Archive_isPathCharacter_13 : decode b_Archive_isPathCharacter 13 = .ok (.bipush 48, 2) := by decide +kernel
theorem d_Archive_isPathCharacter_15 : decode b_Archive_isPathCharacter 15 = .ok (.if_icmp .lt 9, 3) := by decide +kernel
theorem d_Archive_isPathCharacter_18 : decode b_Archive_isPathCharacter 18 = .ok (.iload_n 0, 1) := by decide +kernel
theorem d_Archive_isPathCharacter_19 : decode b_Archive_isPathCharacter 19 = .ok (.bipush 57, 2) := by decide +kernel
theorem d_Archive_isPathCharacter_21 : decode b_Archive_isPathCharacter 21 = .ok (.if_icmp .le 9, 3) := by decide +kernel
theorem d_Archive_isPathCharacter_24 : decode b_Archive_isPathCharacter 24 = .ok (.iload_n 0, 1) := by decide +kernel
theorem d_Archive_isPathCharacter_25 : decode b_Archive_isPathCharacter 25 = .ok (.bipush 46, 2) := by decide +kernel
theorem d_Archive_isPathCharacter_27 : decode b_Archive_isPathCharacter 27 = .ok (.if_icmp .ne 7, 3) := by decide +kernel
theorem d_Archive_isPathCharacter_30 : decode b_Archive_isPathCharacter 30 = .ok (.iconst 1, 1) := by decide +kernel
theorem d_Archive_isPathCharacter_31 : decode b_Archive_isPathCharacter 31 = .ok (.goto 4, 3) := by decide +kernel
theorem d_Archive_isPathCharacter_34 : decode b_Archive_isPathCharacter 34 = .ok (.iconst 0, 1) := by decide +kernel
theorem d_Archive_isPathCharacter_35 : decode b_Archive_isPathCharacter 35 = .ok (.ireturn, 1) := by decide +kernel
theorem d_Archive_isRightSegment_0 : decode b_Archive_isRightSegment 0 = .ok (.iload_n 2, 1) := by decide +kernel
theorem d_Archive_isRightSegment_1 : decode b_Archive_isRightSegment 1 = .ok (.iload_n 1, 1) := by decide +kernel
theorem d_Archive_isRightSegment_2 : decode b_Archive_isRightSegment 2 = .ok (.isub, 1) := by decide +kernel
theorem d_Archive_isRightSegment_3 : decode b_Archive_isRightSegment 3 = .ok (.istore_n 3, 1) := by decide +kernel
theorem d_Archive_isRightSegment_4 : decode b_Archive_isRightSegment 4 = .ok (.iload_n 3, 1) := by decide +kernel
theorem d_Archive_isRightSegment_5 : decode b_Archive_isRightSegment 5 = .ok (.ifCond .gt 5, 3) := by decide +kernel
theorem d_Archive_isRightSegment_8 : decode b_Archive_isRightSegment 8 = .ok (.iconst 0, 1) := by decide +kernel
theorem d_Archive_isRightSegment_9 : decode b_Archive_isRightSegment 9 = .ok (.ireturn, 1) := by decide +kernel
theorem d_Archive_isRightSegment_10 : decode b_Archive_isRightSegment 10 = .ok (.iload_n 3, 1) := by decide +kernel
theorem d_Archive_isRightSegment_11 : decode b_Archive_isRightSegment 11 = .ok (.iconst 2, 1) := by decide +kernel
theorem d_Archive_isRightSegment_12 : decode b_Archive_isRightSegment 12 = .ok (.if_icmp .gt 25, 3) := by decide +kernel
theorem d_Archive_isRightSegment_15 : decode b_Archive_isRightSegment 15 = .ok (.aload_n 0, 1) := by decide +kernel
theorem d_Archive_isRightSegment_16 : decode b_Archive_isRightSegment 16 = .ok (.iload_n 1, 1) := by decide +kernel
theorem d_Archive_isRightSegment_17 : decode b_Archive_isRightSegment 17 = .ok (.invokevirtual 24, 3) := by decide +kernel
theorem d_Archive_isRightSegment_20 : decode b_Archive_isRightSegment 20 = .ok (.bipush 46, 2) := by decide +kernel
theorem d_Archive_isRightSegment_22 : decode b_Archive_isRightSegment 22 = .ok (.if_icmp .ne 15, 3) := by decide +kernel
theorem d_Archive_isRightSegment_25 : decode b_Archive_isRightSegment 25 = .ok (.aload_n 0, 1) := by decide +kernel
theorem d_Archive_isRightSegment_26 : decode b_Archive_isRightSegment 26 = .ok (.iload_n 2, 1) := by decide +kernel
theorem d_Archive_isRightSegment_27 : decode b_Archive_isRightSegment 27 = .ok (.iconst 1, 1) := by decide +kernel
theorem d_Archive_isRightSegment_28 : decode b_Archive_isRightSegment 28 = .ok (.isub, 1) := by decide +kernel
theorem d_Archive_isRightSegment_29 : decode b_Archive_isRightSegment 29 = .ok (.invokevirtual 24, 3) := by decide +kernel
theorem d_Archive_isRightSegment_32 : decode b_Archive_isRightSegment 32 = .ok (.bipush 46, 2) := by decide +kernel
theorem d_Archive_isRightSegment_34 : decode b_Archive_isRightSegment 34 = .ok (.if_icmp .eq 7, 3) := by decide +kernel
theorem d_Archive_isRightSegment_37 : decode b_Archive_isRightSegment 37 = .ok (.iconst 1, 1) := by decide +kernel
theorem d_Archive_isRightSegment_38 : decode b_Archive_isRightSegment 38 = .ok (.goto 4, 3) := by decide +kernel
theorem d_Archive_isRightSegment_41 : decode b_Archive_isRightSegment 41 = .ok (.iconst 0, 1) := by decide +kernel
theorem d_Archive_isRightSegment_42 : decode b_Archive_isRightSegment 42 = .ok (.ireturn, 1) := by decide +kernel
theorem d_Archive_strippedStart_0 : decode b_Archive_strippedStart 0 = .ok (.iload_n 1, 1) := by decide +kernel
theorem d_Archive_strippedStart_1 : decode b_Archive_strippedStart 1 = .ok (.istore 4, 2) := by decide +kernel
theorem d_Archive_strippedStart_3 : decode b_Archive_strippedStart 3 = .ok (.iload_n 3, 1) := by decide +kernel
theorem d_Archive_strippedStart_4 : decode b_Archive_strippedStart 4 = .ok (.istore 5, 2) := by decide +kernel
theorem d_Archive_strippedStart_6 : decode b_Archive_strippedStart 6 = .ok (.iload_n 1, 1) := by decide +kernel
theorem d_Archive_strippedStart_7 : decode b_Archive_strippedStart 7 = .ok (.istore 6, 2) := by decide +kernel
theorem d_Archive_strippedStart_9 : decode b_Archive_strippedStart 9 = .ok (.iload 6, 2) := by decide +kernel
theorem d_Archive_strippedStart_11 : decode b_Archive_strippedStart 11 = .ok (.iload_n 2, 1) := by decide +kernel
theorem d_Archive_strippedStart_12 : decode b_Archive_strippedStart 12 = .ok (.if_icmp .ge 34, 3) := by decide +kernel
theorem d_Archive_strippedStart_15 : decode b_Archive_strippedStart 15 = .ok (.iload 5, 2) := by decide +kernel
theorem d_Archive_strippedStart_17 : decode b_Archive_strippedStart 17 = .ok (.ifCond .le 29, 3) := by decide +kernel
theorem d_Archive_strippedStart_20 : decode b_Archive_strippedStart 20 = .ok (.aload_n 0, 1) := by decide +kernel
theorem d_Archive_strippedStart_21 : decode b_Archive_strippedStart 21 = .ok (.iload 6, 2) := by decide +kernel
theorem d_Archive_strippedStart_23 : decode b_Archive_strippedStart 23 = .ok (.invokevirtual 24, 3) := by decide +kernel
theorem d_Archive_strippedStart_26 : decode b_Archive_strippedStart 26 = .ok (.bipush 47, 2) := by decide +kernel
theorem d_Archive_strippedStart_28 : decode b_Archive_strippedStart 28 = .ok (.if_icmp .ne 12, 3) := by decide +kernel
theorem d_Archive_strippedStart_31 : decode b_Archive_strippedStart 31 = .ok (.iload 6, 2) := by decide +kernel
theorem d_Archive_strippedStart_33 : decode b_Archive_strippedStart 33 = .ok (.iconst 1, 1) := by decide +kernel
theorem d_Archive_strippedStart_34 : decode b_Archive_strippedStart 34 = .ok (.iadd, 1) := by decide +kernel
theorem d_Archive_strippedStart_35 : decode b_Archive_strippedStart 35 = .ok (.istore 4, 2) := by decide +kernel
theorem d_Archive_strippedStart_37 : decode b_Archive_strippedStart 37 = .ok (.iinc 5 (-1), 3) := by decide +kernel
theorem d_Archive_strippedStart_40 : decode b_Archive_strippedStart 40 = .ok (.iinc 6 1, 3) := by decide +kernel
theorem d_Archive_strippedStart_43 : decode b_Archive_strippedStart 43 = .ok (.goto (-34), 3) := by decide +kernel
theorem d_Archive_strippedStart_46 : decode b_Archive_strippedStart 46 = .ok (.iload 5, 2) := by decide +kernel
theorem d_Archive_strippedStart_48 : decode b_Archive_strippedStart 48 = .ok (.ifCond .le 7, 3) := by decide +kernel
theorem d_Archive_strippedStart_51 : decode b_Archive_strippedStart 51 = .ok (.iload_n 2, 1) := by decide +kernel
theorem d_Archive_strippedStart_52 : decode b_Archive_strippedStart 52 = .ok (.goto 5, 3) := by decide +kernel
theorem d_Archive_strippedStart_55 : decode b_Archive_strippedStart 55 = .ok (.iload 4, 2) := by decide +kernel
theorem d_Archive_strippedStart_57 : decode b_Archive_strippedStart 57 = .ok (.ireturn, 1) := by decide +kernel
theorem d_Files_init_0 : decode b_Files_init 0 = .ok (.aload_n 0, 1) := by decide +kernel
theorem d_Files_init_1 : decode b_Files_init 1 = .ok (.invokespecial 3, 3) := by decide +kernel
theorem d_Files_init_4 : decode b_Files_init 4 = .ok (.aload_n 0, 1) := by decide +kernel
theorem d_Files_init_5 : decode b_Files_init 5 = .ok (.bipush 33, 2) := by decide +kernel
theorem d_Files_init_7 : decode b_Files_init 7 = .ok (.newarray .int, 2) := by decide +kernel
theorem d_Files_init_9 : decode b_Files_init 9 = .ok (.putfield 9, 3) := by decide +kernel
theorem d_Files_init_12 : decode b_Files_init 12 = .ok (.aload_n 0, 1) := by decide +kernel
theorem d_Files_init_13 : decode b_Files_init 13 = .ok (.bipush 33, 2) := by decide +kernel
theorem d_Files_init_15 : decode b_Files_init 15 = .ok (.newarray .int, 2) := by decide +kernel
theorem d_Files_init_17 : decode b_Files_init 17 = .ok (.putfield 15, 3) := by decide +kernel
theorem d_Files_init_20 : decode b_Files_init 20 = .ok (.aload_n 0, 1) := by decide +kernel
theorem d_Files_init_21 : decode b_Files_init 21 = .ok (.bipush 33, 2) := by decide +kernel
theorem d_Files_init_23 : decode b_Files_init 23 = .ok (.newarray .int, 2) := by decide +kernel
theorem d_Files_init_25 : decode b_Files_init 25 = .ok (.putfield 18, 3) := by decide +kernel
theorem d_Files_init_28 : decode b_Files_init 28 = .ok (.aload_n 0, 1) := by decide +kernel
theorem d_Files_init_29 : decode b_Files_init 29 = .ok (.bipush 33, 2) := by decide +kernel
theorem d_Files_init_31 : decode b_Files_init 31 = .ok (.newarray .int, 2) := by decide +kernel
theorem d_Files_init_33 : decode b_Files_init 33 = .ok (.putfield 21, 3) := by decide +kernel
theorem d_Files_init_36 : decode b_Files_init 36 = .ok (.aload_n 0, 1) := by decide +kernel
theorem d_Files_init_37 : decode b_Files_init 37 = .ok (.iconst 0, 1) := by decide +kernel
theorem d_Files_init_38 : decode b_Files_init 38 = .ok (.putfield 24, 3) := by decide +kernel
theorem d_Files_init_41 : decode b_Files_init 41 = .ok (.return_, 1) := by decide +kernel
theorem d_Files_has_0 : decode b_Files_has 0 = .ok (.iload_n 1, 1) := by decide +kernel
theorem d_Files_has_1 : decode b_Files_has 1 = .ok (.ifCond .lt 15, 3) := by decide +kernel
theorem d_Files_has_4 : decode b_Files_has 4 = .ok (.iload_n 1, 1) := by decide +kernel
theorem d_Files_has_5 : decode b_Files_has 5 = .ok (.aload_n 0, 1) := by decide +kernel
theorem d_Files_has_6 : decode b_Files_has 6 = .ok (.getfield 24, 3) := by decide +kernel
theorem d_Files_has_9 : decode b_Files_has 9 = .ok (.if_icmp .ge 7, 3) := by decide +kernel
theorem d_Files_has_12 : decode b_Files_has 12 = .ok (.iconst 1, 1) := by decide +kernel
theorem d_Files_has_13 : decode b_Files_has 13 = .ok (.goto 4, 3) := by decide +kernel
theorem d_Files_has_16 : decode b_Files_has 16 = .ok (.iconst 0, 1) := by decide +kernel
theorem d_Files_has_17 : decode b_Files_has 17 = .ok (.ireturn, 1) := by decide +kernel
theorem d_Files_fill_0 : decode b_Files_fill 0 = .ok (.aload_n 0, 1) := by decide +kernel
theorem d_Files_fill_1 : decode b_Files_fill 1 = .ok (.iconst 0, 1) := by decide +kernel
theorem d_Files_fill_2 : decode b_Files_fill 2 = .ok (.putfield 24, 3) := by decide +kernel
theorem d_Files_fill_5 : decode b_Files_fill 5 = .ok (.iconst 0, 1) := by decide +kernel
theorem d_Files_fill_6 : decode b_Files_fill 6 = .ok (.istore_n 3, 1) := by decide +kernel
theorem d_Files_fill_7 : decode b_Files_fill 7 = .ok (.iconst 0, 1) := by decide +kernel
theorem d_Files_fill_8 : decode b_Files_fill 8 = .ok (.istore 4, 2) := by decide +kernel
theorem d_Files_fill_10 : decode b_Files_fill 10 = .ok (.iload 4, 2) := by decide +kernel
theorem d_Files_fill_12 : decode b_Files_fill 12 = .ok (.bipush 33, 2) := by decide +kernel
theorem d_Files_fill_14 : decode b_Files_fill 14 = .ok (.if_icmp .ge 58, 3) := by decide +kernel
theorem d_Files_fill_17 : decode b_Files_fill 17 = .ok (.iload_n 3, 1) := by decide +kernel
theorem d_Files_fill_18 : decode b_Files_fill 18 = .ok (.aload_n 1, 1) := by decide +kernel
theorem d_Files_fill_19 : decode b_Files_fill 19 = .ok (.getfield 28, 3) := by decide +kernel
theorem d_Files_fill_22 : decode b_Files_fill 22 = .ok (.if_icmp .ge 50, 3) := by decide +kernel
theorem d_Files_fill_25 : decode b_Files_fill 25 = .ok (.aload_n 1, 1) := by decide +kernel
theorem d_Files_fill_26 : decode b_Files_fill 26 = .ok (.iload_n 3, 1) := by decide +kernel
theorem d_Files_fill_27 : decode b_Files_fill 27 = .ok (.invokestatic 33, 3) := by decide +kernel
theorem d_Files_fill_30 : decode b_Files_fill 30 = .ok (.istore 5, 2) := by decide +kernel
theorem d_Files_fill_32 : decode b_Files_fill 32 = .ok (.aload_n 1, 1) := by decide +kernel
theorem d_Files_fill_33 : decode b_Files_fill 33 = .ok (.iload_n 3, 1) := by decide +kernel
theorem d_Files_fill_34 : decode b_Files_fill 34 = .ok (.iconst 1, 1) := by decide +kernel
theorem d_Files_fill_35 : decode b_Files_fill 35 = .ok (.iadd, 1) := by decide +kernel
theorem d_Files_fill_36 : decode b_Files_fill 36 = .ok (.iload 5, 2) := by decide +kernel
theorem d_Files_fill_38 : decode b_Files_fill 38 = .ok (.iload_n 2, 1) := by decide +kernel
theorem d_Files_fill_39 : decode b_Files_fill 39 = .ok (.invokestatic 39, 3) := by decide +kernel
theorem d_Files_fill_42 : decode b_Files_fill 42 = .ok (.istore 6, 2) := by decide +kernel
theorem d_Files_fill_44 : decode b_Files_fill 44 = .ok (.iload 6, 2) := by decide +kernel
theorem d_Files_fill_46 : decode b_Files_fill 46 = .ok (.iload 5, 2) := by decide +kernel
theorem d_Files_fill_48 : decode b_Files_fill 48 = .ok (.if_icmp .ge 12, 3) := by decide +kernel
theorem d_Files_fill_51 : decode b_Files_fill 51 = .ok (.aload_n 0, 1) := by decide +kernel
theorem d_Files_fill_52 : decode b_Files_fill 52 = .ok (.aload_n 1, 1) := by decide +kernel
theorem d_Files_fill_53 : decode b_Files_fill 53 = .ok (.iload 6, 2) := by decide +kernel
theorem d_Files_fill_55 : decode b_Files_fill 55 = .ok (.iload 5, 2) := by decide +kernel
theorem d_Files_fill_57 : decode b_Files_fill 57 = .ok (.invokevirtual 43, 3) := by decide +kernel
theorem d_Files_fill_60 : decode b_Files_fill 60 = .ok (.aload_n 1, 1) := by decide +kernel
theorem d_Files_fill_61 : decode b_Files_fill 61 = .ok (.iload_n 3, 1) := by decide +kernel
theorem d_Files_fill_62 : decode b_Files_fill 62 = .ok (.invokestatic 47, 3) := by decide +kernel
theorem d_Files_fill_65 : decode b_Files_fill 65 = .ok (.istore_n 3, 1) := by decide +kernel
theorem d_Files_fill_66 : decode b_Files_fill 66 = .ok (.iinc 4 1, 3) := by decide +kernel
theorem d_Files_fill_69 : decode b_Files_fill 69 = .ok (.goto (-59), 3) := by decide +kernel
theorem d_Files_fill_72 : decode b_Files_fill 72 = .ok (.return_, 1) := by decide +kernel
theorem d_Files_put_0 : decode b_Files_put 0 = .ok (.iload_n 3, 1) := by decide +kernel
theorem d_Files_put_1 : decode b_Files_put 1 = .ok (.iload_n 2, 1) := by decide +kernel
theorem d_Files_put_2 : decode b_Files_put 2 = .ok (.isub, 1) := by decide +kernel
theorem d_Files_put_3 : decode b_Files_put 3 = .ok (.istore 4, 2) := by decide +kernel
theorem d_Files_put_5 : decode b_Files_put 5 = .ok (.aload_n 0, 1) := by decide +kernel
theorem d_Files_put_6 : decode b_Files_put 6 = .ok (.aload_n 1, 1) := by decide +kernel
theorem d_Files_put_7 : decode b_Files_put 7 = .ok (.iload_n 2, 1) := by decide +kernel
theorem d_Files_put_8 : decode b_Files_put 8 = .ok (.iload 4, 2) := by decide +kernel
theorem d_Files_put_10 : decode b_Files_put 10 = .ok (.invokevirtual 50, 3) := by decide +kernel
theorem d_Files_put_13 : decode b_Files_put 13 = .ok (.istore 5, 2) := by decide +kernel
theorem d_Files_put_15 : decode b_Files_put 15 = .ok (.iload 5, 2) := by decide +kernel
theorem d_Files_put_17 : decode b_Files_put 17 = .ok (.bipush 33, 2) := by decide +kernel
theorem d_Files_put_19 : decode b_Files_put 19 = .ok (.if_icmp .lt 4, 3) := by decide +kernel
theorem d_Files_put_22 : decode b_Files_put 22 = .ok (.return_, 1) := by decide +kernel
theorem d_Files_put_23 : decode b_Files_put 23 = .ok (.iload 5, 2) := by decide +kernel
theorem d_Files_put_25 : decode b_Files_put 25 = .ok (.aload_n 0, 1) := by decide +kernel
theorem d_Files_put_26 : decode b_Files_put 26 = .ok (.getfield 24, 3) := by decide +kernel
theorem d_Files_put_29 : decode b_Files_put 29 = .ok (.if_icmp .ne 30, 3) := by decide +kernel
theorem d_Files_put_32 : decode b_Files_put 32 = .ok (.aload_n 0, 1) := by decide +kernel
theorem d_Files_put_33 : decode b_Files_put 33 = .ok (.getfield 18, 3) := by decide +kernel
theorem d_Files_put_36 : decode b_Files_put 36 = .ok (.iload 5, 2) := by decide +kernel
theorem d_Files_put_38 : decode b_Files_put 38 = .ok (.iload_n 2, 1) := by decide +kernel
theorem d_Files_put_39 : decode b_Files_put 39 = .ok (.iastore, 1) := by decide +kernel
theorem d_Files_put_40 : decode b_Files_put 40 = .ok (.aload_n 0, 1) := by decide +kernel
theorem d_Files_put_41 : decode b_Files_put 41 = .ok (.getfield 21, 3) := by decide +kernel
theorem d_Files_put_44 : decode b_Files_put 44 = .ok (.iload 5, 2) := by decide +kernel
theorem d_Files_put_46 : decode b_Files_put 46 = .ok (.iload 4, 2) := by decide +kernel
theorem d_Files_put_48 : decode b_Files_put 48 = .ok (.iastore, 1) := by decide +kernel
theorem d_Files_put_49 : decode b_Files_put 49 = .ok (.aload_n 0, 1) := by decide +kernel
theorem d_Files_put_50 : decode b_Files_put 50 = .ok (.dup, 1) := by decide +kernel
theorem d_Files_put_51 : decode b_Files_put 51 = .ok (.getfield 24, 3) := by decide +kernel
theorem d_Files_put_54 : decode b_Files_put 54 = .ok (.iconst 1, 1) := by decide +kernel
theorem d_Files_put_55 : decode b_Files_put 55 = .ok (.iadd, 1) := by decide +kernel
theorem d_Files_put_56 : decode b_Files_put 56 = .ok (.putfield 24, 3) := by decide +kernel
theorem d_Files_put_59 : decode b_Files_put 59 = .ok (.aload_n 0, 1) := by decide +kernel
theorem d_Files_put_60 : decode b_Files_put 60 = .ok (.getfield 9, 3) := by decide +kernel
theorem d_Files_put_63 : decode b_Files_put 63 = .ok (.iload 5, 2) := by decide +kernel
theorem d_Files_put_65 : decode b_Files_put 65 = .ok (.iload_n 3, 1) := by decide +kernel
theorem d_Files_put_66 : decode b_Files_put 66 = .ok (.iconst 1, 1) := by decide +kernel
theorem d_Files_put_67 : decode b_Files_put 67 = .ok (.iadd, 1) := by decide +kernel
theorem d_Files_put_68 : decode b_Files_put 68 = .ok (.iastore, 1) := by decide +kernel
theorem d_Files_put_69 : decode b_Files_put 69 = .ok (.aload_n 0, 1) := by decide +kernel
theorem d_Files_put_70 : decode b_Files_put 70 = .ok (.getfield 15, 3) := by decide +kernel
theorem d_Files_put_73 : decode b_Files_put 73 = .ok (.iload 5, 2) := by decide +kernel
theorem d_Files_put_75 : decode b_Files_put 75 = .ok (.aload_n 1, 1) := by decide +kernel
theorem d_Files_put_76 : decode b_Files_put 76 = .ok (.iload_n 3, 1) := by decide +kernel
theorem d_Files_put_77 : decode b_Files_put 77 = .ok (.invokevirtual 54, 3) := by decide +kernel
theorem d_Files_put_80 : decode b_Files_put 80 = .ok (.iastore, 1) := by decide +kernel
theorem d_Files_put_81 : decode b_Files_put 81 = .ok (.return_, 1) := by decide +kernel
theorem d_Files_findPath_0 : decode b_Files_findPath 0 = .ok (.iconst 0, 1) := by decide +kernel
theorem d_Files_findPath_1 : decode b_Files_findPath 1 = .ok (.istore 4, 2) := by decide +kernel
theorem d_Files_findPath_3 : decode b_Files_findPath 3 = .ok (.iload 4, 2) := by decide +kernel
theorem d_Files_findPath_5 : decode b_Files_findPath 5 = .ok (.aload_n 0, 1) := by decide +kernel
theorem d_Files_findPath_6 : decode b_Files_findPath 6 = .ok (.getfield 24, 3) := by decide +kernel
theorem d_Files_findPath_9 : decode b_Files_findPath 9 = .ok (.if_icmp .ge 39, 3) := by decide +kernel
theorem d_Files_findPath_12 : decode b_Files_findPath 12 = .ok (.aload_n 0, 1) := by decide +kernel
theorem d_Files_findPath_13 : decode b_Files_findPath 13 = .ok (.getfield 21, 3) := by decide +kernel
theorem d_Files_findPath_16 : decode b_Files_findPath 16 = .ok (.iload 4, 2) := by decide +kernel
theorem d_Files_findPath_18 : decode b_Files_findPath 18 = .ok (.iaload, 1) := by decide +kernel
theorem d_Files_findPath_19 : decode b_Files_findPath 19 = .ok (.iload_n 3, 1) := by decide +kernel
theorem d_Files_findPath_20 : decode b_Files_findPath 20 = .ok (.if_icmp .ne 22, 3) := by decide +kernel
theorem d_Files_findPath_23 : decode b_Files_findPath 23 = .ok (.aload_n 1, 1) := by decide +kernel
theorem d_Files_findPath_24 : decode b_Files_findPath 24 = .ok (.aload_n 0, 1) := by decide +kernel
theorem d_Files_findPath_25 : decode b_Files_findPath 25 = .ok (.getfield 18, 3) := by decide +kernel
theorem d_Files_findPath_28 : decode b_Files_findPath 28 = .ok (.iload 4, 2) := by decide +kernel
theorem d_Files_findPath_30 : decode b_Files_findPath 30 = .ok (.iaload, 1) := by decide +kernel
theorem d_Files_findPath_31 : decode b_Files_findPath 31 = .ok (.iload_n 2, 1) := by decide +kernel
theorem d_Files_findPath_32 : decode b_Files_findPath 32 = .ok (.iload_n 3, 1) := by decide +kernel
theorem d_Files_findPath_33 : decode b_Files_findPath 33 = .ok (.invokevirtual 58, 3) := by decide +kernel
theorem d_Files_findPath_36 : decode b_Files_findPath 36 = .ok (.ifCond .eq 6, 3) := by decide +kernel
theorem d_Files_findPath_39 : decode b_Files_findPath 39 = .ok (.iload 4, 2) := by decide +kernel
theorem d_Files_findPath_41 : decode b_Files_findPath 41 = .ok (.ireturn, 1) := by decide +kernel
theorem d_Files_findPath_42 : decode b_Files_findPath 42 = .ok (.iinc 4 1, 3) := by decide +kernel
theorem d_Files_findPath_45 : decode b_Files_findPath 45 = .ok (.goto (-42), 3) := by decide +kernel
theorem d_Files_findPath_48 : decode b_Files_findPath 48 = .ok (.aload_n 0, 1) := by decide +kernel
theorem d_Files_findPath_49 : decode b_Files_findPath 49 = .ok (.getfield 24, 3) := by decide +kernel
theorem d_Files_findPath_52 : decode b_Files_findPath 52 = .ok (.ireturn, 1) := by decide +kernel
theorem d_Place_init_0 : decode b_Place_init 0 = .ok (.aload_n 0, 1) := by decide +kernel
theorem d_Place_init_1 : decode b_Place_init 1 = .ok (.invokespecial 3, 3) := by decide +kernel
theorem d_Place_init_4 : decode b_Place_init 4 = .ok (.aload_n 0, 1) := by decide +kernel
theorem d_Place_init_5 : decode b_Place_init 5 = .ok (.new 9, 3) := by decide +kernel
theorem d_Place_init_8 : decode b_Place_init 8 = .ok (.dup, 1) := by decide +kernel
theorem d_Place_init_9 : decode b_Place_init 9 = .ok (.invokespecial 11, 3) := by decide +kernel
theorem d_Place_init_12 : decode b_Place_init 12 = .ok (.putfield 12, 3) := by decide +kernel
theorem d_Place_init_15 : decode b_Place_init 15 = .ok (.aload_n 0, 1) := by decide +kernel
theorem d_Place_init_16 : decode b_Place_init 16 = .ok (.iconst 0, 1) := by decide +kernel
theorem d_Place_init_17 : decode b_Place_init 17 = .ok (.putfield 18, 3) := by decide +kernel
theorem d_Place_init_20 : decode b_Place_init 20 = .ok (.aload_n 0, 1) := by decide +kernel
theorem d_Place_init_21 : decode b_Place_init 21 = .ok (.iconst 1, 1) := by decide +kernel
theorem d_Place_init_22 : decode b_Place_init 22 = .ok (.putfield 22, 3) := by decide +kernel
theorem d_Place_init_25 : decode b_Place_init 25 = .ok (.aload_n 0, 1) := by decide +kernel
theorem d_Place_init_26 : decode b_Place_init 26 = .ok (.iconst (-1), 1) := by decide +kernel
theorem d_Place_init_27 : decode b_Place_init 27 = .ok (.putfield 25, 3) := by decide +kernel
theorem d_Place_init_30 : decode b_Place_init 30 = .ok (.aload_n 0, 1) := by decide +kernel
theorem d_Place_init_31 : decode b_Place_init 31 = .ok (.iconst 0, 1) := by decide +kernel
theorem d_Place_init_32 : decode b_Place_init 32 = .ok (.putfield 28, 3) := by decide +kernel
theorem d_Place_init_35 : decode b_Place_init 35 = .ok (.aload_n 0, 1) := by decide +kernel
theorem d_Place_init_36 : decode b_Place_init 36 = .ok (.iconst 0, 1) := by decide +kernel
theorem d_Place_init_37 : decode b_Place_init 37 = .ok (.putfield 31, 3) := by decide +kernel
theorem d_Place_init_40 : decode b_Place_init 40 = .ok (.aload_n 0, 1) := by decide +kernel
theorem d_Place_init_41 : decode b_Place_init 41 = .ok (.iconst 0, 1) := by decide +kernel
theorem d_Place_init_42 : decode b_Place_init 42 = .ok (.putfield 34, 3) := by decide +kernel
theorem d_Place_init_45 : decode b_Place_init 45 = .ok (.aload_n 0, 1) := by decide +kernel
theorem d_Place_init_46 : decode b_Place_init 46 = .ok (.iconst 0, 1) := by decide +kernel
theorem d_Place_init_47 : decode b_Place_init 47 = .ok (.putfield 38, 3) := by decide +kernel
theorem d_Place_init_50 : decode b_Place_init 50 = .ok (.aload_n 0, 1) := by decide +kernel
theorem d_Place_init_51 : decode b_Place_init 51 = .ok (.iconst 0, 1) := by decide +kernel
theorem d_Place_init_52 : decode b_Place_init 52 = .ok (.putfield 41, 3) := by decide +kernel
theorem d_Place_init_55 : decode b_Place_init 55 = .ok (.aload_n 0, 1) := by decide +kernel
theorem d_Place_init_56 : decode b_Place_init 56 = .ok (.iconst 0, 1) := by decide +kernel
theorem d_Place_init_57 : decode b_Place_init 57 = .ok (.putfield 44, 3) := by decide +kernel
theorem d_Place_init_60 : decode b_Place_init 60 = .ok (.return_, 1) := by decide +kernel
theorem d_Place_leadsOn_0 : decode b_Place_leadsOn 0 = .ok (.aload_n 0, 1) := by decide +kernel
theorem d_Place_leadsOn_1 : decode b_Place_leadsOn 1 = .ok (.getfield 34, 3) := by decide +kernel
theorem d_Place_leadsOn_4 : decode b_Place_leadsOn 4 = .ok (.ifCond .ne 15, 3) := by decide +kernel
theorem d_Place_leadsOn_7 : decode b_Place_leadsOn 7 = .ok (.aload_n 0, 1) := by decide +kernel
theorem d_Place_leadsOn_8 : decode b_Place_leadsOn 8 = .ok (.getfield 25, 3) := by decide +kernel
theorem d_Place_leadsOn_11 : decode b_Place_leadsOn 11 = .ok (.iconst (-1), 1) := by decide +kernel
theorem d_Place_leadsOn_12 : decode b_Place_leadsOn 12 = .ok (.if_icmp .eq 7, 3) := by decide +kernel
theorem d_Place_leadsOn_15 : decode b_Place_leadsOn 15 = .ok (.iconst 1, 1) := by decide +kernel
theorem d_Place_leadsOn_16 : decode b_Place_leadsOn 16 = .ok (.goto 4, 3) := by decide +kernel
theorem d_Place_leadsOn_19 : decode b_Place_leadsOn 19 = .ok (.iconst 0, 1) := by decide +kernel
theorem d_Place_leadsOn_20 : decode b_Place_leadsOn 20 = .ok (.ireturn, 1) := by decide +kernel
theorem d_Place_gives_0 : decode b_Place_gives 0 = .ok (.aload_n 0, 1) := by decide +kernel
theorem d_Place_gives_1 : decode b_Place_gives 1 = .ok (.getfield 34, 3) := by decide +kernel
theorem d_Place_gives_4 : decode b_Place_gives 4 = .ok (.ifCond .ne 26, 3) := by decide +kernel
theorem d_Place_gives_7 : decode b_Place_gives 7 = .ok (.aload_n 0, 1) := by decide +kernel
theorem d_Place_gives_8 : decode b_Place_gives 8 = .ok (.getfield 25, 3) := by decide +kernel
theorem d_Place_gives_11 : decode b_Place_gives 11 = .ok (.iconst (-1), 1) := by decide +kernel
theorem d_Place_gives_12 : decode b_Place_gives 12 = .ok (.if_icmp .ne 18, 3) := by decide +kernel
theorem d_Place_gives_15 : decode b_Place_gives 15 = .ok (.iload_n 1, 1) := by decide +kernel
theorem d_Place_gives_16 : decode b_Place_gives 16 = .ok (.ifCond .ne 10, 3) := by decide +kernel
theorem d_Place_gives_19 : decode b_Place_gives 19 = .ok (.aload_n 0, 1) := by decide +kernel
theorem d_Place_gives_20 : decode b_Place_gives 20 = .ok (.getfield 38, 3) := by decide +kernel
theorem d_Place_gives_23 : decode b_Place_gives 23 = .ok (.ifCond .ne 7, 3) := by decide +kernel
theorem d_Place_gives_26 : decode b_Place_gives 26 = .ok (.iconst 1, 1) := by decide +kernel
theorem d_Place_gives_27 : decode b_Place_gives 27 = .ok (.goto 4, 3) := by decide +kernel
theorem d_Place_gives_30 : decode b_Place_gives 30 = .ok (.iconst 0, 1) := by decide +kernel
theorem d_Place_gives_31 : decode b_Place_gives 31 = .ok (.ireturn, 1) := by decide +kernel
theorem d_Place_giveTo_0 : decode b_Place_giveTo 0 = .ok (.aload_n 0, 1) := by decide +kernel
theorem d_Place_giveTo_1 : decode b_Place_giveTo 1 = .ok (.getfield 28, 3) := by decide +kernel
theorem d_Place_giveTo_4 : decode b_Place_giveTo 4 = .ok (.ifCond .le 7, 3) := by decide +kernel
theorem d_Place_giveTo_7 : decode b_Place_giveTo 7 = .ok (.iconst 1, 1) := by decide +kernel
theorem d_Place_giveTo_8 : decode b_Place_giveTo 8 = .ok (.goto 4, 3) := by decide +kernel
theorem d_Place_giveTo_11 : decode b_Place_giveTo 11 = .ok (.iconst 0, 1) := by decide +kernel
theorem d_Place_giveTo_12 : decode b_Place_giveTo 12 = .ok (.istore_n 2, 1) := by decide +kernel
theorem d_Place_giveTo_13 : decode b_Place_giveTo 13 = .ok (.aload_n 0, 1) := by decide +kernel
theorem d_Place_giveTo_14 : decode b_Place_giveTo 14 = .ok (.getfield 22, 3) := by decide +kernel
theorem d_Place_giveTo_17 : decode b_Place_giveTo 17 = .ok (.istore_n 3, 1) := by decide +kernel
theorem d_Place_giveTo_18 : decode b_Place_giveTo 18 = .ok (.iload_n 2, 1) := by decide +kernel
theorem d_Place_giveTo_19 : decode b_Place_giveTo 19 = .ok (.ifCond .eq 22, 3) := by decide +kernel
theorem d_Place_giveTo_22 : decode b_Place_giveTo 22 = .ok (.aload_n 0, 1) := by decide +kernel
theorem d_Place_giveTo_23 : decode b_Place_giveTo 23 = .ok (.dup, 1) := by decide +kernel
theorem d_Place_giveTo_24 : decode b_Place_giveTo 24 = .ok (.getfield 28, 3) := by decide +kernel
theorem d_Place_giveTo_27 : decode b_Place_giveTo 27 = .ok (.iconst 1, 1) := by decide +kernel
theorem d_Place_giveTo_28 : decode b_Place_giveTo 28 = .ok (.isub, 1) := by decide +kernel
theorem d_Place_giveTo_29 : decode b_Place_giveTo 29 = .ok (.putfield 28, 3) := by decide +kernel
theorem d_Place_giveTo_32 : decode b_Place_giveTo 32 = .ok (.iload_n 3, 1) := by decide +kernel
theorem d_Place_giveTo_33 : decode b_Place_giveTo 33 = .ok (.aload_n 0, 1) := by decide +kernel
theorem d_Place_giveTo_34 : decode b_Place_giveTo 34 = .ok (.getfield 31, 3) := by decide +kernel
theorem d_Place_giveTo_37 : decode b_Place_giveTo 37 = .ok (.invokestatic 47, 3) := by decide +kernel
theorem d_Place_giveTo_40 : decode b_Place_giveTo 40 = .ok (.istore_n 3, 1) := by decide +kernel
theorem d_Place_giveTo_41 : decode b_Place_giveTo 41 = .ok (.aload_n 0, 1) := by decide +kernel
theorem d_Place_giveTo_42 : decode b_Place_giveTo 42 = .ok (.getfield 12, 3) := by decide +kernel
theorem d_Place_giveTo_45 : decode b_Place_giveTo 45 = .ok (.getfield 53, 3) := by decide +kernel
theorem d_Place_giveTo_48 : decode b_Place_giveTo 48 = .ok (.aload_n 1, 1) := by decide +kernel
theorem d_Place_giveTo_49 : decode b_Place_giveTo 49 = .ok (.getfield 53, 3) := by decide +kernel
theorem d_Place_giveTo_52 : decode b_Place_giveTo 52 = .ok (.iload_n 3, 1) := by decide +kernel
theorem d_Place_giveTo_53 : decode b_Place_giveTo 53 = .ok (.iadd, 1) := by decide +kernel
theorem d_Place_giveTo_54 : decode b_Place_giveTo 54 = .ok (.invokestatic 47, 3) := by decide +kernel
theorem d_Place_giveTo_57 : decode b_Place_giveTo 57 = .ok (.istore 4, 2) := by decide +kernel
theorem d_Place_giveTo_59 : decode b_Place_giveTo 59 = .ok (.aload_n 1, 1) := by decide +kernel
theorem d_Place_giveTo_60 : decode b_Place_giveTo 60 = .ok (.getfield 53, 3) := by decide +kernel
theorem d_Place_giveTo_63 : decode b_Place_giveTo 63 = .ok (.istore 5, 2) := by decide +kernel
theorem d_Place_giveTo_65 : decode b_Place_giveTo 65 = .ok (.iload 5, 2) := by decide +kernel
theorem d_Place_giveTo_67 : decode b_Place_giveTo 67 = .ok (.iload 4, 2) := by decide +kernel
theorem d_Place_giveTo_69 : decode b_Place_giveTo 69 = .ok (.if_icmp .ge 19, 3) := by decide +kernel
theorem d_Place_giveTo_72 : decode b_Place_giveTo 72 = .ok (.aload_n 1, 1) := by decide +kernel
theorem d_Place_giveTo_73 : decode b_Place_giveTo 73 = .ok (.aload_n 0, 1) := by decide +kernel
theorem d_Place_giveTo_74 : decode b_Place_giveTo 74 = .ok (.iload 5, 2) := by decide +kernel
theorem d_Place_giveTo_76 : decode b_Place_giveTo 76 = .ok (.invokevirtual 56, 3) := by decide +kernel
theorem d_Place_giveTo_79 : decode b_Place_giveTo 79 = .ok (.invokevirtual 60, 3) := by decide +kernel
theorem d_Place_giveTo_82 : decode b_Place_giveTo 82 = .ok (.iinc 5 1, 3) := by decide +kernel
theorem d_Place_giveTo_85 : decode b_Place_giveTo 85 = .ok (.goto (-20), 3) := by decide +kernel
theorem d_Place_giveTo_88 : decode b_Place_giveTo 88 = .ok (.iload_n 2, 1) := by decide +kernel
theorem d_Place_giveTo_89 : decode b_Place_giveTo 89 = .ok (.ireturn, 1) := by decide +kernel
theorem d_Place_givenByte_0 : decode b_Place_givenByte 0 = .ok (.iload_n 1, 1) := by decide +kernel
theorem d_Place_givenByte_1 : decode b_Place_givenByte 1 = .ok (.ifCond .ne 23, 3) := by decide +kernel
theorem d_Place_givenByte_4 : decode b_Place_givenByte 4 = .ok (.aload_n 0, 1) := by decide +kernel
theorem d_Place_givenByte_5 : decode b_Place_givenByte 5 = .ok (.getfield 41, 3) := by decide +kernel
theorem d_Place_givenByte_8 : decode b_Place_givenByte 8 = .ok (.ifCond .eq 16, 3) := by decide +kernel
theorem d_Place_givenByte_11 : decode b_Place_givenByte 11 = .ok (.aload_n 0, 1) := by decide +kernel
theorem d_Place_givenByte_12 : decode b_Place_givenByte 12 = .ok (.getfield 12, 3) := by decide +kernel
theorem d_Place_givenByte_15 : decode b_Place_givenByte 15 = .ok (.iload_n 1, 1) := by decide +kernel
theorem d_Place_givenByte_16 : decode b_Place_givenByte 16 = .ok (.invokevirtual 64, 3) := by decide +kernel
theorem d_Place_givenByte_19 : decode b_Place_givenByte 19 = .ok (.iconst 1, 1) := by decide +kernel
theorem d_Place_givenByte_20 : decode b_Place_givenByte 20 = .ok (.ixor, 1) := by decide +kernel
theorem d_Place_givenByte_21 : decode b_Place_givenByte 21 = .ok (.goto 11, 3) := by decide +kernel
theorem d_Place_givenByte_24 : decode b_Place_givenByte 24 = .ok (.aload_n 0, 1) := by decide +kernel
theorem d_Place_givenByte_25 : decode b_Place_givenByte 25 = .ok (.getfield 12, 3) := by decide +kernel
theorem d_Place_givenByte_28 : decode b_Place_givenByte 28 = .ok (.iload_n 1, 1) := by decide +kernel
theorem d_Place_givenByte_29 : decode b_Place_givenByte 29 = .ok (.invokevirtual 64, 3) := by decide +kernel
theorem d_Place_givenByte_32 : decode b_Place_givenByte 32 = .ok (.ireturn, 1) := by decide +kernel
theorem d_Row_init_0 : decode b_Row_init 0 = .ok (.aload_n 0, 1) := by decide +kernel
theorem d_Row_init_1 : decode b_Row_init 1 = .ok (.invokespecial 3, 3) := by decide +kernel
theorem d_Row_init_4 : decode b_Row_init 4 = .ok (.aload_n 0, 1) := by decide +kernel
theorem d_Row_init_5 : decode b_Row_init 5 = .ok (.bipush 100, 2) := by decide +kernel
theorem d_Row_init_7 : decode b_Row_init 7 = .ok (.newarray .int, 2) := by decide +kernel
theorem d_Row_init_9 : decode b_Row_init 9 = .ok (.putfield 9, 3) := by decide +kernel
theorem d_Row_init_12 : decode b_Row_init 12 = .ok (.aload_n 0, 1) := by decide +kernel
theorem d_Row_init_13 : decode b_Row_init 13 = .ok (.iconst 0, 1) := by decide +kernel
theorem d_Row_init_14 : decode b_Row_init 14 = .ok (.putfield 15, 3) := by decide +kernel
theorem d_Row_init_17 : decode b_Row_init 17 = .ok (.return_, 1) := by decide +kernel
theorem d_Row_at_0 : decode b_Row_at 0 = .ok (.iload_n 1, 1) := by decide +kernel
theorem d_Row_at_1 : decode b_Row_at 1 = .ok (.ifCond .lt 20, 3) := by decide +kernel
theorem d_Row_at_4 : decode b_Row_at 4 = .ok (.iload_n 1, 1) := by decide +kernel
theorem d_Row_at_5 : decode b_Row_at 5 = .ok (.aload_n 0, 1) := by decide +kernel
theorem d_Row_at_6 : decode b_Row_at 6 = .ok (.getfield 15, 3) := by decide +kernel
theorem d_Row_at_9 : decode b_Row_at 9 = .ok (.if_icmp .ge 12, 3) := by decide +kernel
theorem d_Row_at_12 : decode b_Row_at 12 = .ok (.aload_n 0, 1) := by decide +kernel
theorem d_Row_at_13 : decode b_Row_at 13 = .ok (.getfield 9, 3) := by decide +kernel
theorem d_Row_at_16 : decode b_Row_at 16 = .ok (.iload_n 1, 1) := by decide +kernel
theorem d_Row_at_17 : decode b_Row_at 17 = .ok (.iaload, 1) := by decide +kernel
theorem d_Row_at_18 : decode b_Row_at 18 = .ok (.goto 4, 3) := by decide +kernel
theorem d_Row_at_21 : decode b_Row_at 21 = .ok (.iconst (-1), 1) := by decide +kernel
theorem d_Row_at_22 : decode b_Row_at 22 = .ok (.ireturn, 1) := by decide +kernel
theorem d_Row_append_0 : decode b_Row_append 0 = .ok (.aload_n 0, 1) := by decide +kernel
theorem d_Row_append_1 : decode b_Row_append 1 = .ok (.getfield 15, 3) := by decide +kernel
theorem d_Row_append_4 : decode b_Row_append 4 = .ok (.bipush 100, 2) := by decide +kernel
theorem d_Row_append_6 : decode b_Row_append 6 = .ok (.if_icmp .ge 20, 3) := by decide +kernel
theorem d_Row_append_9 : decode b_Row_append 9 = .ok (.aload_n 0, 1) := by decide +kernel
theorem d_Row_append_10 : decode b_Row_append 10 = .ok (.getfield 9, 3) := by decide +kernel
theorem d_Row_append_13 : decode b_Row_append 13 = .ok (.aload_n 0, 1) := by decide +kernel
theorem d_Row_append_14 : decode b_Row_append 14 = .ok (.dup, 1) := by decide +kernel
theorem d_Row_append_15 : decode b_Row_append 15 = .ok (.getfield 15, 3) := by decide +kernel
theorem d_Row_append_18 : decode b_Row_append 18 = .ok (.dup_x1, 1) := by decide +kernel
theorem d_Row_append_19 : decode b_Row_append 19 = .ok (.iconst 1, 1) := by decide +kernel
theorem d_Row_append_20 : decode b_Row_append 20 = .ok (.iadd, 1) := by decide +kernel
theorem d_Row_append_21 : decode b_Row_append 21 = .ok (.putfield 15, 3) := by decide +kernel
theorem d_Row_append_24 : decode b_Row_append 24 = .ok (.iload_n 1, 1) := by decide +kernel
theorem d_Row_append_25 : decode b_Row_append 25 = .ok (.iastore, 1) := by decide +kernel
theorem d_Row_append_26 : decode b_Row_append 26 = .ok (.return_, 1) := by decide +kernel
theorem d_Row_copyFrom_0 : decode b_Row_copyFrom 0 = .ok (.aload_n 1, 1) := by decide +kernel
theorem d_Row_copyFrom_1 : decode b_Row_copyFrom 1 = .ok (.getfield 9, 3) := by decide +kernel
theorem d_Row_copyFrom_4 : decode b_Row_copyFrom 4 = .ok (.iconst 0, 1) := by decide +kernel
theorem d_Row_copyFrom_5 : decode b_Row_copyFrom 5 = .ok (.aload_n 0, 1) := by decide +kernel
theorem d_Row_copyFrom_6 : decode b_Row_copyFrom 6 = .ok (.getfield 9, 3) := by decide +kernel
theorem d_Row_copyFrom_9 : decode b_Row_copyFrom 9 = .ok (.iconst 0, 1) := by decide +kernel
theorem d_Row_copyFrom_10 : decode b_Row_copyFrom 10 = .ok (.aload_n 1, 1) := by decide +kernel
theorem d_Row_copyFrom_11 : decode b_Row_copyFrom 11 = .ok (.getfield 15, 3) := by decide +kernel
theorem d_Row_copyFrom_14 : decode b_Row_copyFrom 14 = .ok (.invokestatic 19, 3) := by decide +kernel
theorem d_Row_copyFrom_17 : decode b_Row_copyFrom 17 = .ok (.aload_n 0, 1) := by decide +kernel
theorem d_Row_copyFrom_18 : decode b_Row_copyFrom 18 = .ok (.aload_n 1, 1) := by decide +kernel
theorem d_Row_copyFrom_19 : decode b_Row_copyFrom 19 = .ok (.getfield 15, 3) := by decide +kernel
theorem d_Row_copyFrom_22 : decode b_Row_copyFrom 22 = .ok (.putfield 15, 3) := by decide +kernel
theorem d_Row_copyFrom_25 : decode b_Row_copyFrom 25 = .ok (.return_, 1) := by decide +kernel
theorem d_Row_computeDigest_0 : decode b_Row_computeDigest 0 = .ok (.iconst 0, 1) := by decide +kernel
theorem d_Row_computeDigest_1 : decode b_Row_computeDigest 1 = .ok (.istore_n 1, 1) := by decide +kernel
theorem d_Row_computeDigest_2 : decode b_Row_computeDigest 2 = .ok (.iconst 0, 1) := by decide +kernel
end
section
theorem d_Row_computeDigest_3 : decode b_Row_computeDigest 3 = .ok (.istore_n 2, 1) := by decide +kernel
theorem d_Row_computeDigest_4 : decode b_Row_computeDigest 4 = .ok (.iload_n 2, 1) := by decide +kernel
theorem d_Row_computeDigest_5 : decode b_Row_computeDigest 5 = .ok (.aload_n 0, 1) := by decide +kernel
theorem d_Row_computeDigest_6 : decode b_Row_computeDigest 6 = .ok (.getfield 15, 3) := by decide +kernel
theorem d_Row_computeDigest_9 : decode b_Row_computeDigest 9 = .ok (.if_icmp .ge 30, 3) := by decide +kernel
theorem d_Row_computeDigest_12 : decode b_Row_computeDigest 12 = .ok (.iload_n 1, 1) := by decide +kernel
theorem d_Row_computeDigest_13 : decode b_Row_computeDigest 13 = .ok (.aload_n 0, 1) := by decide +kernel
theorem d_Row_computeDigest_14 : decode b_Row_computeDigest 14 = .ok (.getfield 9, 3) := by decide +kernel
theorem d_Row_computeDigest_17 : decode b_Row_computeDigest 17 = .ok (.iload_n 2, 1) := by decide +kernel
theorem d_Row_computeDigest_18 : decode b_Row_computeDigest 18 = .ok (.iaload, 1) := by decide +kernel
theorem d_Row_computeDigest_19 : decode b_Row_computeDigest 19 = .ok (.ixor, 1) := by decide +kernel
theorem d_Row_computeDigest_20 : decode b_Row_computeDigest 20 = .ok (.istore_n 3, 1) := by decide +kernel
theorem d_Row_computeDigest_21 : decode b_Row_computeDigest 21 = .ok (.iload_n 3, 1) := by decide +kernel
theorem d_Row_computeDigest_22 : decode b_Row_computeDigest 22 = .ok (.iconst 5, 1) := by decide +kernel
theorem d_Row_computeDigest_23 : decode b_Row_computeDigest 23 = .ok (.ishl, 1) := by decide +kernel
theorem d_Row_computeDigest_24 : decode b_Row_computeDigest 24 = .ok (.iload_n 3, 1) := by decide +kernel
theorem d_Row_computeDigest_25 : decode b_Row_computeDigest 25 = .ok (.bipush 27, 2) := by decide +kernel
theorem d_Row_computeDigest_27 : decode b_Row_computeDigest 27 = .ok (.iushr, 1) := by decide +kernel
theorem d_Row_computeDigest_28 : decode b_Row_computeDigest 28 = .ok (.ior, 1) := by decide +kernel
theorem d_Row_computeDigest_29 : decode b_Row_computeDigest 29 = .ok (.ldc 25, 2) := by decide +kernel
theorem d_Row_computeDigest_31 : decode b_Row_computeDigest 31 = .ok (.imul, 1) := by decide +kernel
theorem d_Row_computeDigest_32 : decode b_Row_computeDigest 32 = .ok (.istore_n 1, 1) := by decide +kernel
theorem d_Row_computeDigest_33 : decode b_Row_computeDigest 33 = .ok (.iinc 2 1, 3) := by decide +kernel
theorem d_Row_computeDigest_36 : decode b_Row_computeDigest 36 = .ok (.goto (-32), 3) := by decide +kernel
theorem d_Row_computeDigest_39 : decode b_Row_computeDigest 39 = .ok (.iload_n 1, 1) := by decide +kernel
theorem d_Row_computeDigest_40 : decode b_Row_computeDigest 40 = .ok (.ireturn, 1) := by decide +kernel
theorem d_Row_hasSame_0 : decode b_Row_hasSame 0 = .ok (.iconst 0, 1) := by decide +kernel
theorem d_Row_hasSame_1 : decode b_Row_hasSame 1 = .ok (.istore 4, 2) := by decide +kernel
theorem d_Row_hasSame_3 : decode b_Row_hasSame 3 = .ok (.iload 4, 2) := by decide +kernel
theorem d_Row_hasSame_5 : decode b_Row_hasSame 5 = .ok (.iload_n 3, 1) := by decide +kernel
theorem d_Row_hasSame_6 : decode b_Row_hasSame 6 = .ok (.if_icmp .ge 30, 3) := by decide +kernel
theorem d_Row_hasSame_9 : decode b_Row_hasSame 9 = .ok (.aload_n 0, 1) := by decide +kernel
theorem d_Row_hasSame_10 : decode b_Row_hasSame 10 = .ok (.iload_n 1, 1) := by decide +kernel
theorem d_Row_hasSame_11 : decode b_Row_hasSame 11 = .ok (.iload 4, 2) := by decide +kernel
theorem d_Row_hasSame_13 : decode b_Row_hasSame 13 = .ok (.iadd, 1) := by decide +kernel
theorem d_Row_hasSame_14 : decode b_Row_hasSame 14 = .ok (.invokevirtual 26, 3) := by decide +kernel
theorem d_Row_hasSame_17 : decode b_Row_hasSame 17 = .ok (.aload_n 0, 1) := by decide +kernel
theorem d_Row_hasSame_18 : decode b_Row_hasSame 18 = .ok (.iload_n 2, 1) := by decide +kernel
theorem d_Row_hasSame_19 : decode b_Row_hasSame 19 = .ok (.iload 4, 2) := by decide +kernel
theorem d_Row_hasSame_21 : decode b_Row_hasSame 21 = .ok (.iadd, 1) := by decide +kernel
theorem d_Row_hasSame_22 : decode b_Row_hasSame 22 = .ok (.invokevirtual 26, 3) := by decide +kernel
theorem d_Row_hasSame_25 : decode b_Row_hasSame 25 = .ok (.if_icmp .eq 5, 3) := by decide +kernel
theorem d_Row_hasSame_28 : decode b_Row_hasSame 28 = .ok (.iconst 0, 1) := by decide +kernel
theorem d_Row_hasSame_29 : decode b_Row_hasSame 29 = .ok (.ireturn, 1) := by decide +kernel
theorem d_Row_hasSame_30 : decode b_Row_hasSame 30 = .ok (.iinc 4 1, 3) := by decide +kernel
theorem d_Row_hasSame_33 : decode b_Row_hasSame 33 = .ok (.goto (-30), 3) := by decide +kernel
theorem d_Row_hasSame_36 : decode b_Row_hasSame 36 = .ok (.iconst 1, 1) := by decide +kernel
theorem d_Row_hasSame_37 : decode b_Row_hasSame 37 = .ok (.ireturn, 1) := by decide +kernel
theorem d_Store_init_0 : decode b_Store_init 0 = .ok (.aload_n 0, 1) := by decide +kernel
theorem d_Store_init_1 : decode b_Store_init 1 = .ok (.invokespecial 3, 3) := by decide +kernel
theorem d_Store_init_4 : decode b_Store_init 4 = .ok (.aload_n 0, 1) := by decide +kernel
theorem d_Store_init_5 : decode b_Store_init 5 = .ok (.bipush 10, 2) := by decide +kernel
theorem d_Store_init_7 : decode b_Store_init 7 = .ok (.newarray .int, 2) := by decide +kernel
theorem d_Store_init_9 : decode b_Store_init 9 = .ok (.putfield 9, 3) := by decide +kernel
theorem d_Store_init_12 : decode b_Store_init 12 = .ok (.aload_n 0, 1) := by decide +kernel
theorem d_Store_init_13 : decode b_Store_init 13 = .ok (.bipush 10, 2) := by decide +kernel
theorem d_Store_init_15 : decode b_Store_init 15 = .ok (.anewarray 15, 3) := by decide +kernel
theorem d_Store_init_18 : decode b_Store_init 18 = .ok (.putfield 17, 3) := by decide +kernel
theorem d_Store_init_21 : decode b_Store_init 21 = .ok (.aload_n 0, 1) := by decide +kernel
theorem d_Store_init_22 : decode b_Store_init 22 = .ok (.iconst 0, 1) := by decide +kernel
theorem d_Store_init_23 : decode b_Store_init 23 = .ok (.putfield 21, 3) := by decide +kernel
theorem d_Store_init_26 : decode b_Store_init 26 = .ok (.iconst 0, 1) := by decide +kernel
theorem d_Store_init_27 : decode b_Store_init 27 = .ok (.istore_n 1, 1) := by decide +kernel
theorem d_Store_init_28 : decode b_Store_init 28 = .ok (.iload_n 1, 1) := by decide +kernel
theorem d_Store_init_29 : decode b_Store_init 29 = .ok (.bipush 10, 2) := by decide +kernel
theorem d_Store_init_31 : decode b_Store_init 31 = .ok (.if_icmp .ge 22, 3) := by decide +kernel
theorem d_Store_init_34 : decode b_Store_init 34 = .ok (.aload_n 0, 1) := by decide +kernel
theorem d_Store_init_35 : decode b_Store_init 35 = .ok (.getfield 17, 3) := by decide +kernel
theorem d_Store_init_38 : decode b_Store_init 38 = .ok (.iload_n 1, 1) := by decide +kernel
theorem d_Store_init_39 : decode b_Store_init 39 = .ok (.new 15, 3) := by decide +kernel
theorem d_Store_init_42 : decode b_Store_init 42 = .ok (.dup, 1) := by decide +kernel
theorem d_Store_init_43 : decode b_Store_init 43 = .ok (.invokespecial 25, 3) := by decide +kernel
theorem d_Store_init_46 : decode b_Store_init 46 = .ok (.aastore, 1) := by decide +kernel
theorem d_Store_init_47 : decode b_Store_init 47 = .ok (.iinc 1 1, 3) := by decide +kernel
theorem d_Store_init_50 : decode b_Store_init 50 = .ok (.goto (-22), 3) := by decide +kernel
theorem d_Store_init_53 : decode b_Store_init 53 = .ok (.return_, 1) := by decide +kernel
theorem d_Store_find_0 : decode b_Store_find 0 = .ok (.iconst 0, 1) := by decide +kernel
theorem d_Store_find_1 : decode b_Store_find 1 = .ok (.istore_n 2, 1) := by decide +kernel
theorem d_Store_find_2 : decode b_Store_find 2 = .ok (.iload_n 2, 1) := by decide +kernel
theorem d_Store_find_3 : decode b_Store_find 3 = .ok (.aload_n 0, 1) := by decide +kernel
theorem d_Store_find_4 : decode b_Store_find 4 = .ok (.getfield 21, 3) := by decide +kernel
theorem d_Store_find_7 : decode b_Store_find 7 = .ok (.if_icmp .ge 21, 3) := by decide +kernel
theorem d_Store_find_10 : decode b_Store_find 10 = .ok (.aload_n 0, 1) := by decide +kernel
theorem d_Store_find_11 : decode b_Store_find 11 = .ok (.getfield 9, 3) := by decide +kernel
theorem d_Store_find_14 : decode b_Store_find 14 = .ok (.iload_n 2, 1) := by decide +kernel
theorem d_Store_find_15 : decode b_Store_find 15 = .ok (.iaload, 1) := by decide +kernel
theorem d_Store_find_16 : decode b_Store_find 16 = .ok (.iload_n 1, 1) := by decide +kernel
theorem d_Store_find_17 : decode b_Store_find 17 = .ok (.if_icmp .ne 5, 3) := by decide +kernel
theorem d_Store_find_20 : decode b_Store_find 20 = .ok (.iload_n 2, 1) := by decide +kernel
theorem d_Store_find_21 : decode b_Store_find 21 = .ok (.ireturn, 1) := by decide +kernel
theorem d_Store_find_22 : decode b_Store_find 22 = .ok (.iinc 2 1, 3) := by decide +kernel
theorem d_Store_find_25 : decode b_Store_find 25 = .ok (.goto (-23), 3) := by decide +kernel
theorem d_Store_find_28 : decode b_Store_find 28 = .ok (.iconst (-1), 1) := by decide +kernel
theorem d_Store_find_29 : decode b_Store_find 29 = .ok (.ireturn, 1) := by decide +kernel
theorem d_Store_keep_0 : decode b_Store_keep 0 = .ok (.aload_n 0, 1) := by decide +kernel
theorem d_Store_keep_1 : decode b_Store_keep 1 = .ok (.iload_n 1, 1) := by decide +kernel
theorem d_Store_keep_2 : decode b_Store_keep 2 = .ok (.invokevirtual 26, 3) := by decide +kernel
theorem d_Store_keep_5 : decode b_Store_keep 5 = .ok (.iconst (-1), 1) := by decide +kernel
theorem d_Store_keep_6 : decode b_Store_keep 6 = .ok (.if_icmp .ne 12, 3) := by decide +kernel
theorem d_Store_keep_9 : decode b_Store_keep 9 = .ok (.aload_n 0, 1) := by decide +kernel
theorem d_Store_keep_10 : decode b_Store_keep 10 = .ok (.getfield 21, 3) := by decide +kernel
theorem d_Store_keep_13 : decode b_Store_keep 13 = .ok (.bipush 10, 2) := by decide +kernel
theorem d_Store_keep_15 : decode b_Store_keep 15 = .ok (.if_icmp .lt 4, 3) := by decide +kernel
theorem d_Store_keep_18 : decode b_Store_keep 18 = .ok (.return_, 1) := by decide +kernel
theorem d_Store_keep_19 : decode b_Store_keep 19 = .ok (.aload_n 0, 1) := by decide +kernel
theorem d_Store_keep_20 : decode b_Store_keep 20 = .ok (.getfield 9, 3) := by decide +kernel
theorem d_Store_keep_23 : decode b_Store_keep 23 = .ok (.aload_n 0, 1) := by decide +kernel
theorem d_Store_keep_24 : decode b_Store_keep 24 = .ok (.getfield 21, 3) := by decide +kernel
theorem d_Store_keep_27 : decode b_Store_keep 27 = .ok (.iload_n 1, 1) := by decide +kernel
theorem d_Store_keep_28 : decode b_Store_keep 28 = .ok (.iastore, 1) := by decide +kernel
theorem d_Store_keep_29 : decode b_Store_keep 29 = .ok (.aload_n 0, 1) := by decide +kernel
theorem d_Store_keep_30 : decode b_Store_keep 30 = .ok (.getfield 17, 3) := by decide +kernel
theorem d_Store_keep_33 : decode b_Store_keep 33 = .ok (.aload_n 0, 1) := by decide +kernel
theorem d_Store_keep_34 : decode b_Store_keep 34 = .ok (.getfield 21, 3) := by decide +kernel
theorem d_Store_keep_37 : decode b_Store_keep 37 = .ok (.aaload, 1) := by decide +kernel
theorem d_Store_keep_38 : decode b_Store_keep 38 = .ok (.aload_n 2, 1) := by decide +kernel
theorem d_Store_keep_39 : decode b_Store_keep 39 = .ok (.invokevirtual 30, 3) := by decide +kernel
theorem d_Store_keep_42 : decode b_Store_keep 42 = .ok (.aload_n 0, 1) := by decide +kernel
theorem d_Store_keep_43 : decode b_Store_keep 43 = .ok (.dup, 1) := by decide +kernel
theorem d_Store_keep_44 : decode b_Store_keep 44 = .ok (.getfield 21, 3) := by decide +kernel
theorem d_Store_keep_47 : decode b_Store_keep 47 = .ok (.iconst 1, 1) := by decide +kernel
theorem d_Store_keep_48 : decode b_Store_keep 48 = .ok (.iadd, 1) := by decide +kernel
theorem d_Store_keep_49 : decode b_Store_keep 49 = .ok (.putfield 21, 3) := by decide +kernel
theorem d_Store_keep_52 : decode b_Store_keep 52 = .ok (.return_, 1) := by decide +kernel
theorem d_Tellings_init_0 : decode b_Tellings_init 0 = .ok (.aload_n 0, 1) := by decide +kernel
theorem d_Tellings_init_1 : decode b_Tellings_init 1 = .ok (.invokespecial 3, 3) := by decide +kernel
theorem d_Tellings_init_4 : decode b_Tellings_init 4 = .ok (.aload_n 0, 1) := by decide +kernel
theorem d_Tellings_init_5 : decode b_Tellings_init 5 = .ok (.bipush 60, 2) := by decide +kernel
theorem d_Tellings_init_7 : decode b_Tellings_init 7 = .ok (.newarray .int, 2) := by decide +kernel
theorem d_Tellings_init_9 : decode b_Tellings_init 9 = .ok (.putfield 9, 3) := by decide +kernel
theorem d_Tellings_init_12 : decode b_Tellings_init 12 = .ok (.aload_n 0, 1) := by decide +kernel
theorem d_Tellings_init_13 : decode b_Tellings_init 13 = .ok (.bipush 60, 2) := by decide +kernel
theorem d_Tellings_init_15 : decode b_Tellings_init 15 = .ok (.newarray .int, 2) := by decide +kernel
theorem d_Tellings_init_17 : decode b_Tellings_init 17 = .ok (.putfield 15, 3) := by decide +kernel
theorem d_Tellings_init_20 : decode b_Tellings_init 20 = .ok (.aload_n 0, 1) := by decide +kernel
theorem d_Tellings_init_21 : decode b_Tellings_init 21 = .ok (.bipush 60, 2) := by decide +kernel
theorem d_Tellings_init_23 : decode b_Tellings_init 23 = .ok (.newarray .int, 2) := by decide +kernel
theorem d_Tellings_init_25 : decode b_Tellings_init 25 = .ok (.putfield 18, 3) := by decide +kernel
theorem d_Tellings_init_28 : decode b_Tellings_init 28 = .ok (.aload_n 0, 1) := by decide +kernel
theorem d_Tellings_init_29 : decode b_Tellings_init 29 = .ok (.iconst 0, 1) := by decide +kernel
theorem d_Tellings_init_30 : decode b_Tellings_init 30 = .ok (.putfield 21, 3) := by decide +kernel
theorem d_Tellings_init_33 : decode b_Tellings_init 33 = .ok (.return_, 1) := by decide +kernel
theorem d_Tellings_has_0 : decode b_Tellings_has 0 = .ok (.iload_n 1, 1) := by decide +kernel
theorem d_Tellings_has_1 : decode b_Tellings_has 1 = .ok (.ifCond .lt 15, 3) := by decide +kernel
theorem d_Tellings_has_4 : decode b_Tellings_has 4 = .ok (.iload_n 1, 1) := by decide +kernel
theorem d_Tellings_has_5 : decode b_Tellings_has 5 = .ok (.aload_n 0, 1) := by decide +kernel
theorem d_Tellings_has_6 : decode b_Tellings_has 6 = .ok (.getfield 21, 3) := by decide +kernel
theorem d_Tellings_has_9 : decode b_Tellings_has 9 = .ok (.if_icmp .ge 7, 3) := by decide +kernel
theorem d_Tellings_has_12 : decode b_Tellings_has 12 = .ok (.iconst 1, 1) := by decide +kernel
theorem d_Tellings_has_13 : decode b_Tellings_has 13 = .ok (.goto 4, 3) := by decide +kernel
theorem d_Tellings_has_16 : decode b_Tellings_has 16 = .ok (.iconst 0, 1) := by decide +kernel
theorem d_Tellings_has_17 : decode b_Tellings_has 17 = .ok (.ireturn, 1) := by decide +kernel
theorem d_Tellings_tell_0 : decode b_Tellings_tell 0 = .ok (.aload_n 0, 1) := by decide +kernel
theorem d_Tellings_tell_1 : decode b_Tellings_tell 1 = .ok (.getfield 21, 3) := by decide +kernel
theorem d_Tellings_tell_4 : decode b_Tellings_tell 4 = .ok (.bipush 60, 2) := by decide +kernel
theorem d_Tellings_tell_6 : decode b_Tellings_tell 6 = .ok (.if_icmp .lt 4, 3) := by decide +kernel
theorem d_Tellings_tell_9 : decode b_Tellings_tell 9 = .ok (.return_, 1) := by decide +kernel
theorem d_Tellings_tell_10 : decode b_Tellings_tell 10 = .ok (.aload_n 0, 1) := by decide +kernel
theorem d_Tellings_tell_11 : decode b_Tellings_tell 11 = .ok (.getfield 9, 3) := by decide +kernel
theorem d_Tellings_tell_14 : decode b_Tellings_tell 14 = .ok (.aload_n 0, 1) := by decide +kernel
theorem d_Tellings_tell_15 : decode b_Tellings_tell 15 = .ok (.getfield 21, 3) := by decide +kernel
theorem d_Tellings_tell_18 : decode b_Tellings_tell 18 = .ok (.iload_n 1, 1) := by decide +kernel
theorem d_Tellings_tell_19 : decode b_Tellings_tell 19 = .ok (.iastore, 1) := by decide +kernel
theorem d_Tellings_tell_20 : decode b_Tellings_tell 20 = .ok (.aload_n 0, 1) := by decide +kernel
theorem d_Tellings_tell_21 : decode b_Tellings_tell 21 = .ok (.getfield 15, 3) := by decide +kernel
theorem d_Tellings_tell_24 : decode b_Tellings_tell 24 = .ok (.aload_n 0, 1) := by decide +kernel
theorem d_Tellings_tell_25 : decode b_Tellings_tell 25 = .ok (.getfield 21, 3) := by decide +kernel
theorem d_Tellings_tell_28 : decode b_Tellings_tell 28 = .ok (.iload_n 2, 1) := by decide +kernel
theorem d_Tellings_tell_29 : decode b_Tellings_tell 29 = .ok (.iastore, 1) := by decide +kernel
theorem d_Tellings_tell_30 : decode b_Tellings_tell 30 = .ok (.aload_n 0, 1) := by decide +kernel
theorem d_Tellings_tell_31 : decode b_Tellings_tell 31 = .ok (.getfield 18, 3) := by decide +kernel
theorem d_Tellings_tell_34 : decode b_Tellings_tell 34 = .ok (.aload_n 0, 1) := by decide +kernel
theorem d_Tellings_tell_35 : decode b_Tellings_tell 35 = .ok (.getfield 21, 3) := by decide +kernel
theorem d_Tellings_tell_38 : decode b_Tellings_tell 38 = .ok (.iload_n 3, 1) := by decide +kernel
theorem d_Tellings_tell_39 : decode b_Tellings_tell 39 = .ok (.iastore, 1) := by decide +kernel
theorem d_Tellings_tell_40 : decode b_Tellings_tell 40 = .ok (.aload_n 0, 1) := by decide +kernel
theorem d_Tellings_tell_41 : decode b_Tellings_tell 41 = .ok (.dup, 1) := by decide +kernel
theorem d_Tellings_tell_42 : decode b_Tellings_tell 42 = .ok (.getfield 21, 3) := by decide +kernel
theorem d_Tellings_tell_45 : decode b_Tellings_tell 45 = .ok (.iconst 1, 1) := by decide +kernel
theorem d_Tellings_tell_46 : decode b_Tellings_tell 46 = .ok (.iadd, 1) := by decide +kernel
theorem d_Tellings_tell_47 : decode b_Tellings_tell 47 = .ok (.putfield 21, 3) := by decide +kernel
theorem d_Tellings_tell_50 : decode b_Tellings_tell 50 = .ok (.return_, 1) := by decide +kernel
theorem d_Want_init_0 : decode b_Want_init 0 = .ok (.aload_n 0, 1) := by decide +kernel
theorem d_Want_init_1 : decode b_Want_init 1 = .ok (.invokespecial 3, 3) := by decide +kernel
theorem d_Want_init_4 : decode b_Want_init 4 = .ok (.aload_n 0, 1) := by decide +kernel
theorem d_Want_init_5 : decode b_Want_init 5 = .ok (.new 9, 3) := by decide +kernel
theorem d_Want_init_8 : decode b_Want_init 8 = .ok (.dup, 1) := by decide +kernel
theorem d_Want_init_9 : decode b_Want_init 9 = .ok (.invokespecial 11, 3) := by decide +kernel
theorem d_Want_init_12 : decode b_Want_init 12 = .ok (.putfield 12, 3) := by decide +kernel
theorem d_Want_init_15 : decode b_Want_init 15 = .ok (.aload_n 0, 1) := by decide +kernel
theorem d_Want_init_16 : decode b_Want_init 16 = .ok (.bipush 6, 2) := by decide +kernel
theorem d_Want_init_18 : decode b_Want_init 18 = .ok (.newarray .int, 2) := by decide +kernel
theorem d_Want_init_20 : decode b_Want_init 20 = .ok (.putfield 18, 3) := by decide +kernel
theorem d_Want_init_23 : decode b_Want_init 23 = .ok (.aload_n 0, 1) := by decide +kernel
theorem d_Want_init_24 : decode b_Want_init 24 = .ok (.iconst 0, 1) := by decide +kernel
theorem d_Want_init_25 : decode b_Want_init 25 = .ok (.putfield 22, 3) := by decide +kernel
theorem d_Want_init_28 : decode b_Want_init 28 = .ok (.aload_n 0, 1) := by decide +kernel
theorem d_Want_init_29 : decode b_Want_init 29 = .ok (.iconst 0, 1) := by decide +kernel
theorem d_Want_init_30 : decode b_Want_init 30 = .ok (.putfield 26, 3) := by decide +kernel
theorem d_Want_init_33 : decode b_Want_init 33 = .ok (.aload_n 0, 1) := by decide +kernel
theorem d_Want_init_34 : decode b_Want_init 34 = .ok (.iconst 0, 1) := by decide +kernel
theorem d_Want_init_35 : decode b_Want_init 35 = .ok (.putfield 29, 3) := by decide +kernel
theorem d_Want_init_38 : decode b_Want_init 38 = .ok (.aload_n 0, 1) := by decide +kernel
theorem d_Want_init_39 : decode b_Want_init 39 = .ok (.iconst 0, 1) := by decide +kernel
theorem d_Want_init_40 : decode b_Want_init 40 = .ok (.putfield 32, 3) := by decide +kernel
theorem d_Want_init_43 : decode b_Want_init 43 = .ok (.aload_n 0, 1) := by decide +kernel
theorem d_Want_init_44 : decode b_Want_init 44 = .ok (.iconst 0, 1) := by decide +kernel
theorem d_Want_init_45 : decode b_Want_init 45 = .ok (.putfield 35, 3) := by decide +kernel
theorem d_Want_init_48 : decode b_Want_init 48 = .ok (.aload_n 0, 1) := by decide +kernel
theorem d_Want_init_49 : decode b_Want_init 49 = .ok (.iconst 0, 1) := by decide +kernel
theorem d_Want_init_50 : decode b_Want_init 50 = .ok (.putfield 38, 3) := by decide +kernel
theorem d_Want_init_53 : decode b_Want_init 53 = .ok (.aload_n 0, 1) := by decide +kernel
theorem d_Want_init_54 : decode b_Want_init 54 = .ok (.iconst 0, 1) := by decide +kernel
theorem d_Want_init_55 : decode b_Want_init 55 = .ok (.putfield 41, 3) := by decide +kernel
theorem d_Want_init_58 : decode b_Want_init 58 = .ok (.return_, 1) := by decide +kernel
theorem d_Want_isBusy_0 : decode b_Want_isBusy 0 = .ok (.aload_n 0, 1) := by decide +kernel
theorem d_Want_isBusy_1 : decode b_Want_isBusy 1 = .ok (.getfield 29, 3) := by decide +kernel
theorem d_Want_isBusy_4 : decode b_Want_isBusy 4 = .ok (.iconst 1, 1) := by decide +kernel
theorem d_Want_isBusy_5 : decode b_Want_isBusy 5 = .ok (.if_icmp .eq 11, 3) := by decide +kernel
theorem d_Want_isBusy_8 : decode b_Want_isBusy 8 = .ok (.aload_n 0, 1) := by decide +kernel
theorem d_Want_isBusy_9 : decode b_Want_isBusy 9 = .ok (.getfield 29, 3) := by decide +kernel
theorem d_Want_isBusy_12 : decode b_Want_isBusy 12 = .ok (.iconst 2, 1) := by decide +kernel
theorem d_Want_isBusy_13 : decode b_Want_isBusy 13 = .ok (.if_icmp .ne 7, 3) := by decide +kernel
theorem d_Want_isBusy_16 : decode b_Want_isBusy 16 = .ok (.iconst 1, 1) := by decide +kernel
theorem d_Want_isBusy_17 : decode b_Want_isBusy 17 = .ok (.goto 4, 3) := by decide +kernel
theorem d_Want_isBusy_20 : decode b_Want_isBusy 20 = .ok (.iconst 0, 1) := by decide +kernel
theorem d_Want_isBusy_21 : decode b_Want_isBusy 21 = .ok (.ireturn, 1) := by decide +kernel
theorem d_Want_currentPlace_0 : decode b_Want_currentPlace 0 = .ok (.aload_n 0, 1) := by decide +kernel
theorem d_Want_currentPlace_1 : decode b_Want_currentPlace 1 = .ok (.getfield 32, 3) := by decide +kernel
theorem d_Want_currentPlace_4 : decode b_Want_currentPlace 4 = .ok (.ifCond .lt 26, 3) := by decide +kernel
theorem d_Want_currentPlace_7 : decode b_Want_currentPlace 7 = .ok (.aload_n 0, 1) := by decide +kernel
theorem d_Want_currentPlace_8 : decode b_Want_currentPlace 8 = .ok (.getfield 32, 3) := by decide +kernel
theorem d_Want_currentPlace_11 : decode b_Want_currentPlace 11 = .ok (.aload_n 0, 1) := by decide +kernel
theorem d_Want_currentPlace_12 : decode b_Want_currentPlace 12 = .ok (.getfield 22, 3) := by decide +kernel
theorem d_Want_currentPlace_15 : decode b_Want_currentPlace 15 = .ok (.if_icmp .ge 15, 3) := by decide +kernel
theorem d_Want_currentPlace_18 : decode b_Want_currentPlace 18 = .ok (.aload_n 0, 1) := by decide +kernel
theorem d_Want_currentPlace_19 : decode b_Want_currentPlace 19 = .ok (.getfield 18, 3) := by decide +kernel
theorem d_Want_currentPlace_22 : decode b_Want_currentPlace 22 = .ok (.aload_n 0, 1) := by decide +kernel
theorem d_Want_currentPlace_23 : decode b_Want_currentPlace 23 = .ok (.getfield 32, 3) := by decide +kernel
theorem d_Want_currentPlace_26 : decode b_Want_currentPlace 26 = .ok (.iaload, 1) := by decide +kernel
theorem d_Want_currentPlace_27 : decode b_Want_currentPlace 27 = .ok (.goto 4, 3) := by decide +kernel
theorem d_Want_currentPlace_30 : decode b_Want_currentPlace 30 = .ok (.iconst (-1), 1) := by decide +kernel
theorem d_Want_currentPlace_31 : decode b_Want_currentPlace 31 = .ok (.ireturn, 1) := by decide +kernel
theorem d_Want_addPlace_0 : decode b_Want_addPlace 0 = .ok (.aload_n 0, 1) := by decide +kernel
theorem d_Want_addPlace_1 : decode b_Want_addPlace 1 = .ok (.getfield 22, 3) := by decide +kernel
theorem d_Want_addPlace_4 : decode b_Want_addPlace 4 = .ok (.bipush 6, 2) := by decide +kernel
theorem d_Want_addPlace_6 : decode b_Want_addPlace 6 = .ok (.if_icmp .lt 5, 3) := by decide +kernel
theorem d_Want_addPlace_9 : decode b_Want_addPlace 9 = .ok (.iconst 0, 1) := by decide +kernel
theorem d_Want_addPlace_10 : decode b_Want_addPlace 10 = .ok (.ireturn, 1) := by decide +kernel
theorem d_Want_addPlace_11 : decode b_Want_addPlace 11 = .ok (.iconst 0, 1) := by decide +kernel
theorem d_Want_addPlace_12 : decode b_Want_addPlace 12 = .ok (.istore_n 2, 1) := by decide +kernel
theorem d_Want_addPlace_13 : decode b_Want_addPlace 13 = .ok (.iload_n 2, 1) := by decide +kernel
theorem d_Want_addPlace_14 : decode b_Want_addPlace 14 = .ok (.aload_n 0, 1) := by decide +kernel
theorem d_Want_addPlace_15 : decode b_Want_addPlace 15 = .ok (.getfield 22, 3) := by decide +kernel
theorem d_Want_addPlace_18 : decode b_Want_addPlace 18 = .ok (.if_icmp .ge 21, 3) := by decide +kernel
theorem d_Want_addPlace_21 : decode b_Want_addPlace 21 = .ok (.aload_n 0, 1) := by decide +kernel
theorem d_Want_addPlace_22 : decode b_Want_addPlace 22 = .ok (.getfield 18, 3) := by decide +kernel
theorem d_Want_addPlace_25 : decode b_Want_addPlace 25 = .ok (.iload_n 2, 1) := by decide +kernel
theorem d_Want_addPlace_26 : decode b_Want_addPlace 26 = .ok (.iaload, 1) := by decide +kernel
theorem d_Want_addPlace_27 : decode b_Want_addPlace 27 = .ok (.iload_n 1, 1) := by decide +kernel
theorem d_Want_addPlace_28 : decode b_Want_addPlace 28 = .ok (.if_icmp .ne 5, 3) := by decide +kernel
theorem d_Want_addPlace_31 : decode b_Want_addPlace 31 = .ok (.iconst 0, 1) := by decide +kernel
theorem d_Want_addPlace_32 : decode b_Want_addPlace 32 = .ok (.ireturn, 1) := by decide +kernel
theorem d_Want_addPlace_33 : decode b_Want_addPlace 33 = .ok (.iinc 2 1, 3) := by decide +kernel
theorem d_Want_addPlace_36 : decode b_Want_addPlace 36 = .ok (.goto (-23), 3) := by decide +kernel
theorem d_Want_addPlace_39 : decode b_Want_addPlace 39 = .ok (.aload_n 0, 1) := by decide +kernel
theorem d_Want_addPlace_40 : decode b_Want_addPlace 40 = .ok (.getfield 18, 3) := by decide +kernel
theorem d_Want_addPlace_43 : decode b_Want_addPlace 43 = .ok (.aload_n 0, 1) := by decide +kernel
theorem d_Want_addPlace_44 : decode b_Want_addPlace 44 = .ok (.dup, 1) := by decide +kernel
theorem d_Want_addPlace_45 : decode b_Want_addPlace 45 = .ok (.getfield 22, 3) := by decide +kernel
theorem d_Want_addPlace_48 : decode b_Want_addPlace 48 = .ok (.dup_x1, 1) := by decide +kernel
theorem d_Want_addPlace_49 : decode b_Want_addPlace 49 = .ok (.iconst 1, 1) := by decide +kernel
theorem d_Want_addPlace_50 : decode b_Want_addPlace 50 = .ok (.iadd, 1) := by decide +kernel
theorem d_Want_addPlace_51 : decode b_Want_addPlace 51 = .ok (.putfield 22, 3) := by decide +kernel
theorem d_Want_addPlace_54 : decode b_Want_addPlace 54 = .ok (.iload_n 1, 1) := by decide +kernel
theorem d_Want_addPlace_55 : decode b_Want_addPlace 55 = .ok (.iastore, 1) := by decide +kernel
theorem d_Want_addPlace_56 : decode b_Want_addPlace 56 = .ok (.iconst 1, 1) := by decide +kernel
theorem d_Want_addPlace_57 : decode b_Want_addPlace 57 = .ok (.ireturn, 1) := by decide +kernel
theorem d_Want_startAt_0 : decode b_Want_startAt 0 = .ok (.aload_n 0, 1) := by decide +kernel
theorem d_Want_startAt_1 : decode b_Want_startAt 1 = .ok (.iload_n 1, 1) := by decide +kernel
theorem d_Want_startAt_2 : decode b_Want_startAt 2 = .ok (.putfield 32, 3) := by decide +kernel
theorem d_Want_startAt_5 : decode b_Want_startAt 5 = .ok (.aload_n 0, 1) := by decide +kernel
theorem d_Want_startAt_6 : decode b_Want_startAt 6 = .ok (.iconst 0, 1) := by decide +kernel
theorem d_Want_startAt_7 : decode b_Want_startAt 7 = .ok (.putfield 35, 3) := by decide +kernel
theorem d_Want_startAt_10 : decode b_Want_startAt 10 = .ok (.aload_n 0, 1) := by decide +kernel
theorem d_Want_startAt_11 : decode b_Want_startAt 11 = .ok (.getfield 12, 3) := by decide +kernel
theorem d_Want_startAt_14 : decode b_Want_startAt 14 = .ok (.iconst 0, 1) := by decide +kernel
theorem d_Want_startAt_15 : decode b_Want_startAt 15 = .ok (.putfield 44, 3) := by decide +kernel
theorem d_Want_startAt_18 : decode b_Want_startAt 18 = .ok (.aload_n 0, 1) := by decide +kernel
theorem d_Want_startAt_19 : decode b_Want_startAt 19 = .ok (.iconst 1, 1) := by decide +kernel
theorem d_Want_startAt_20 : decode b_Want_startAt 20 = .ok (.putfield 29, 3) := by decide +kernel
theorem d_Want_startAt_23 : decode b_Want_startAt 23 = .ok (.return_, 1) := by decide +kernel
end
section
/-! ROWS OF CONSTRUCTORS: the heap's size is known, new cells come at its end -/
theorem gK_pN {σ : fr_S} {a b : Nat} {k : fr_K} : gK (pN σ a k) b = if b = a then some k else gK σ b := rfl
/-- behind a new cell -/
theorem fr_new0 {D : va_G} {T : Nat → ClassId} {A : Nat → Prop} {σ : fr_S} {H H1 : Heap} {k : fr_K} {e1 : va_E} (h : fr_H D T A σ H) (hq : ∀ q, q < H.size → H1[q]? = H[q]?) (hA : A H.size) (hc : fr_c T (pN σ H.size k) H.size = some e1) (he : va_at D vwCl (H.size, e1) H1) : fr_H D T A (pN σ H.size k) H1 := by
  refine ⟨fun b x hx => ?_, fun b hb => ?_⟩
  · by_cases hba : b = H.size
    · subst hba
      rw [hc] at hx
      cases hx
      exact he
    · rw [c_pN b hba] at hx
      have h1 := h.1 b x hx
      exact h1.kept (hq b h1.lt)
  · by_cases hba : b = H.size
    · rw [hba]; exact hA
    · rw [gK_pN, if_neg hba] at hb
      exact h.2 b hb
section FRN
variable {p : Program} {l : Launch} {e : Env} {R : Room} {s : State} {m : MethodId} {args : Array Value} {below : List Frame} {meth : Method} {c : Code} {H : Heap} {locs : List Loc} {cells slots : Nat} {Q : State → Prop}
variable {cc : ByteArray} {pc : Nat} {ls : Array Slot} {rest : List Value} {D : va_G} {T : Nat → ClassId} {A : Nat → Prop} {a : Nat} {σ σ1 : fr_S} {H0 : Heap} {tys : List (ClassId × FieldType)}
/-- a field that isn't final: the new cells, and that the size is the same -/
theorem fr_putC (hx : p.tables.exec = Jvm.exec) (hb : c.code = cc) {own ref C : String} {Tt : u_T} {N ci index : Nat} {Ts : List Cond} (hts : ∀ w ∈ Ts, w.before args s = true) (hin : ∀ w ∈ u_ws C Tt N, w ∈ Ts) (ty0 : Nat → FieldType) (hty : ∀ k, k < N → parseFieldDescriptor (Tt k).2.2.1 = some (ty0 k)) (hnm : ∀ a, a < N → ∀ b, b < N → a ≠ b → (Tt a).2.1 ≠ (Tt b).2.1) (hown : s.vm.findClass own = some m.cls) (hK : va_K D vwCl tys s) {fs : List Value} (hat : va_at D vwCl (a, .inr (ci, fs)) H) (hA : A a) (hS : va_S A H0 H locs) (hc : vwCl[ci]? = some (C, Tt, N)) (k : Nat) (hk : k < N) (hlink : (Cond.fieldLink own index ref (Tt k).2.1 (Tt k).2.2.1).before args s = true) (hsame : ∀ x, s.fieldFound? (Tt k).1 (Tt k).2.1 (Tt k).2.2.1 = some x → s.fieldFound? ref (Tt k).2.1 (Tt k).2.2.1 = some x) (hfin : (Tt k).2.2.2 = false) {ty : FieldType} {v : Value} (hd : parseFieldDescriptor (Tt k).2.2.1 = some ty) (hn : narrow ty v = v) (hfit : fits ty v = true) (hl : k < fs.length) (hdg : decode cc pc = .ok (.putfield index, 3))
    (kk : ∀ (H1 : Heap) (locs1 : List Loc), va_at D vwCl (a, .inr (ci, fs.set k v)) H1 → H1.size = H.size → (∀ q, q ≠ a → H1[q]? = H[q]?) → va_S A H0 H1 locs1 → W p l e R s m args below meth c H1 locs1 cells slots Q (F0 m (pc + 3) ls rest)) : W p l e R s m args below meth c H locs cells slots Q (F0 m pc ls (v :: .ref a :: rest)) := by
  have hap := va_apart (own := own) hts hin ty0 hty hnm hK hc
  obtain ⟨r, h1, cell, q1, q2, q3, q4⟩ := hat
  have hr : r = (C, Tt, N) := Option.some.inj (h1.symm.trans hc)
  subst hr
  obtain ⟨hSl, hfc, kC, hkC, hkind⟩ := hK.1 ci _ hc
  obtain ⟨cf, kf, fi, fd, hi, hsl⟩ := hSl k hk
  have hlay := hts _ (hin _ (u_in_lay hk))
  unfold u_lay at hlay
  rw [if_neg (by rw [hfin]; decide)] at hlay
  have hst := (u_facts hfc hkC (u_lays hts hin hk) hi).1
  refine W.putK hx hb (f := fd) ⟨hown, hlink, ⟨_, _, _, hsame _ hi⟩, hst⟩ (by rw [q2]; exact u_store hfc hkC hkind hlay hi hd hn hfit) q1 q3 (by rw [hsl]; exact k2_hasslot (q4 k hk)) rfl rfl hdg fun H1 e1 e2 e3 => ?_
  rw [hsl] at e1
  exact kk H1 _ ⟨_, hc, t_OB.to (V := updV (vp_V fs) k v) ⟨_, e1, q2, q3, t_set q4 hap hk v⟩ (fun j _ => vp_updV_set hl v j)⟩ e2 e3 (hS.put e2 e3 hA)
/-- a final field, in the constructor -/
theorem fr_putD (hx : p.tables.exec = Jvm.exec) (hb : c.code = cc) {own ref C : String} {Tt : u_T} {N ci index : Nat} {Ts : List Cond} (hts : ∀ w ∈ Ts, w.before args s = true) (hin : ∀ w ∈ u_ws C Tt N, w ∈ Ts) (ty0 : Nat → FieldType) (hty : ∀ k, k < N → parseFieldDescriptor (Tt k).2.2.1 = some (ty0 k)) (hnm : ∀ a, a < N → ∀ b, b < N → a ≠ b → (Tt a).2.1 ≠ (Tt b).2.1) (hown : s.vm.findClass own = some m.cls) (hK : va_K D vwCl tys s) {fs : List Value} (hat : va_at D vwCl (a, .inr (ci, fs)) H) (hA : A a) (hS : va_S A H0 H locs) (hc : vwCl[ci]? = some (C, Tt, N)) (k : Nat) (hk : k < N) (hlink : (Cond.fieldLink own index ref (Tt k).2.1 (Tt k).2.2.1).before args s = true) (hsame : ∀ x, s.fieldFound? (Tt k).1 (Tt k).2.1 (Tt k).2.2.1 = some x → s.fieldFound? ref (Tt k).2.1 (Tt k).2.2.1 = some x) (hfin : (Tt k).2.2.2 = true) (hini : meth.name = "<init>") (hdecl : (Tt k).1 = own) {ty : FieldType} {v : Value} (hd : parseFieldDescriptor (Tt k).2.2.1 = some ty) (hn : narrow ty v = v) (hfit : fits ty v = true) (hl : k < fs.length) (hdg : decode cc pc = .ok (.putfield index, 3))
    (kk : ∀ (H1 : Heap) (locs1 : List Loc), va_at D vwCl (a, .inr (ci, fs.set k v)) H1 → H1.size = H.size → (∀ q, q ≠ a → H1[q]? = H[q]?) → va_S A H0 H1 locs1 → W p l e R s m args below meth c H1 locs1 cells slots Q (F0 m (pc + 3) ls rest)) : W p l e R s m args below meth c H locs cells slots Q (F0 m pc ls (v :: .ref a :: rest)) := by
  have hap := va_apart (own := own) hts hin ty0 hty hnm hK hc
  obtain ⟨r, h1, cell, q1, q2, q3, q4⟩ := hat
  have hr : r = (C, Tt, N) := Option.some.inj (h1.symm.trans hc)
  subst hr
  obtain ⟨hSl, hfc, kC, hkC, hkind⟩ := hK.1 ci _ hc
  obtain ⟨cf, kf, fi, fd, hi, hsl⟩ := hSl k hk
  have hlay := hts _ (hin _ (u_in_lay hk))
  unfold u_lay at hlay
  rw [if_pos hfin] at hlay
  have hst := (u_facts hfc hkC (u_lays hts hin hk) hi).1
  have hcf : m.cls = cf := by
    obtain ⟨_, _, c', _, _, _, -, -, hf', -, -, -, hown2, -⟩ := Cond.laysFinal_spec hlay
    have e1 : c' = cf := by have := hi.symm.trans hf'; simp at this; exact this.1.symm
    rw [hdecl] at hown2
    rw [← e1]; exact Option.some.inj (hown.symm.trans hown2)
  refine W.putFinK hx hb hown hlink (hsame _ hi) hst hcf hini (by rw [q2]; exact u_fits hfc hkC hkind (Or.inr hlay) hi hd hn hfit) q1 q3 (by rw [hsl]; exact k2_hasslot (q4 k hk)) rfl rfl hdg fun H1 e1 e2 e3 => ?_
  rw [hsl] at e1
  exact kk H1 _ ⟨_, hc, t_OB.to (V := updV (vp_V fs) k v) ⟨_, e1, q2, q3, t_set q4 hap hk v⟩ (fun j _ => vp_updV_set hl v j)⟩ e2 e3 (hS.put e2 e3 hA)
end FRN
section FRM
variable {p : Program} {l : Launch} {e : Env} {R : Room} {s : State} {m : MethodId} {args : Array Value} {below : List Frame} {meth : Method} {c : Code} {H : Heap} {locs : List Loc} {cells slots : Nat} {Q : State → Prop}
variable {cc : ByteArray} {pc : Nat} {ls : Array Slot} {rest : List Value} {D : va_G} {T : Nat → ClassId} {A : Nat → Prop} {a nx : Nat} {σ σ1 : fr_S} {H0 : Heap}
/-- behind a write to a cell, the size known -/
theorem fr_backN {σ τ : fr_S} {H H1 : Heap} {e1 : va_E} (h : fr_H D T A σ H) (he : va_at D vwCl (a, e1) H1) (oq : ∀ q, q ≠ a → H1[q]? = H[q]?) (ha : fr_c T τ a = some e1) (ho : ∀ b, b ≠ a → fr_c T τ b = fr_c T σ b) (hg : ∀ b, gK τ b = gK σ b) : fr_H D T A τ H1 := by
  refine ⟨fun b x hx => ?_, fun b hb => h.2 b (by rw [← hg b]; exact hb)⟩
  by_cases hba : b = a
  · subst hba
    rw [ha] at hx
    cases hx
    exact he
  · rw [ho b hba] at hx
    exact (h.1 b x hx).kept (oq b hba)
theorem fr_new (hx : p.tables.exec = Jvm.exec) (hb : c.code = cc) {own C : String} {Tt : u_T} {N ci index : Nat} {Ts : List Cond} (hts : ∀ w ∈ Ts, w.before args s = true) (hin : ∀ w ∈ u_ws C Tt N, w ∈ Ts) (ty : Nat → FieldType) (hty : ∀ k, k < N → parseFieldDescriptor (Tt k).2.2.1 = some (ty k)) (hown : s.vm.findClass own = some m.cls) (hcl : (Cond.classLink own index C).before args s = true) (hinst : (Cond.instantiable C N).before args s = true) (hini : (Cond.initialized C).before args s = true)
    (hK : va_K D vwCl (fr_tys T) s) (hH : fr_H D T A σ H) (hS : va_S A H0 H locs) (hA : ∀ q, H0.size ≤ q → A q) (hN : H.size = nx) (hc : vwCl[ci]? = some (C, Tt, N)) (hfs : ∀ j, j < N → defaultValue (ty j) = vp_V (fr_fl (pN σ nx (.inl ci)) ci nx) j) (hcells : cells + 1 ≤ R.cells) (hslots : slots + N ≤ R.slots) (hdg : decode cc pc = .ok (.new index, 3))
    (kk : ∀ H1 : Heap, fr_H D T A (pN σ nx (.inl ci)) H1 → H1.size = nx + 1 → va_S A H0 H1 locs → W p l e R s m args below meth c H1 locs (cells + 1) (slots + N) Q (F0 m (pc + 3) ls (.ref nx :: rest))) : W p l e R s m args below meth c H locs cells slots Q (F0 m pc ls rest) := by
  subst hN
  have hKn := hK.1 ci _ hc
  refine W.newcK hx hb hown hcl hinst hini rfl hdg hcells hslots hKn.2.1 rfl fun H1 kC hkC e1 z1 o1 => ?_
  exact kk H1 (fr_new0 hH o1 (hA _ hS.1) (c_obj (by simp [gK, pN])) ⟨_, hc, (u_born ty hts hin hKn hkC e1 hty).to hfs⟩) z1 ⟨Nat.le_trans hS.1 (by omega), fun x h1 h2 => (o1 x (Nat.lt_of_lt_of_le h1 hS.1)).trans (hS.2.1 x h1 h2), hS.2.2⟩
theorem fr_newI (hx : p.tables.exec = Jvm.exec) (hb : c.code = cc) (harr : (Cond.arrayClass .int).before args s = true) (hK : va_K D vwCl (fr_tys T) s) (hH : fr_H D T A σ H) (hS : va_S A H0 H locs) (hA : ∀ q, H0.size ≤ q → A q) (hN : H.size = nx) {n : Int32} {N : Nat} (hn : ¬ n < 0) (hNn : n.toNatClampNeg = N) (hby : N * 4 ≤ 536870912) (hcells : cells + 1 ≤ R.cells) (hslots : slots + N ≤ R.slots) (hdg : decode cc pc = .ok (.newarray .int, 2))
    (kk : ∀ H1 : Heap, fr_H D T A (pN σ nx (.inr (0, N))) H1 → H1.size = nx + 1 → va_S A H0 H1 locs → W p l e R s m args below meth c H1 locs (cells + 1) (slots + N) Q (F0 m (pc + 2) ls (.ref nx :: rest))) : W p l e R s m args below meth c H locs cells slots Q (F0 m pc ls (.int n :: rest)) := by
  subst hN
  refine va_newaK (atype := .int) hx hb harr rfl hdg rfl hn hNn hby hcells hslots rfl fun H1 cA e1 z1 o1 hAr hNm => ?_
  have hT : s.vm.findClass ("[" ++ FieldType.int.toString) = some (T 0) := (hK.2 0 (T 0, .int) rfl).2
  have hcA : cA = T 0 := Option.some.inj (hNm.symm.trans hT)
  subst hcA
  refine kk H1 (fr_new0 (e1 := .inl (T 0, N, .inl (fun _ => 0))) hH o1 (hA _ hS.1) ?_ e1) z1 ⟨Nat.le_trans hS.1 (by omega), fun x h1 h2 => (o1 x (Nat.lt_of_lt_of_le h1 hS.1)).trans (hS.2.1 x h1 h2), hS.2.2⟩
  rw [c_arr (t := 0) (n := N) (by simp [gK, pN])]
  simp [fr_el, gV, pN]
theorem fr_newZ (hx : p.tables.exec = Jvm.exec) (hb : c.code = cc) (harr : (Cond.arrayClass .boolean).before args s = true) (hK : va_K D vwCl (fr_tys T) s) (hH : fr_H D T A σ H) (hS : va_S A H0 H locs) (hA : ∀ q, H0.size ≤ q → A q) (hN : H.size = nx) {n : Int32} {N : Nat} (hn : ¬ n < 0) (hNn : n.toNatClampNeg = N) (hby : N * 1 ≤ 536870912) (hcells : cells + 1 ≤ R.cells) (hslots : slots + N ≤ R.slots) (hdg : decode cc pc = .ok (.newarray .boolean, 2))
    (kk : ∀ H1 : Heap, fr_H D T A (pN σ nx (.inr (1, N))) H1 → H1.size = nx + 1 → va_S A H0 H1 locs → W p l e R s m args below meth c H1 locs (cells + 1) (slots + N) Q (F0 m (pc + 2) ls (.ref nx :: rest))) : W p l e R s m args below meth c H locs cells slots Q (F0 m pc ls (.int n :: rest)) := by
  subst hN
  refine va_newaK (atype := .boolean) hx hb harr rfl hdg rfl hn hNn hby hcells hslots rfl fun H1 cA e1 z1 o1 hAr hNm => ?_
  have hT : s.vm.findClass ("[" ++ FieldType.boolean.toString) = some (T 1) := (hK.2 1 (T 1, .boolean) rfl).2
  have hcA : cA = T 1 := Option.some.inj (hNm.symm.trans hT)
  subst hcA
  refine kk H1 (fr_new0 (e1 := .inl (T 1, N, .inl (fun _ => 0))) hH o1 (hA _ hS.1) ?_ e1) z1 ⟨Nat.le_trans hS.1 (by omega), fun x h1 h2 => (o1 x (Nat.lt_of_lt_of_le h1 hS.1)).trans (hS.2.1 x h1 h2), hS.2.2⟩
  rw [c_arr (t := 1) (n := N) (by simp [gK, pN])]
  simp [fr_el, gV, pN]
theorem fr_newQ (hx : p.tables.exec = Jvm.exec) (hb : c.code = cc) {own C : String} {index t : Nat} (hown : s.vm.findClass own = some m.cls) (hcl : (Cond.classLink own index C).before args s = true) (hov : va_AO C s) (h2 : ¬ t < 2) (ht : (fr_tys T)[t]? = some (T t, .object C)) (hK : va_K D vwCl (fr_tys T) s) (hH : fr_H D T A σ H) (hS : va_S A H0 H locs) (hA : ∀ q, H0.size ≤ q → A q) (hN : H.size = nx) {n : Int32} {N : Nat} (hn : ¬ n < 0) (hNn : n.toNatClampNeg = N) (hby : N * 4 ≤ 536870912) (hcells : cells + 1 ≤ R.cells) (hslots : slots + N ≤ R.slots) (hdg : decode cc pc = .ok (.anewarray index, 3))
    (kk : ∀ H1 : Heap, fr_H D T A (pN σ nx (.inr (t, N))) H1 → H1.size = nx + 1 → va_S A H0 H1 locs → W p l e R s m args below meth c H1 locs (cells + 1) (slots + N) Q (F0 m (pc + 3) ls (.ref nx :: rest))) : W p l e R s m args below meth c H locs cells slots Q (F0 m pc ls (.int n :: rest)) := by
  subst hN
  subst hNn
  refine W.anew hx hb hown hcl (va_AO.use hov) rfl hdg rfl hn hby hcells hslots fun cA kA comp f1 f2 f3 f4 => ?_
  generalize hH1 : H.push ({ cls := cA, slots := Array.replicate n.toNatClampNeg .null, vm := .none } : Cell) = H1
  have z1 : H1.size = H.size + 1 := by rw [← hH1, Array.size_push]
  have e1 : H1[H.size]? = some (arrV cA n.toNatClampNeg (fun _ => .null)) := by rw [← hH1, Array.getElem?_push_size, ← arrV_new]
  have o1 : ∀ q, q < H.size → H1[q]? = H[q]? := fun q hq => by rw [← hH1, Array.getElem?_push, if_neg (Nat.ne_of_lt hq)]
  obtain ⟨kA', comp', g1, g2, g3, hT⟩ : va_RA s (T t) (.object C) := (hK.2 t _ ht).2
  have hcA : cA = T t := Option.some.inj (f1.symm.trans hT)
  subst hcA
  refine kk H1 (fr_new0 (e1 := .inl (T t, n.toNatClampNeg, .inr (.inr (.inr (.inr (fun _ => none)))))) hH o1 (hA _ hS.1) ?_ e1) z1 ⟨Nat.le_trans hS.1 (by omega), fun x h1 h2 => (o1 x (Nat.lt_of_lt_of_le h1 hS.1)).trans (hS.2.1 x h1 h2), hS.2.2⟩
  rw [c_arr (t := t) (n := n.toNatClampNeg) (by simp [gK, pN])]
  simp [fr_el, gQ, pN, h2]
end FRM
/-! the same rows over the words of a walk: room, new cells, writes with the size known -/
def oR (cl mc sl ms : Nat) : Option Unit := if cl ≤ mc ∧ sl ≤ ms then some () else none
theorem oR_inv {cl mc sl ms : Nat} {u : Unit} (h : oR cl mc sl ms = some u) : cl ≤ mc ∧ sl ≤ ms := by
  unfold oR at h
  by_cases hk : cl ≤ mc ∧ sl ≤ ms
  · exact hk
  · rw [if_neg hk] at h; cases h
def nC (σ : fr_S) (a : Nat) (k : fr_K) : Option fr_S := some (pN σ a k)
def fr_BN (D : va_G) (T : Nat → ClassId) (A : Nat → Prop) (nx : Nat) (σ : fr_S) (U : State) : Prop := U.heap.size = nx ∧ fr_B D T A σ U
def fr_QN (D : va_G) (T : Nat → ClassId) (A : Nat → Prop) (σ1 : fr_S) (nx1 : Nat) : Array Value → State → Outcome → State → Prop := va_Qv (fun u : fr_S × Nat => u = (σ1, nx1)) (fun u => fr_BN D T A u.2 u.1) A
theorem fr_blindN {D : va_G} {T : Nat → ClassId} {A : Nat → Prop} {σ : fr_S} {nx : Nat} {av : List Value} : FrameBlind (va_Pc av (fr_BN D T A nx σ)) := fun a U g mk q => ⟨q.1, q.2.1, q.2.2.1, va_K.moved (u := U) (U := U.calling g mk a) (Vm.Alike.refl U.vm) q.2.2.2.1, fr_X.same (u := U) (U := U.calling g mk a) rfl q.2.2.2.2⟩
theorem fr_preN {D : va_G} {T : Nat → ClassId} {A : Nat → Prop} {σ : fr_S} {s : State} {H : Heap} {nx : Nat} (hK : va_K D vwCl (fr_tys T) s) (hX : fr_X s) (hH : fr_H D T A σ H) (hN : H.size = nx) (As : List Value) : PreS s H (va_Pc As (fr_BN D T A nx σ)) As :=
  ⟨fr_blindN, fun U hU hW => ⟨rfl, by rw [hU]; exact hN, by rw [hU]; exact hH, va_K.moved hW.alike hK, hX.warm hW⟩⟩
def fr_MI (y : MethodName) (bytes : ByteArray) (maxL n : Nat) : Prop := Cond.instanceMethod y ∈ fr_W ∧ Cond.initialized y.cls ∈ fr_W ∧ Cond.code y bytes maxL none ∈ fr_W ∧ (y.cls ≠ "java/lang/invoke/MethodHandle" ∧ y.cls ≠ "java/lang/invoke/VarHandle" ∧ (parseMethodDescriptor y.desc).map (fun d => d.parameters.length) = some n) ∧ y.name = "<init>"
section FRO
variable {p : Program} {l : Launch} {e : Env} {R : Room} {s : State} {m : MethodId} {args : Array Value} {below : List Frame} {meth : Method} {c : Code} {H : Heap} {locs : List Loc} {cells slots : Nat} {Q : State → Prop}
variable {cc : ByteArray} {pc : Nat} {ls : Array Slot} {rest st0 : List Value} {D : va_G} {T : Nat → ClassId} {A : Nat → Prop} {a nx nx1 : Nat} {σ σ1 : fr_S} {H0 : Heap}
theorem fr_newO {ci : Nat} (h : nC σ nx (.inl ci) = some σ1) (hx : p.tables.exec = Jvm.exec) (hb : c.code = cc) {own C : String} {Tt : u_T} {N index : Nat} {Ts : List Cond} (hts : ∀ w ∈ Ts, w.before args s = true) (hin : ∀ w ∈ u_ws C Tt N, w ∈ Ts) (ty : Nat → FieldType) (hty : ∀ k, k < N → parseFieldDescriptor (Tt k).2.2.1 = some (ty k)) (hown : s.vm.findClass own = some m.cls) (hcl : (Cond.classLink own index C).before args s = true) (hinst : (Cond.instantiable C N).before args s = true) (hini : (Cond.initialized C).before args s = true)
    (hK : va_K D vwCl (fr_tys T) s) (hH : fr_H D T A σ H) (hS : va_S A H0 H locs) (hA : ∀ q, H0.size ≤ q → A q) (hN : H.size = nx) (hc : vwCl[ci]? = some (C, Tt, N)) (hfs : ∀ j, j < N → defaultValue (ty j) = vp_V (fr_fl (pN σ nx (.inl ci)) ci nx) j) (hcells : cells + 1 ≤ R.cells) (hslots : slots + N ≤ R.slots) (hdg : decode cc pc = .ok (.new index, 3))
    (kk : ∀ H1 : Heap, fr_H D T A σ1 H1 → H1.size = nx + 1 → va_S A H0 H1 locs → W p l e R s m args below meth c H1 locs (cells + 1) (slots + N) Q (F0 m (pc + 3) ls (.ref nx :: rest))) : W p l e R s m args below meth c H locs cells slots Q (F0 m pc ls rest) := by
  cases h
  exact fr_new hx hb hts hin ty hty hown hcl hinst hini hK hH hS hA hN hc hfs hcells hslots hdg kk
theorem fr_newI0 {N : Nat} (h : nC σ nx (.inr (0, N)) = some σ1) (hx : p.tables.exec = Jvm.exec) (hb : c.code = cc) (harr : (Cond.arrayClass .int).before args s = true) (hK : va_K D vwCl (fr_tys T) s) (hH : fr_H D T A σ H) (hS : va_S A H0 H locs) (hA : ∀ q, H0.size ≤ q → A q) (hN : H.size = nx) {n : Int32} (hn : ¬ n < 0) (hNn : n.toNatClampNeg = N) (hby : N * 4 ≤ 536870912) (hcells : cells + 1 ≤ R.cells) (hslots : slots + N ≤ R.slots) (hdg : decode cc pc = .ok (.newarray .int, 2))
    (kk : ∀ H1 : Heap, fr_H D T A σ1 H1 → H1.size = nx + 1 → va_S A H0 H1 locs → W p l e R s m args below meth c H1 locs (cells + 1) (slots + N) Q (F0 m (pc + 2) ls (.ref nx :: rest))) : W p l e R s m args below meth c H locs cells slots Q (F0 m pc ls (.int n :: rest)) := by
  cases h
  exact fr_newI hx hb harr hK hH hS hA hN hn hNn hby hcells hslots hdg kk
theorem fr_newZ0 {N : Nat} (h : nC σ nx (.inr (1, N)) = some σ1) (hx : p.tables.exec = Jvm.exec) (hb : c.code = cc) (harr : (Cond.arrayClass .boolean).before args s = true) (hK : va_K D vwCl (fr_tys T) s) (hH : fr_H D T A σ H) (hS : va_S A H0 H locs) (hA : ∀ q, H0.size ≤ q → A q) (hN : H.size = nx) {n : Int32} (hn : ¬ n < 0) (hNn : n.toNatClampNeg = N) (hby : N * 1 ≤ 536870912) (hcells : cells + 1 ≤ R.cells) (hslots : slots + N ≤ R.slots) (hdg : decode cc pc = .ok (.newarray .boolean, 2))
    (kk : ∀ H1 : Heap, fr_H D T A σ1 H1 → H1.size = nx + 1 → va_S A H0 H1 locs → W p l e R s m args below meth c H1 locs (cells + 1) (slots + N) Q (F0 m (pc + 2) ls (.ref nx :: rest))) : W p l e R s m args below meth c H locs cells slots Q (F0 m pc ls (.int n :: rest)) := by
  cases h
  exact fr_newZ hx hb harr hK hH hS hA hN hn hNn hby hcells hslots hdg kk
theorem fr_newQ0 {t N : Nat} (h : nC σ nx (.inr (t, N)) = some σ1) (hx : p.tables.exec = Jvm.exec) (hb : c.code = cc) {own C : String} {index : Nat} (hown : s.vm.findClass own = some m.cls) (hcl : (Cond.classLink own index C).before args s = true) (hov : va_AO C s) (h2 : ¬ t < 2) (ht : (fr_tys T)[t]? = some (T t, .object C)) (hK : va_K D vwCl (fr_tys T) s) (hH : fr_H D T A σ H) (hS : va_S A H0 H locs) (hA : ∀ q, H0.size ≤ q → A q) (hN : H.size = nx) {n : Int32} (hn : ¬ n < 0) (hNn : n.toNatClampNeg = N) (hby : N * 4 ≤ 536870912) (hcells : cells + 1 ≤ R.cells) (hslots : slots + N ≤ R.slots) (hdg : decode cc pc = .ok (.anewarray index, 3))
    (kk : ∀ H1 : Heap, fr_H D T A σ1 H1 → H1.size = nx + 1 → va_S A H0 H1 locs → W p l e R s m args below meth c H1 locs (cells + 1) (slots + N) Q (F0 m (pc + 3) ls (.ref nx :: rest))) : W p l e R s m args below meth c H locs cells slots Q (F0 m pc ls (.int n :: rest)) := by
  cases h
  exact fr_newQ hx hb hown hcl hov h2 ht hK hH hS hA hN hn hNn hby hcells hslots hdg kk
theorem fr_putIN (hx : p.tables.exec = Jvm.exec) (hb : c.code = cc) {own ref C : String} {Tt : u_T} {N ci index : Nat} {Ts : List Cond} (hts : ∀ w ∈ Ts, w.before args s = true) (hin : ∀ w ∈ u_ws C Tt N, w ∈ Ts) (ty0 : Nat → FieldType) (hty : ∀ k, k < N → parseFieldDescriptor (Tt k).2.2.1 = some (ty0 k)) (hnm : ∀ a, a < N → ∀ b, b < N → a ≠ b → (Tt a).2.1 ≠ (Tt b).2.1) (hown : s.vm.findClass own = some m.cls) (hK : va_K D vwCl (fr_tys T) s) (hH : fr_H D T A σ H) (hN : H.size = nx) (hS : va_S A H0 H locs) {f : Nat} {v : Int32} (h : sI σ ci f a v = some σ1) (hc : vwCl[ci]? = some (C, Tt, N)) (k : Nat) (hk : k < N) (hlink : (Cond.fieldLink own index ref (Tt k).2.1 (Tt k).2.2.1).before args s = true) (hsame : ∀ x, s.fieldFound? (Tt k).1 (Tt k).2.1 (Tt k).2.2.1 = some x → s.fieldFound? ref (Tt k).2.1 (Tt k).2.2.1 = some x) (hfin : (Tt k).2.2.2 = false) (hd : parseFieldDescriptor (Tt k).2.2.1 = some .int) (hset : (fr_fl σ ci a).set k (.int v) = fr_fl (pI σ f a v) ci a) (hl : k < (fr_fl σ ci a).length) (hdg : decode cc pc = .ok (.putfield index, 3))
    (kk : ∀ (H1 : Heap) (locs1 : List Loc), fr_H D T A σ1 H1 → H1.size = nx → va_S A H0 H1 locs1 → W p l e R s m args below meth c H1 locs1 cells slots Q (F0 m (pc + 3) ls rest)) : W p l e R s m args below meth c H locs cells slots Q (F0 m pc ls (.int v :: .ref a :: rest)) := by
  obtain ⟨hk0, hs0⟩ := sI_inv h
  subst hs0
  refine fr_putC hx hb hts hin ty0 hty hnm hown hK (hH.1 a _ (c_obj hk0)) (hH.2 a (by rw [hk0]; exact fun z => by cases z)) hS hc k hk hlink hsame hfin hd rfl rfl hl hdg (fun H1 locs1 he hz oq hS1 => kk H1 locs1 (fr_backN hH he oq ?_ c_pI (fun _ => rfl)) (hz.trans hN) hS1)
  rw [hset]
  exact c_obj hk0
theorem fr_putZN (hx : p.tables.exec = Jvm.exec) (hb : c.code = cc) {own ref C : String} {Tt : u_T} {N ci index : Nat} {Ts : List Cond} (hts : ∀ w ∈ Ts, w.before args s = true) (hin : ∀ w ∈ u_ws C Tt N, w ∈ Ts) (ty0 : Nat → FieldType) (hty : ∀ k, k < N → parseFieldDescriptor (Tt k).2.2.1 = some (ty0 k)) (hnm : ∀ a, a < N → ∀ b, b < N → a ≠ b → (Tt a).2.1 ≠ (Tt b).2.1) (hown : s.vm.findClass own = some m.cls) (hK : va_K D vwCl (fr_tys T) s) (hH : fr_H D T A σ H) (hN : H.size = nx) (hS : va_S A H0 H locs) {f : Nat} {v : Int32} (h : sZ σ ci f a v = some σ1) (hc : vwCl[ci]? = some (C, Tt, N)) (k : Nat) (hk : k < N) (hlink : (Cond.fieldLink own index ref (Tt k).2.1 (Tt k).2.2.1).before args s = true) (hsame : ∀ x, s.fieldFound? (Tt k).1 (Tt k).2.1 (Tt k).2.2.1 = some x → s.fieldFound? ref (Tt k).2.1 (Tt k).2.2.1 = some x) (hfin : (Tt k).2.2.2 = false) (hd : parseFieldDescriptor (Tt k).2.2.1 = some .boolean) (hset : (fr_fl σ ci a).set k (.int v) = fr_fl (pI σ f a v) ci a) (hl : k < (fr_fl σ ci a).length) (hdg : decode cc pc = .ok (.putfield index, 3))
    (kk : ∀ (H1 : Heap) (locs1 : List Loc), fr_H D T A σ1 H1 → H1.size = nx → va_S A H0 H1 locs1 → W p l e R s m args below meth c H1 locs1 cells slots Q (F0 m (pc + 3) ls rest)) : W p l e R s m args below meth c H locs cells slots Q (F0 m pc ls (.int v :: .ref a :: rest)) := by
  obtain ⟨hk0, hz0, hs0⟩ := sZ_inv h
  subst hs0
  refine fr_putC hx hb hts hin ty0 hty hnm hown hK (hH.1 a _ (c_obj hk0)) (hH.2 a (by rw [hk0]; exact fun z => by cases z)) hS hc k hk hlink hsame hfin hd (by rcases hz0 with h1 | h1 <;> rw [h1] <;> rfl) (by rcases hz0 with h1 | h1 <;> rw [h1] <;> rfl) hl hdg (fun H1 locs1 he hz oq hS1 => kk H1 locs1 (fr_backN hH he oq ?_ c_pI (fun _ => rfl)) (hz.trans hN) hS1)
  rw [hset]
  exact c_obj hk0
theorem fr_putIFN (hx : p.tables.exec = Jvm.exec) (hb : c.code = cc) {own ref C : String} {Tt : u_T} {N ci index : Nat} {Ts : List Cond} (hts : ∀ w ∈ Ts, w.before args s = true) (hin : ∀ w ∈ u_ws C Tt N, w ∈ Ts) (ty0 : Nat → FieldType) (hty : ∀ k, k < N → parseFieldDescriptor (Tt k).2.2.1 = some (ty0 k)) (hnm : ∀ a, a < N → ∀ b, b < N → a ≠ b → (Tt a).2.1 ≠ (Tt b).2.1) (hown : s.vm.findClass own = some m.cls) (hK : va_K D vwCl (fr_tys T) s) (hH : fr_H D T A σ H) (hN : H.size = nx) (hS : va_S A H0 H locs) {f : Nat} {v : Int32} (h : sI σ ci f a v = some σ1) (hc : vwCl[ci]? = some (C, Tt, N)) (k : Nat) (hk : k < N) (hlink : (Cond.fieldLink own index ref (Tt k).2.1 (Tt k).2.2.1).before args s = true) (hsame : ∀ x, s.fieldFound? (Tt k).1 (Tt k).2.1 (Tt k).2.2.1 = some x → s.fieldFound? ref (Tt k).2.1 (Tt k).2.2.1 = some x) (hfin : (Tt k).2.2.2 = true) (hini : meth.name = "<init>") (hdecl : (Tt k).1 = own) (hd : parseFieldDescriptor (Tt k).2.2.1 = some .int) (hset : (fr_fl σ ci a).set k (.int v) = fr_fl (pI σ f a v) ci a) (hl : k < (fr_fl σ ci a).length) (hdg : decode cc pc = .ok (.putfield index, 3))
    (kk : ∀ (H1 : Heap) (locs1 : List Loc), fr_H D T A σ1 H1 → H1.size = nx → va_S A H0 H1 locs1 → W p l e R s m args below meth c H1 locs1 cells slots Q (F0 m (pc + 3) ls rest)) : W p l e R s m args below meth c H locs cells slots Q (F0 m pc ls (.int v :: .ref a :: rest)) := by
  obtain ⟨hk0, hs0⟩ := sI_inv h
  subst hs0
  refine fr_putD hx hb hts hin ty0 hty hnm hown hK (hH.1 a _ (c_obj hk0)) (hH.2 a (by rw [hk0]; exact fun z => by cases z)) hS hc k hk hlink hsame hfin hini hdecl hd rfl rfl hl hdg (fun H1 locs1 he hz oq hS1 => kk H1 locs1 (fr_backN hH he oq ?_ c_pI (fun _ => rfl)) (hz.trans hN) hS1)
  rw [hset]
  exact c_obj hk0
theorem fr_putPN (hx : p.tables.exec = Jvm.exec) (hb : c.code = cc) {own ref C : String} {Tt : u_T} {N ci index : Nat} {Ts : List Cond} (hts : ∀ w ∈ Ts, w.before args s = true) (hin : ∀ w ∈ u_ws C Tt N, w ∈ Ts) (ty0 : Nat → FieldType) (hty : ∀ k, k < N → parseFieldDescriptor (Tt k).2.2.1 = some (ty0 k)) (hnm : ∀ a, a < N → ∀ b, b < N → a ≠ b → (Tt a).2.1 ≠ (Tt b).2.1) (hown : s.vm.findClass own = some m.cls) (hK : va_K D vwCl (fr_tys T) s) (hH : fr_H D T A σ H) (hN : H.size = nx) (hS : va_S A H0 H locs) {f : Nat} {r : Nat} {ty : FieldType} (hrf : narrow ty (.ref r) = .ref r ∧ fits ty (.ref r) = true) (h : sP σ ci f a r = some σ1) (hc : vwCl[ci]? = some (C, Tt, N)) (k : Nat) (hk : k < N) (hlink : (Cond.fieldLink own index ref (Tt k).2.1 (Tt k).2.2.1).before args s = true) (hsame : ∀ x, s.fieldFound? (Tt k).1 (Tt k).2.1 (Tt k).2.2.1 = some x → s.fieldFound? ref (Tt k).2.1 (Tt k).2.2.1 = some x) (hfin : (Tt k).2.2.2 = false) (hd : parseFieldDescriptor (Tt k).2.2.1 = some ty) (hset : (fr_fl σ ci a).set k (.ref r) = fr_fl (pP σ f a (some r)) ci a) (hl : k < (fr_fl σ ci a).length) (hdg : decode cc pc = .ok (.putfield index, 3))
    (kk : ∀ (H1 : Heap) (locs1 : List Loc), fr_H D T A σ1 H1 → H1.size = nx → va_S A H0 H1 locs1 → W p l e R s m args below meth c H1 locs1 cells slots Q (F0 m (pc + 3) ls rest)) : W p l e R s m args below meth c H locs cells slots Q (F0 m pc ls (.ref r :: .ref a :: rest)) := by
  obtain ⟨hk0, hs0⟩ := sP_inv h
  subst hs0
  refine fr_putC hx hb hts hin ty0 hty hnm hown hK (hH.1 a _ (c_obj hk0)) (hH.2 a (by rw [hk0]; exact fun z => by cases z)) hS hc k hk hlink hsame hfin hd hrf.1 hrf.2 hl hdg (fun H1 locs1 he hz oq hS1 => kk H1 locs1 (fr_backN hH he oq ?_ c_pP (fun _ => rfl)) (hz.trans hN) hS1)
  rw [hset]
  exact c_obj hk0
theorem fr_putPFN (hx : p.tables.exec = Jvm.exec) (hb : c.code = cc) {own ref C : String} {Tt : u_T} {N ci index : Nat} {Ts : List Cond} (hts : ∀ w ∈ Ts, w.before args s = true) (hin : ∀ w ∈ u_ws C Tt N, w ∈ Ts) (ty0 : Nat → FieldType) (hty : ∀ k, k < N → parseFieldDescriptor (Tt k).2.2.1 = some (ty0 k)) (hnm : ∀ a, a < N → ∀ b, b < N → a ≠ b → (Tt a).2.1 ≠ (Tt b).2.1) (hown : s.vm.findClass own = some m.cls) (hK : va_K D vwCl (fr_tys T) s) (hH : fr_H D T A σ H) (hN : H.size = nx) (hS : va_S A H0 H locs) {f : Nat} {r : Nat} {ty : FieldType} (hrf : narrow ty (.ref r) = .ref r ∧ fits ty (.ref r) = true) (h : sP σ ci f a r = some σ1) (hc : vwCl[ci]? = some (C, Tt, N)) (k : Nat) (hk : k < N) (hlink : (Cond.fieldLink own index ref (Tt k).2.1 (Tt k).2.2.1).before args s = true) (hsame : ∀ x, s.fieldFound? (Tt k).1 (Tt k).2.1 (Tt k).2.2.1 = some x → s.fieldFound? ref (Tt k).2.1 (Tt k).2.2.1 = some x) (hfin : (Tt k).2.2.2 = true) (hini : meth.name = "<init>") (hdecl : (Tt k).1 = own) (hd : parseFieldDescriptor (Tt k).2.2.1 = some ty) (hset : (fr_fl σ ci a).set k (.ref r) = fr_fl (pP σ f a (some r)) ci a) (hl : k < (fr_fl σ ci a).length) (hdg : decode cc pc = .ok (.putfield index, 3))
    (kk : ∀ (H1 : Heap) (locs1 : List Loc), fr_H D T A σ1 H1 → H1.size = nx → va_S A H0 H1 locs1 → W p l e R s m args below meth c H1 locs1 cells slots Q (F0 m (pc + 3) ls rest)) : W p l e R s m args below meth c H locs cells slots Q (F0 m pc ls (.ref r :: .ref a :: rest)) := by
  obtain ⟨hk0, hs0⟩ := sP_inv h
  subst hs0
  refine fr_putD hx hb hts hin ty0 hty hnm hown hK (hH.1 a _ (c_obj hk0)) (hH.2 a (by rw [hk0]; exact fun z => by cases z)) hS hc k hk hlink hsame hfin hini hdecl hd hrf.1 hrf.2 hl hdg (fun H1 locs1 he hz oq hS1 => kk H1 locs1 (fr_backN hH he oq ?_ c_pP (fun _ => rfl)) (hz.trans hN) hS1)
  rw [hset]
  exact c_obj hk0
theorem fr_qstN (hx : p.tables.exec = Jvm.exec) (hb : c.code = cc) (hK : va_K D vwCl (fr_tys T) s) (hH : fr_H D T A σ H) (hN : H.size = nx) (hS : va_S A H0 H locs) {t ci v N : Nat} {C : String} {Tt : u_T} {i : Int32} (h : sQ σ t ci a i v = some σ1) (h2 : ¬ t < 2) (ht : (fr_tys T)[t]? = some (T t, .object C)) (hc : vwCl[ci]? = some (C, Tt, N)) (hdg : decode cc pc = .ok (.aastore, 1))
    (kk : ∀ (H1 : Heap) (locs1 : List Loc), fr_H D T A σ1 H1 → H1.size = nx → va_S A H0 H1 locs1 → W p l e R s m args below meth c H1 locs1 cells slots Q (F0 m (pc + 1) ls rest)) : W p l e R s m args below meth c H locs cells slots Q (F0 m pc ls (.ref v :: .int i :: .ref a :: rest)) := by
  obtain ⟨n, hk, hkv, hin, hs0⟩ := sQ_inv h
  subst hs0
  have hcA := c_arr (T := T) hk
  unfold fr_el at hcA
  rw [if_neg h2] at hcA
  have hPa := hH.1 a _ hcA
  obtain ⟨r', hr', cellV, g1, g2, g3, -⟩ := hH.1 v _ (c_obj hkv)
  have hcls := (hK.1 ci _ hc).2
  obtain ⟨kA, comp, k1, k2, k3, -⟩ : va_RA s (T t) (.object C) := (hK.2 t _ ht).2
  have hcomp : comp = D.1 ci := Option.some.inj (k3.symm.trans hcls.1)
  subst hcomp
  obtain ⟨kC, hkC, -⟩ := id hcls.2
  have hlt : i.toNatClampNeg < n := Nat.not_le.mp fun q => hin (Or.inr q)
  have h0 : ¬ i < 0 := fun q => hin (Or.inl q)
  refine W.aast hx hb hPa (fun q h => by cases h) (fun h => by cases h) k1 k2 rfl hkC ⟨h0, by show _ < (arrV _ _ _).slots.size; rw [arrV_size]; exact hlt⟩ g1 (fun q h => by rw [g3] at h; cases h) (by rw [g2]; exact hkC) (by rw [g2]; exact va_assign hcls) rfl rfl hdg fun H1 e1 z oq => ?_
  refine kk H1 _ (fr_backN (e1 := .inl (T t, n, .inr (.inr (.inr (.inr (va_up (gQ σ a) i.toNatClampNeg (some v))))))) hH ?_ oq ?_ c_pB (fun _ => rfl)) (z.trans hN) (hS.put z oq (hH.2 a (by rw [hk]; exact fun z => by cases z)))
  · show H1[a]? = some (vp_cell _ _)
    rw [e1]
    rw [vp_cell_q, vp_cell_q, arrV_store]
    congr 2
    funext q
    by_cases hq : q = i.toNatClampNeg
    · subst hq
      simp [updV, va_up, va_rf]
    · simp [updV, va_up, hq]
  · rw [c_arr (σ := pB σ a _) (t := t) (n := n) hk]
    unfold fr_el
    rw [if_neg h2, gQ_pB]
theorem fr_callN {mc ms : Nat} {a : Array Value} (hr : va_Run p l e R s m args below meth c H locs cells slots mc ms (F0 m pc ls st0) rest (fr_QN D T A σ1 nx1 a) A) (hS : va_S A H0 H locs)
    (kk : ∀ (H1 : Heap) (locs1 : List Loc), fr_H D T A σ1 H1 → H1.size = nx1 → va_S A H0 H1 locs1 → W p l e R s m args below meth c H1 locs1 (cells + mc) (slots + ms) Q (F0 m (pc + 3) ls rest)) : W p l e R s m args below meth c H locs cells slots Q (F0 m pc ls st0) := by
  refine va_callv hr hS (fun q _ h => h) (fun q h => h) (fun u t H1 locs1 ht hvm hw hB hz1 hk1 hS1 => ?_)
  subst hw
  have hN1 := hB.1
  have hH1 := hB.2.1
  rw [ht] at hH1 hN1
  exact kk H1 locs1 hH1 hN1 hS1
theorem fr_vretN (hx : p.tables.exec = Jvm.exec) (hb : c.code = cc) (hr : meth.sig.returnType = none) (hlocks : meth.locks = false) (h : some (σ, nx) = some (σ1, nx1)) (hH : fr_H D T A σ H) (hN : H.size = nx) (hK : va_K D vwCl (fr_tys T) s) (hX : fr_X s) (hS : va_S A s.heap H locs) (hdg : decode cc pc = .ok (.return_, 1)) : W p l e R s m args below meth c H locs cells slots (MQ below (fr_QN D T A σ1 nx1) args s cells slots A) (F0 m pc ls []) := by
  cases h
  exact W.vret hx hb hr (fun t ht hW => ⟨⟨(σ, nx), rfl, rfl, by rw [ht]; exact hN, by rw [ht]; exact hH, va_K.moved hW.alike hK, hX.warm hW⟩, hS.F ht⟩) hS.2.2 hdg (hlocks := hlocks)
theorem fr_IN {nL n index maxL mc ms : Nat} {y : MethodName} {bytes : ByteArray} {rm : Room} {Pc : Array Value → State → Prop} {Qc : Array Value → State → Outcome → State → Prop} {own host : String} {b : Nat} {As : List Value} (hfix : CallFix p m c cc nL s args fr_W own) (hM : Met l y (Cond.code y bytes maxL none :: fr_W) rm Pc Qc mc ms A) (hlk : va_Nw (.methodLinkNest own index y host) s) (hy : fr_MI y bytes maxL n) (hrc : rm.cells = mc) (hrs : rm.slots = ms) (hR : rm.frames + 1 ≤ R.frames ∧ 8 + (maxL + 11) + rm.locals ≤ R.locals) (hp : PreS s H Pc (.ref b :: As))
    (hn : As.length = n) (hsize : ls.size = nL) (hst : st0 = As.reverse ++ .ref b :: rest) (hW : (rest.map fun v => v.category).sum ≤ 8) (hdg : decode cc pc = .ok (.invokespecial index, 3)) (hf : cells + mc ≤ R.cells ∧ slots + ms ≤ R.slots) : va_Run p l e R s m args below meth c H locs cells slots mc ms (F0 m pc ls st0) rest (Qc (Value.ref b :: As).toArray) A := by
  obtain ⟨k2, k4, k5, kd, kn⟩ := hy
  have hts := hfix.2.2.2.2
  exact va_runIN hfix hM ⟨va_cnB n hts (fr_G k5) rfl hrc hrs hlk (hts _ k4) kd hR, kn, hts _ k2⟩ hp rfl hn hsize hst (lv_room hW) hdg hf
theorem fr_Ic {nL n index maxL mc ms : Nat} {y : MethodName} {bytes : ByteArray} {rm : Room} {Pc : Array Value → State → Prop} {Qc : Array Value → State → Outcome → State → Prop} {own : String} {b : Nat} {As : List Value} (hfix : CallFix p m c cc nL s args fr_W own) (hM : Met l y (Cond.code y bytes maxL none :: fr_W) rm Pc Qc mc ms A) (hlk : Cond.methodLink own index y ∈ fr_W) (hy : fr_MI y bytes maxL n) (hrc : rm.cells = mc) (hrs : rm.slots = ms) (hR : rm.frames + 1 ≤ R.frames ∧ 8 + (maxL + 11) + rm.locals ≤ R.locals) (hp : PreS s H Pc (.ref b :: As))
    (hn : As.length = n) (hsize : ls.size = nL) (hst : st0 = As.reverse ++ .ref b :: rest) (hW : (rest.map fun v => v.category).sum ≤ 8) (hdg : decode cc pc = .ok (.invokespecial index, 3)) (hf : cells + mc ≤ R.cells ∧ slots + ms ≤ R.slots) : va_Run p l e R s m args below meth c H locs cells slots mc ms (F0 m pc ls st0) rest (Qc (Value.ref b :: As).toArray) A := by
  obtain ⟨k2, k4, k5, kd, kn⟩ := hy
  have hts := hfix.2.2.2.2
  exact va_runI hfix hM ⟨callB_of n hts (fr_G k5) rfl hrc hrs (hts _ k4) (hts _ hlk) kd hR, kn, hts _ k2⟩ hp rfl hn hsize hst (lv_room hW) hdg hf
end FRO
theorem df_FR (σ : fr_S) (nx : Nat) : ∀ j, j < 14 → defaultValue (ty_FR j) = vp_V (fr_fl (pN σ nx (.inl 0)) 0 nx) j := by
  intro j hj
  rcases (show j = 0 ∨ j = 1 ∨ j = 2 ∨ j = 3 ∨ j = 4 ∨ j = 5 ∨ j = 6 ∨ j = 7 ∨ j = 8 ∨ j = 9 ∨ j = 10 ∨ j = 11 ∨ j = 12 ∨ j = 13 by omega) with rfl | rfl | rfl | rfl | rfl | rfl | rfl | rfl | rfl | rfl | rfl | rfl | rfl | rfl <;> simp [vp_V, fr_fl, gI, gP, pN, ty_FR, defaultValue, va_rf]
theorem df_Files (σ : fr_S) (nx : Nat) : ∀ j, j < 5 → defaultValue (ty_Files j) = vp_V (fr_fl (pN σ nx (.inl 1)) 1 nx) j := by
  intro j hj
  rcases (show j = 0 ∨ j = 1 ∨ j = 2 ∨ j = 3 ∨ j = 4 by omega) with rfl | rfl | rfl | rfl | rfl <;> simp [vp_V, fr_fl, gI, gP, pN, ty_Files, defaultValue, va_rf]
theorem df_Place (σ : fr_S) (nx : Nat) : ∀ j, j < 10 → defaultValue (ty_Place j) = vp_V (fr_fl (pN σ nx (.inl 2)) 2 nx) j := by
  intro j hj
  rcases (show j = 0 ∨ j = 1 ∨ j = 2 ∨ j = 3 ∨ j = 4 ∨ j = 5 ∨ j = 6 ∨ j = 7 ∨ j = 8 ∨ j = 9 by omega) with rfl | rfl | rfl | rfl | rfl | rfl | rfl | rfl | rfl | rfl <;> simp [vp_V, fr_fl, gI, gP, pN, ty_Place, defaultValue, va_rf]
theorem df_Row (σ : fr_S) (nx : Nat) : ∀ j, j < 2 → defaultValue (ty_Row j) = vp_V (fr_fl (pN σ nx (.inl 3)) 3 nx) j := by
  intro j hj
  rcases (show j = 0 ∨ j = 1 by omega) with rfl | rfl <;> simp [vp_V, fr_fl, gI, gP, pN, ty_Row, defaultValue, va_rf]
theorem df_Store (σ : fr_S) (nx : Nat) : ∀ j, j < 3 → defaultValue (ty_Store j) = vp_V (fr_fl (pN σ nx (.inl 4)) 4 nx) j := by
  intro j hj
  rcases (show j = 0 ∨ j = 1 ∨ j = 2 by omega) with rfl | rfl | rfl <;> simp [vp_V, fr_fl, gI, gP, pN, ty_Store, defaultValue, va_rf]
theorem df_Tellings (σ : fr_S) (nx : Nat) : ∀ j, j < 4 → defaultValue (ty_Tellings j) = vp_V (fr_fl (pN σ nx (.inl 5)) 5 nx) j := by
  intro j hj
  rcases (show j = 0 ∨ j = 1 ∨ j = 2 ∨ j = 3 by omega) with rfl | rfl | rfl | rfl <;> simp [vp_V, fr_fl, gI, gP, pN, ty_Tellings, defaultValue, va_rf]
theorem df_Want (σ : fr_S) (nx : Nat) : ∀ j, j < 9 → defaultValue (ty_Want j) = vp_V (fr_fl (pN σ nx (.inl 6)) 6 nx) j := by
  intro j hj
  rcases (show j = 0 ∨ j = 1 ∨ j = 2 ∨ j = 3 ∨ j = 4 ∨ j = 5 ∨ j = 6 ∨ j = 7 ∨ j = 8 by omega) with rfl | rfl | rfl | rfl | rfl | rfl | rfl | rfl | rfl <;> simp [vp_V, fr_fl, gI, gP, pN, ty_Want, defaultValue, va_rf]
theorem df_Md (σ : fr_S) (nx : Nat) : ∀ j, j < 44 → defaultValue (ty_Md j) = vp_V (fr_fl (pN σ nx (.inl 7)) 7 nx) j := by
  intro j hj
  rcases (show j = 0 ∨ j = 1 ∨ j = 2 ∨ j = 3 ∨ j = 4 ∨ j = 5 ∨ j = 6 ∨ j = 7 ∨ j = 8 ∨ j = 9 ∨ j = 10 ∨ j = 11 ∨ j = 12 ∨ j = 13 ∨ j = 14 ∨ j = 15 ∨ j = 16 ∨ j = 17 ∨ j = 18 ∨ j = 19 ∨ j = 20 ∨ j = 21 ∨ j = 22 ∨ j = 23 ∨ j = 24 ∨ j = 25 ∨ j = 26 ∨ j = 27 ∨ j = 28 ∨ j = 29 ∨ j = 30 ∨ j = 31 ∨ j = 32 ∨ j = 33 ∨ j = 34 ∨ j = 35 ∨ j = 36 ∨ j = 37 ∨ j = 38 ∨ j = 39 ∨ j = 40 ∨ j = 41 ∨ j = 42 ∨ j = 43 by omega) with rfl | rfl | rfl | rfl | rfl | rfl | rfl | rfl | rfl | rfl | rfl | rfl | rfl | rfl | rfl | rfl | rfl | rfl | rfl | rfl | rfl | rfl | rfl | rfl | rfl | rfl | rfl | rfl | rfl | rfl | rfl | rfl | rfl | rfl | rfl | rfl | rfl | rfl | rfl | rfl | rfl | rfl | rfl | rfl <;> simp [vp_V, fr_fl, gI, gP, pN, ty_Md, defaultValue, va_rf]
theorem mi_Row_init : fr_MI y_Row_init b_Row_init 1 0 := ⟨k_64, k_33, k_65, by decide +kernel, rfl⟩
theorem mi_Store_init : fr_MI y_Store_init b_Store_init 2 0 := ⟨k_57, k_32, k_58, by decide +kernel, rfl⟩
theorem mi_Tellings_init : fr_MI y_Tellings_init b_Tellings_init 1 0 := ⟨k_95, k_34, k_96, by decide +kernel, rfl⟩
theorem mi_Files_init : fr_MI y_Files_init b_Files_init 1 0 := ⟨k_117, k_35, k_118, by decide +kernel, rfl⟩
theorem mi_Place_init : fr_MI y_Place_init b_Place_init 1 0 := ⟨k_149, k_37, k_150, by decide +kernel, rfl⟩
theorem mi_Want_init : fr_MI y_Want_init b_Want_init 1 0 := ⟨k_197, k_38, k_198, by decide +kernel, rfl⟩
end
section
def m_FR_isHost (x0 : Int32) (σ : fr_S) : Option (Int32) :=
  if x0 < 0 then
    some 0
  else
    if 8 ≤ x0 then
      some 0
    else
      some 1
def m_FR_credential (h0 : Nat) (x1 : Int32) (x2 : Int32) (σ : fr_S) : Option (Int32 × fr_S) :=
  (m_FR_isHost x1 σ).bind fun r1 =>
  if r1 = 0 then
    some (0, σ)
  else
    (oP σ 0 1 h0).bind fun q3 =>
    (sV σ 1 q3 x1 (vp_nar .boolean x2)).bind fun σ_4 =>
    some (1, σ_4)
def m_FR_place (h0 : Nat) (x1 : Int32) (x2 : Int32) (σ : fr_S) : Option (Int32 × fr_S) :=
  (oI σ 0 4 h0).bind fun v1 =>
  if 16 ≤ v1 then
    some ((-1), σ)
  else
    (m_FR_isHost x1 σ).bind fun r3 =>
    if r3 = 0 then
      some ((-1), σ)
    else
      if x2 < 1 then
        some ((-1), σ)
      else
        if x2 ≤ 50 then
          (oP σ 0 3 h0).bind fun q7 =>
          (oI σ 0 4 h0).bind fun v8 =>
          (oQ σ 2 q7 v8).bind fun q9 =>
          (sI σ 2 129 q9 x1).bind fun σ_10 =>
          (sI σ_10 2 130 q9 x2).bind fun σ_11 =>
          (oI σ_11 0 4 h0).bind fun v12 =>
          (sI σ_11 0 4 h0 (v12 + 1)).bind fun σ_13 =>
          some (v12, σ_13)
        else
          some ((-1), σ)
def m_FR_isPlace (h0 : Nat) (x1 : Int32) (σ : fr_S) : Option (Int32) :=
  if x1 < 0 then
    some 0
  else
    (oI σ 0 4 h0).bind fun v2 =>
    if v2 ≤ x1 then
      some 0
    else
      some 1
def m_Row_append (h0 : Nat) (x1 : Int32) (σ : fr_S) : Option (fr_S) :=
  (oI σ 3 193 h0).bind fun v1 =>
  if 100 ≤ v1 then
    some σ
  else
    (oP σ 3 192 h0).bind fun q3 =>
    (oI σ 3 193 h0).bind fun v4 =>
    (sI σ 3 193 h0 (v4 + 1)).bind fun σ_5 =>
    (sV σ_5 0 q3 v4 x1).bind fun σ_6 =>
    some σ_6
def m_FR_content_L55 : Nat → Int64 → Nat → Int32 → fr_S → Option (Int32 × fr_S)
  | 0, _, _, _, _ => none
  | n + 1, y2, b5, y6, σ =>
    if y6 < 0 then
      some (1, σ)
    else
      (oK σ 3 b5).bind fun _ =>
      (m_Row_append b5 (((fr_lushr y2 (8 * y6)).toInt32 &&& 255)) σ).bind fun σ_13 =>
      m_FR_content_L55 n y2 b5 (y6 + (-1)) σ_13
def m_FR_content (h0 : Nat) (x1 : Int32) (x2 : Int64) (x4 : Int32) (σ : fr_S) : Option (Int32 × fr_S) :=
  (oK σ 0 h0).bind fun _ =>
  (m_FR_isPlace h0 x1 σ).bind fun r2 =>
  if r2 = 0 then
    some (0, σ)
  else
    if x4 < 1 then
      some (0, σ)
    else
      if x4 ≤ 8 then
        (oP σ 0 3 h0).bind fun q6 =>
        (oQ σ 2 q6 x1).bind fun q7 =>
        (oP σ 2 128 q7).bind fun q8 =>
        (oI σ 3 193 q8).bind fun v9 =>
        if (v9 + x4) ≤ 100 then
          m_FR_content_L55 1000 x2 q8 (x4 - 1) σ
        else
          some (0, σ)
      else
        some (0, σ)
def m_FR_does (h0 : Nat) (x1 : Int32) (x2 : Int32) (x3 : Int32) (σ : fr_S) : Option (Int32 × fr_S) :=
  (oK σ 0 h0).bind fun _ =>
  (m_FR_isPlace h0 x1 σ).bind fun r2 =>
  if r2 = 0 then
    some (0, σ)
  else
    (oP σ 0 3 h0).bind fun q4 =>
    (oQ σ 2 q4 x1).bind fun q5 =>
    if x2 = 0 then
      if x3 = 0 then
        (sZ σ 2 134 q5 0).bind fun σ_8 =>
        some (1, σ_8)
      else
        (sZ σ 2 134 q5 1).bind fun σ_9 =>
        some (1, σ_9)
    else
    if x2 = 1 then
      if x3 = (-1) then
        (sI σ 2 131 q5 x3).bind fun σ_12 =>
        some (1, σ_12)
      else
        (oK σ 0 h0).bind fun _ =>
        (m_FR_isPlace h0 x3 σ).bind fun r14 =>
        if r14 = 0 then
          some (0, σ)
        else
          (sI σ 2 131 q5 x3).bind fun σ_16 =>
          some (1, σ_16)
    else
    if x2 = 2 then
      if x3 = 0 then
        (sZ σ 2 135 q5 0).bind fun σ_19 =>
        some (1, σ_19)
      else
        (sZ σ 2 135 q5 1).bind fun σ_20 =>
        some (1, σ_20)
    else
    if x2 = 3 then
      if x3 = 0 then
        (sZ σ 2 136 q5 0).bind fun σ_23 =>
        some (1, σ_23)
      else
        (sZ σ 2 136 q5 1).bind fun σ_24 =>
        some (1, σ_24)
    else
      some (0, σ)
def m_FR_cut (h0 : Nat) (x1 : Int32) (x2 : Int32) (x3 : Int32) (σ : fr_S) : Option (Int32 × fr_S) :=
  (oK σ 0 h0).bind fun _ =>
  (m_FR_isPlace h0 x1 σ).bind fun r2 =>
  if r2 = 0 then
    some (0, σ)
  else
    if x2 < 0 then
      some (0, σ)
    else
      if 9 < x2 then
        some (0, σ)
      else
        if x3 < 0 then
          some (0, σ)
        else
          if x3 ≤ 100 then
            (oP σ 0 3 h0).bind fun q8 =>
            (oQ σ 2 q8 x1).bind fun q9 =>
            (sI σ 2 132 q9 x2).bind fun σ_10 =>
            (oP σ_10 0 3 h0).bind fun q11 =>
            (oQ σ_10 2 q11 x1).bind fun q12 =>
            (sI σ_10 2 133 q12 x3).bind fun σ_13 =>
            some (1, σ_13)
          else
            some (0, σ)
def m_Row_computeDigest_L4 : Nat → Nat → Int32 → Int32 → fr_S → Option (Int32)
  | 0, _, _, _, _ => none
  | n + 1, b0, y1, y2, σ =>
    (oI σ 3 193 b0).bind fun v1 =>
    if v1 ≤ y2 then
      some y1
    else
      (oP σ 3 192 b0).bind fun q3 =>
      (oV σ 0 q3 y2).bind fun v4 =>
      m_Row_computeDigest_L4 n b0 ((((y1 ^^^ v4) <<< (5 &&& 31)) ||| (fr_ushr (y1 ^^^ v4) 27)) * (-2048144777)) (y2 + 1) σ
def m_Row_computeDigest (h0 : Nat) (σ : fr_S) : Option (Int32) :=
  m_Row_computeDigest_L4 1000 h0 0 0 σ
def m_FR_digest (h0 : Nat) (x1 : Int32) (σ : fr_S) : Option (Int32) :=
  (oK σ 0 h0).bind fun _ =>
  (m_FR_isPlace h0 x1 σ).bind fun r2 =>
  if r2 = 0 then
    some 0
  else
    (oP σ 0 3 h0).bind fun q4 =>
    (oQ σ 2 q4 x1).bind fun q5 =>
    (oP σ 2 128 q5).bind fun q6 =>
    (oK σ 3 q6).bind fun _ =>
    (m_Row_computeDigest q6 σ).bind fun r8 =>
    some r8
def m_FR_want (h0 : Nat) (x1 : Int32) (σ : fr_S) : Option (Int32 × fr_S) :=
  (oI σ 0 6 h0).bind fun v1 =>
  if v1 < 10 then
    (oP σ 0 5 h0).bind fun q3 =>
    (oI σ 0 6 h0).bind fun v4 =>
    (oQ σ 3 q3 v4).bind fun q5 =>
    (sI σ 6 387 q5 x1).bind fun σ_6 =>
    (oI σ_6 0 6 h0).bind fun v7 =>
    (sI σ_6 0 6 h0 (v7 + 1)).bind fun σ_8 =>
    some (v7, σ_8)
  else
    some ((-1), σ)
def m_FR_isWant (h0 : Nat) (x1 : Int32) (σ : fr_S) : Option (Int32) :=
  if x1 < 0 then
    some 0
  else
    (oI σ 0 6 h0).bind fun v2 =>
    if v2 ≤ x1 then
      some 0
    else
      some 1
def m_Want_addPlace_L13 : Nat → Nat → Int32 → Int32 → fr_S → Option (Int32 × fr_S)
  | 0, _, _, _, _ => none
  | n + 1, b0, y1, y2, σ =>
    (oI σ 6 386 b0).bind fun v3 =>
    if v3 ≤ y2 then
      (oP σ 6 385 b0).bind fun q5 =>
      (oI σ 6 386 b0).bind fun v6 =>
      (sI σ 6 386 b0 (v6 + 1)).bind fun σ_7 =>
      (sV σ_7 0 q5 v6 y1).bind fun σ_8 =>
      some (1, σ_8)
    else
      (oP σ 6 385 b0).bind fun q9 =>
      (oV σ 0 q9 y2).bind fun v10 =>
      if v10 = y1 then
        some (0, σ)
      else
        m_Want_addPlace_L13 n b0 y1 (y2 + 1) σ
def m_Want_addPlace (h0 : Nat) (x1 : Int32) (σ : fr_S) : Option (Int32 × fr_S) :=
  (oI σ 6 386 h0).bind fun v1 =>
  if v1 < 6 then
    m_Want_addPlace_L13 1000 h0 x1 0 σ
  else
    some (0, σ)
def m_FR_from (h0 : Nat) (x1 : Int32) (x2 : Int32) (σ : fr_S) : Option (Int32 × fr_S) :=
  (oK σ 0 h0).bind fun _ =>
  (m_FR_isWant h0 x1 σ).bind fun r2 =>
  if r2 = 0 then
    some (0, σ)
  else
    (oK σ 0 h0).bind fun _ =>
    (m_FR_isPlace h0 x2 σ).bind fun r5 =>
    if r5 = 0 then
      some (0, σ)
    else
      (oP σ 0 5 h0).bind fun q7 =>
      (oQ σ 3 q7 x1).bind fun q8 =>
      (oI σ 6 388 q8).bind fun v9 =>
      if v9 = 0 then
        (oP σ 0 5 h0).bind fun q11 =>
        (oQ σ 3 q11 x1).bind fun q12 =>
        (oK σ 6 q12).bind fun _ =>
        (m_Want_addPlace q12 x2 σ).bind fun w14 =>
        (oZ w14.1).bind fun _ =>
        some (w14.1, w14.2)
      else
        some (0, σ)
def m_FR_offLine (h0 : Nat) (x1 : Int32) (σ : fr_S) : Option (fr_S) :=
  (sZ σ 0 12 h0 x1).bind fun σ_1 =>
  (sI σ_1 0 10 h0 0).bind fun σ_2 =>
  some σ_2
def m_Want_isBusy (h0 : Nat) (σ : fr_S) : Option (Int32) :=
  (oI σ 6 388 h0).bind fun v1 =>
  if v1 = 1 then
    some 1
  else
    (oI σ 6 388 h0).bind fun v3 =>
    if v3 = 2 then
      some 1
    else
      some 0
def m_Store_find_L2 : Nat → Nat → Int32 → Int32 → fr_S → Option (Int32)
  | 0, _, _, _, _ => none
  | n + 1, b0, y1, y2, σ =>
    (oI σ 4 258 b0).bind fun v1 =>
    if v1 ≤ y2 then
      some ((-1))
    else
      (oP σ 4 256 b0).bind fun q3 =>
      (oV σ 0 q3 y2).bind fun v4 =>
      if v4 = y1 then
        some y2
      else
        m_Store_find_L2 n b0 y1 (y2 + 1) σ
def m_Store_find (h0 : Nat) (x1 : Int32) (σ : fr_S) : Option (Int32) :=
  m_Store_find_L2 1000 h0 x1 0 σ
def m_Row_copyFrom (h0 : Nat) (a1 : Nat) (σ : fr_S) : Option (fr_S) :=
  (oP σ 3 192 a1).bind fun q1 =>
  (oP σ 3 192 h0).bind fun q2 =>
  (oI σ 3 193 a1).bind fun v3 =>
  (sC σ q1 0 q2 0 v3).bind fun σ_4 =>
  (oI σ_4 3 193 a1).bind fun v5 =>
  (sI σ_4 3 193 h0 v5).bind fun σ_6 =>
  some σ_6
def m_FR_noteLacking_L2 : Nat → Nat → Int32 → Int32 → fr_S → Option (fr_S)
  | 0, _, _, _, _ => none
  | n + 1, b0, y1, y2, σ =>
    (oI σ 0 10 b0).bind fun v1 =>
    if v1 ≤ y2 then
      (oI σ 0 10 b0).bind fun v3 =>
      if 10 ≤ v3 then
        some σ
      else
        (oP σ 0 9 b0).bind fun q5 =>
        (oI σ 0 10 b0).bind fun v6 =>
        (sI σ 0 10 b0 (v6 + 1)).bind fun σ_7 =>
        (sV σ_7 0 q5 v6 y1).bind fun σ_8 =>
        some σ_8
    else
      (oP σ 0 9 b0).bind fun q9 =>
      (oV σ 0 q9 y2).bind fun v10 =>
      if v10 = y1 then
        some σ
      else
        m_FR_noteLacking_L2 n b0 y1 (y2 + 1) σ
def m_FR_noteLacking (h0 : Nat) (x1 : Int32) (σ : fr_S) : Option (fr_S) :=
  m_FR_noteLacking_L2 1000 h0 x1 0 σ
def m_Want_startAt (h0 : Nat) (x1 : Int32) (σ : fr_S) : Option (fr_S) :=
  (sI σ 6 389 h0 x1).bind fun σ_1 =>
  (sI σ_1 6 390 h0 0).bind fun σ_2 =>
  (oP σ_2 6 384 h0).bind fun q3 =>
  (sI σ_2 3 193 q3 0).bind fun σ_4 =>
  (sI σ_4 6 388 h0 1).bind fun σ_5 =>
  some σ_5
def m_FR_fetchFrom_L2 : Nat → Nat → Nat → Int32 → fr_S → Option (fr_S)
  | 0, _, _, _, _ => none
  | n + 1, b0, b1, y3, σ =>
    (oI σ 6 386 b1).bind fun v1 =>
    if v1 ≤ y3 then
      (sI σ 6 388 b1 4).bind fun σ_3 =>
      some σ_3
    else
      (oP σ 0 3 b0).bind fun q4 =>
      (oP σ 6 385 b1).bind fun q5 =>
      (oV σ 0 q5 y3).bind fun v6 =>
      (oQ σ 2 q4 v6).bind fun q7 =>
      (oI σ 2 137 q7).bind fun v8 =>
      if v8 = 0 then
        (oK σ 6 b1).bind fun _ =>
        (m_Want_startAt b1 y3 σ).bind fun σ_11 =>
        some σ_11
      else
        m_FR_fetchFrom_L2 n b0 b1 (y3 + 1) σ
def m_FR_fetchFrom (h0 : Nat) (a1 : Nat) (x2 : Int32) (σ : fr_S) : Option (fr_S) :=
  m_FR_fetchFrom_L2 1000 h0 a1 x2 σ
def m_FR_begin (h0 : Nat) (x1 : Int32) (σ : fr_S) : Option (Int32 × fr_S) :=
  (oK σ 0 h0).bind fun _ =>
  (m_FR_isWant h0 x1 σ).bind fun r2 =>
  if r2 = 0 then
    some ((-1), σ)
  else
    (oP σ 0 5 h0).bind fun q4 =>
    (oQ σ 3 q4 x1).bind fun q5 =>
    (oK σ 6 q5).bind fun _ =>
    (m_Want_isBusy q5 σ).bind fun r7 =>
    if r7 = 0 then
      (oP σ 0 5 h0).bind fun q9 =>
      (oQ σ 3 q9 x1).bind fun q10 =>
      (oP σ 0 7 h0).bind fun q11 =>
      (oI σ 6 387 q10).bind fun v12 =>
      (oK σ 4 q11).bind fun _ =>
      (m_Store_find q11 v12 σ).bind fun r14 =>
      if r14 = (-1) then
        (oI σ 0 12 h0).bind fun v16 =>
        if v16 = 0 then
          (oK σ 0 h0).bind fun _ =>
          (m_FR_fetchFrom h0 q10 0 σ).bind fun σ_19 =>
          (oI σ_19 6 388 q10).bind fun v20 =>
          some (v20, σ_19)
        else
          (sI σ 6 388 q10 4).bind fun σ_21 =>
          (oK σ_21 0 h0).bind fun _ =>
          (m_FR_noteLacking h0 x1 σ_21).bind fun σ_23 =>
          (oI σ_23 6 388 q10).bind fun v24 =>
          some (v24, σ_23)
      else
        (oP σ 6 384 q10).bind fun q25 =>
        (oP σ 0 7 h0).bind fun q26 =>
        (oP σ 4 257 q26).bind fun q27 =>
        (oQ σ 4 q27 r14).bind fun q28 =>
        (oK σ 3 q25).bind fun _ =>
        (m_Row_copyFrom q25 q28 σ).bind fun σ_30 =>
        (sI σ_30 6 388 q10 3).bind fun σ_31 =>
        (oI σ_31 6 388 q10).bind fun v32 =>
        some (v32, σ_31)
    else
      some ((-1), σ)
def m_Want_currentPlace (h0 : Nat) (σ : fr_S) : Option (Int32) :=
  (oI σ 6 389 h0).bind fun v1 =>
  if v1 < 0 then
    some ((-1))
  else
    (oI σ 6 389 h0).bind fun v3 =>
    (oI σ 6 386 h0).bind fun v4 =>
    if v4 ≤ v3 then
      some ((-1))
    else
      (oP σ 6 385 h0).bind fun q6 =>
      (oI σ 6 389 h0).bind fun v7 =>
      (oV σ 0 q6 v7).bind fun v8 =>
      some v8
def m_FR_countSent (h0 : Nat) (x1 : Int32) (x2 : Int32) (σ : fr_S) : Option (fr_S) :=
  if x2 = 0 then
    some σ
  else
    (oP σ 0 2 h0).bind fun q2 =>
    (oP σ 0 3 h0).bind fun q3 =>
    (oQ σ 2 q3 x1).bind fun q4 =>
    (oI σ 2 129 q4).bind fun v5 =>
    (oV σ 0 q2 v5).bind fun v6 =>
    (sV σ 0 q2 v5 (v6 + 1)).bind fun σ_7 =>
    some σ_7
def m_Place_leadsOn (h0 : Nat) (σ : fr_S) : Option (Int32) :=
  (oI σ 2 134 h0).bind fun v1 =>
  if v1 = 0 then
    (oI σ 2 131 h0).bind fun v3 =>
    if v3 = (-1) then
      some 0
    else
      some 1
  else
    some 0
def m_Place_gives (h0 : Nat) (x1 : Int32) (σ : fr_S) : Option (Int32) :=
  (oI σ 2 134 h0).bind fun v1 =>
  if v1 = 0 then
    (oI σ 2 131 h0).bind fun v3 =>
    if v3 = (-1) then
      if x1 = 0 then
        (oI σ 2 135 h0).bind fun v6 =>
        if v6 = 0 then
          some 1
        else
          some 0
      else
        some 1
    else
      some 0
  else
    some 0
def m_FR_ask_L36 : Nat → Nat → Int32 → Int32 → Int32 → fr_S → Option (Int32 × fr_S)
  | 0, _, _, _, _, _ => none
  | n + 1, b0, y2, y3, y4, σ =>
    if 3 ≤ y4 then
      (oP σ 0 3 b0).bind fun q12 =>
      (oQ σ 2 q12 y2).bind fun q13 =>
      (oK σ 2 q13).bind fun _ =>
      (m_Place_gives q13 y3 σ).bind fun r15 =>
      if r15 = 0 then
        some ((-1), σ)
      else
        some (y2, σ)
    else
      (oP σ 0 3 b0).bind fun q17 =>
      (oQ σ 2 q17 y2).bind fun q18 =>
      (oK σ 2 q18).bind fun _ =>
      (m_Place_leadsOn q18 σ).bind fun r20 =>
      if r20 = 0 then
        (oP σ 0 3 b0).bind fun q22 =>
        (oQ σ 2 q22 y2).bind fun q23 =>
        (oK σ 2 q23).bind fun _ =>
        (m_Place_gives q23 y3 σ).bind fun r25 =>
        if r25 = 0 then
          some ((-1), σ)
        else
          some (y2, σ)
      else
        (oP σ 0 3 b0).bind fun q27 =>
        (oQ σ 2 q27 y2).bind fun q28 =>
        (oI σ 2 131 q28).bind fun v29 =>
        if y3 = 0 then
          (oK σ 0 b0).bind fun _ =>
          (m_FR_countSent b0 v29 0 σ).bind fun σ_32 =>
          m_FR_ask_L36 n b0 v29 0 (y4 + 1) σ_32
        else
          (oP σ 0 3 b0).bind fun q33 =>
          (oQ σ 2 q33 v29).bind fun q34 =>
          (oI σ 2 129 q34).bind fun v35 =>
          (oP σ 0 3 b0).bind fun q36 =>
          (oQ σ 2 q36 y2).bind fun q37 =>
          (oI σ 2 129 q37).bind fun v38 =>
          if v35 = v38 then
            (oK σ 0 b0).bind fun _ =>
            (m_FR_countSent b0 v29 1 σ).bind fun σ_43 =>
            m_FR_ask_L36 n b0 v29 1 (y4 + 1) σ_43
          else
            (oK σ 0 b0).bind fun _ =>
            (m_FR_countSent b0 v29 0 σ).bind fun σ_41 =>
            m_FR_ask_L36 n b0 v29 0 (y4 + 1) σ_41
def m_FR_ask (h0 : Nat) (x1 : Int32) (σ : fr_S) : Option (Int32 × fr_S) :=
  (oK σ 0 h0).bind fun _ =>
  (m_FR_isPlace h0 x1 σ).bind fun r2 =>
  if r2 = 0 then
    some ((-1), σ)
  else
    (oP σ 0 1 h0).bind fun q4 =>
    (oP σ 0 3 h0).bind fun q5 =>
    (oQ σ 2 q5 x1).bind fun q6 =>
    (oI σ 2 129 q6).bind fun v7 =>
    (oV σ 1 q4 v7).bind fun v8 =>
    (oK σ 0 h0).bind fun _ =>
    (m_FR_countSent h0 x1 v8 σ).bind fun σ_10 =>
    m_FR_ask_L36 1000 h0 x1 v8 0 σ_10
def m_FR_giveUp (h0 : Nat) (a1 : Nat) (σ : fr_S) : Option (fr_S) :=
  (oI σ 6 389 a1).bind fun v1 =>
  (oK σ 0 h0).bind fun _ =>
  (m_FR_fetchFrom h0 a1 ((v1 + 1)) σ).bind fun σ_3 =>
  some σ_3
def m_Row_at (h0 : Nat) (x1 : Int32) (σ : fr_S) : Option (Int32) :=
  if x1 < 0 then
    some ((-1))
  else
    (oI σ 3 193 h0).bind fun v2 =>
    if v2 ≤ x1 then
      some ((-1))
    else
      (oP σ 3 192 h0).bind fun q4 =>
      (oV σ 0 q4 x1).bind fun v5 =>
      some v5
def m_Place_givenByte (h0 : Nat) (x1 : Int32) (σ : fr_S) : Option (Int32) :=
  if x1 = 0 then
    (oI σ 2 136 h0).bind fun v5 =>
    if v5 = 0 then
      (oP σ 2 128 h0).bind fun q7 =>
      (oK σ 3 q7).bind fun _ =>
      (m_Row_at q7 x1 σ).bind fun r9 =>
      some r9
    else
      (oP σ 2 128 h0).bind fun q10 =>
      (oK σ 3 q10).bind fun _ =>
      (m_Row_at q10 x1 σ).bind fun r12 =>
      some ((r12 ^^^ 1))
  else
    (oP σ 2 128 h0).bind fun q2 =>
    (oK σ 3 q2).bind fun _ =>
    (m_Row_at q2 x1 σ).bind fun r4 =>
    some r4
def m_Place_giveTo_L65 : Nat → Nat → Nat → Int32 → Int32 → Int32 → fr_S → Option (Int32 × fr_S)
  | 0, _, _, _, _, _, _ => none
  | n + 1, b0, b1, y2, y4, y5, σ =>
    if y4 ≤ y5 then
      (oZ y2).bind fun _ =>
      some (y2, σ)
    else
      (oK σ 2 b0).bind fun _ =>
      (m_Place_givenByte b0 y5 σ).bind fun r21 =>
      (oK σ 3 b1).bind fun _ =>
      (m_Row_append b1 r21 σ).bind fun σ_23 =>
      m_Place_giveTo_L65 n b0 b1 y2 y4 (y5 + 1) σ_23
def m_Place_giveTo (h0 : Nat) (a1 : Nat) (σ : fr_S) : Option (Int32 × fr_S) :=
  (oI σ 2 132 h0).bind fun v1 =>
  if v1 ≤ 0 then
    (oI σ 2 130 h0).bind fun v3 =>
    (oP σ 2 128 h0).bind fun q5 =>
    (oI σ 3 193 q5).bind fun v6 =>
    (oI σ 3 193 a1).bind fun v7 =>
    (oI σ 3 193 a1).bind fun v8 =>
    m_Place_giveTo_L65 1000 h0 a1 0 (if (v7 + v3) < v6 then (v7 + v3) else v6) v8 σ
  else
    (oI σ 2 130 h0).bind fun v9 =>
    (oI σ 2 132 h0).bind fun v11 =>
    (sI σ 2 132 h0 (v11 - 1)).bind fun σ_12 =>
    (oI σ_12 2 133 h0).bind fun v13 =>
    (oP σ_12 2 128 h0).bind fun q14 =>
    (oI σ_12 3 193 q14).bind fun v15 =>
    (oI σ_12 3 193 a1).bind fun v16 =>
    (oI σ_12 3 193 a1).bind fun v17 =>
    m_Place_giveTo_L65 1000 h0 a1 1 (if (v16 + (if v13 < v9 then v13 else v9)) < v15 then (v16 + (if v13 < v9 then v13 else v9)) else v15) v17 σ_12
def m_Store_keep (h0 : Nat) (x1 : Int32) (a2 : Nat) (σ : fr_S) : Option (fr_S) :=
  (oK σ 4 h0).bind fun _ =>
  (m_Store_find h0 x1 σ).bind fun r2 =>
  if r2 = (-1) then
    (oI σ 4 258 h0).bind fun v4 =>
    if v4 < 10 then
      (oP σ 4 256 h0).bind fun q6 =>
      (oI σ 4 258 h0).bind fun v7 =>
      (sV σ 0 q6 v7 x1).bind fun σ_8 =>
      (oP σ_8 4 257 h0).bind fun q9 =>
      (oI σ_8 4 258 h0).bind fun v10 =>
      (oQ σ_8 4 q9 v10).bind fun q11 =>
      (oK σ_8 3 q11).bind fun _ =>
      (m_Row_copyFrom q11 a2 σ_8).bind fun σ_13 =>
      (oI σ_13 4 258 h0).bind fun v14 =>
      (sI σ_13 4 258 h0 (v14 + 1)).bind fun σ_15 =>
      some σ_15
    else
      some σ
  else
    some σ
def m_Tellings_tell (h0 : Nat) (x1 : Int32) (x2 : Int32) (x3 : Int32) (σ : fr_S) : Option (fr_S) :=
  (oI σ 5 323 h0).bind fun v1 =>
  if v1 < 60 then
    (oP σ 5 320 h0).bind fun q3 =>
    (oI σ 5 323 h0).bind fun v4 =>
    (sV σ 0 q3 v4 x1).bind fun σ_5 =>
    (oP σ_5 5 321 h0).bind fun q6 =>
    (oI σ_5 5 323 h0).bind fun v7 =>
    (sV σ_5 0 q6 v7 x2).bind fun σ_8 =>
    (oP σ_8 5 322 h0).bind fun q9 =>
    (oI σ_8 5 323 h0).bind fun v10 =>
    (sV σ_8 0 q9 v10 x3).bind fun σ_11 =>
    (oI σ_11 5 323 h0).bind fun v12 =>
    (sI σ_11 5 323 h0 (v12 + 1)).bind fun σ_13 =>
    some σ_13
  else
    some σ
def m_FR_checkDigest (h0 : Nat) (x1 : Int32) (σ : fr_S) : Option (fr_S) :=
  (oP σ 0 5 h0).bind fun q1 =>
  (oQ σ 3 q1 x1).bind fun q2 =>
  (oP σ 6 384 q2).bind fun q3 =>
  (oK σ 3 q3).bind fun _ =>
  (m_Row_computeDigest q3 σ).bind fun r5 =>
  (oI σ 6 387 q2).bind fun v6 =>
  if r5 = v6 then
    (sI σ 6 388 q2 3).bind fun σ_23 =>
    (oP σ_23 0 7 h0).bind fun q24 =>
    (oP σ_23 6 384 q2).bind fun q25 =>
    (oK σ_23 4 q24).bind fun _ =>
    (m_Store_keep q24 r5 q25 σ_23).bind fun σ_27 =>
    some σ_27
  else
    (oK σ 6 q2).bind fun _ =>
    (m_Want_currentPlace q2 σ).bind fun r9 =>
    (oK σ 0 h0).bind fun _ =>
    (m_FR_isPlace h0 r9 σ).bind fun r11 =>
    if r11 = 0 then
      (oK σ 0 h0).bind fun _ =>
      (m_FR_giveUp h0 q2 σ).bind fun σ_14 =>
      some σ_14
    else
      (oP σ 0 3 h0).bind fun q15 =>
      (oQ σ 2 q15 r9).bind fun q16 =>
      (sZ σ 2 137 q16 1).bind fun σ_17 =>
      (oP σ_17 0 8 h0).bind fun q18 =>
      (oK σ_17 5 q18).bind fun _ =>
      (m_Tellings_tell q18 x1 r9 r5 σ_17).bind fun σ_20 =>
      (oK σ_20 0 h0).bind fun _ =>
      (m_FR_giveUp h0 q2 σ_20).bind fun σ_22 =>
      some σ_22
def m_FR_falter (h0 : Nat) (a1 : Nat) (σ : fr_S) : Option (fr_S) :=
  (oI σ 6 390 a1).bind fun v1 =>
  (oI σ 0 0 h0).bind fun v2 =>
  if v1 < v2 then
    (oI σ 0 13 h0).bind fun v4 =>
    (oI σ 6 390 a1).bind fun v5 =>
    (sI σ 6 391 a1 (v4 + (1 <<< (v5 &&& 31)))).bind fun σ_6 =>
    (oI σ_6 6 390 a1).bind fun v7 =>
    (sI σ_6 6 390 a1 (v7 + 1)).bind fun σ_8 =>
    (sI σ_8 6 388 a1 2).bind fun σ_9 =>
    some σ_9
  else
    (oK σ 0 h0).bind fun _ =>
    (m_FR_giveUp h0 a1 σ).bind fun σ_11 =>
    some σ_11
def m_FR_takeTurn (h0 : Nat) (x1 : Int32) (σ : fr_S) : Option (fr_S) :=
  (oP σ 0 5 h0).bind fun q1 =>
  (oQ σ 3 q1 x1).bind fun q2 =>
  (oI σ 6 392 q2).bind fun v3 =>
  (sI σ 6 392 q2 (v3 + 1)).bind fun σ_4 =>
  (oK σ_4 6 q2).bind fun _ =>
  (m_Want_currentPlace q2 σ_4).bind fun r6 =>
  (oK σ_4 0 h0).bind fun _ =>
  (m_FR_ask h0 r6 σ_4).bind fun w8 =>
  if w8.1 = (-1) then
    (oK w8.2 0 h0).bind fun _ =>
    (m_FR_giveUp h0 q2 w8.2).bind fun σ_26 =>
    some σ_26
  else
    (oP w8.2 0 3 h0).bind fun q10 =>
    (oQ w8.2 2 q10 w8.1).bind fun q11 =>
    (oP w8.2 6 384 q2).bind fun q12 =>
    (oK w8.2 2 q11).bind fun _ =>
    (m_Place_giveTo q11 q12 w8.2).bind fun w14 =>
    (oP w14.2 6 384 q2).bind fun q15 =>
    (oI w14.2 3 193 q15).bind fun v16 =>
    (oP w14.2 2 128 q11).bind fun q17 =>
    (oI w14.2 3 193 q17).bind fun v18 =>
    if v16 < v18 then
      if w14.1 = 0 then
        some w14.2
      else
        (oK w14.2 0 h0).bind fun _ =>
        (m_FR_falter h0 q2 w14.2).bind fun σ_22 =>
        some σ_22
    else
      (oK w14.2 0 h0).bind fun _ =>
      (m_FR_checkDigest h0 x1 w14.2).bind fun σ_24 =>
      some σ_24
def m_FR_moveClock_L12 : Nat → Nat → Int32 → fr_S → Option (fr_S)
  | 0, _, _, _ => none
  | n + 1, b0, y1, σ =>
    (oI σ 0 6 b0).bind fun v3 =>
    if v3 ≤ y1 then
      some σ
    else
      (oP σ 0 5 b0).bind fun q5 =>
      (oQ σ 3 q5 y1).bind fun q6 =>
      (oI σ 6 388 q6).bind fun v7 =>
      if v7 = 2 then
        (oI σ 6 391 q6).bind fun v13 =>
        (oI σ 0 13 b0).bind fun v14 =>
        if v14 < v13 then
          (oI σ 6 388 q6).bind fun v16 =>
          if v16 = 1 then
            (oK σ 0 b0).bind fun _ =>
            (m_FR_takeTurn b0 y1 σ).bind fun σ_19 =>
            m_FR_moveClock_L12 n b0 (y1 + 1) σ_19
          else
            m_FR_moveClock_L12 n b0 (y1 + 1) σ
        else
          (sI σ 6 388 q6 1).bind fun σ_20 =>
          (oI σ_20 6 388 q6).bind fun v21 =>
          if v21 = 1 then
            (oK σ_20 0 b0).bind fun _ =>
            (m_FR_takeTurn b0 y1 σ_20).bind fun σ_24 =>
            m_FR_moveClock_L12 n b0 (y1 + 1) σ_24
          else
            m_FR_moveClock_L12 n b0 (y1 + 1) σ_20
      else
        (oI σ 6 388 q6).bind fun v9 =>
        if v9 = 1 then
          (oK σ 0 b0).bind fun _ =>
          (m_FR_takeTurn b0 y1 σ).bind fun σ_12 =>
          m_FR_moveClock_L12 n b0 (y1 + 1) σ_12
        else
          m_FR_moveClock_L12 n b0 (y1 + 1) σ
def m_FR_moveClock (h0 : Nat) (σ : fr_S) : Option (fr_S) :=
  (oI σ 0 13 h0).bind fun v1 =>
  (sI σ 0 13 h0 (v1 + 1)).bind fun σ_2 =>
  m_FR_moveClock_L12 1000 h0 0 σ_2
def m_FR_countBusy_L4 : Nat → Nat → Int32 → Int32 → fr_S → Option (Int32)
  | 0, _, _, _, _ => none
  | n + 1, b0, y1, y2, σ =>
    (oI σ 0 6 b0).bind fun v1 =>
    if v1 ≤ y2 then
      some y1
    else
      (oP σ 0 5 b0).bind fun q3 =>
      (oQ σ 3 q3 y2).bind fun q4 =>
      (oK σ 6 q4).bind fun _ =>
      (m_Want_isBusy q4 σ).bind fun r6 =>
      if r6 = 0 then
        m_FR_countBusy_L4 n b0 y1 (y2 + 1) σ
      else
        m_FR_countBusy_L4 n b0 (y1 + 1) (y2 + 1) σ
def m_FR_countBusy (h0 : Nat) (σ : fr_S) : Option (Int32) :=
  m_FR_countBusy_L4 1000 h0 0 0 σ
def m_FR_tick_L14 : Nat → Nat → Int32 → Int32 → fr_S → Option (Int32 × fr_S)
  | 0, _, _, _, _ => none
  | n + 1, b0, y1, y2, σ =>
    if y1 ≤ y2 then
      (oK σ 0 b0).bind fun _ =>
      (m_FR_countBusy b0 σ).bind fun r5 =>
      some (r5, σ)
    else
      (oK σ 0 b0).bind fun _ =>
      (m_FR_moveClock b0 σ).bind fun σ_7 =>
      m_FR_tick_L14 n b0 y1 (y2 + 1) σ_7
def m_FR_tick (h0 : Nat) (x1 : Int32) (σ : fr_S) : Option (Int32 × fr_S) :=
  if x1 < 0 then
    some ((-1), σ)
  else
    if x1 ≤ 50 then
      m_FR_tick_L14 1000 h0 x1 0 σ
    else
      some ((-1), σ)
def m_FR_about (h0 : Nat) (x1 : Int32) (x2 : Int32) (σ : fr_S) : Option (Int32) :=
  (oK σ 0 h0).bind fun _ =>
  (m_FR_isWant h0 x1 σ).bind fun r2 =>
  if r2 = 0 then
    some ((-1))
  else
    (oP σ 0 5 h0).bind fun q4 =>
    (oQ σ 3 q4 x1).bind fun q5 =>
    if x2 = 0 then
      (oI σ 6 388 q5).bind fun v7 =>
      some v7
    else
    if x2 = 1 then
      (oK σ 6 q5).bind fun _ =>
      (m_Want_isBusy q5 σ).bind fun r10 =>
      if r10 = 0 then
        some ((-1))
      else
        (oK σ 6 q5).bind fun _ =>
        (m_Want_currentPlace q5 σ).bind fun r13 =>
        some r13
    else
    if x2 = 2 then
      (oP σ 6 384 q5).bind fun q15 =>
      (oI σ 3 193 q15).bind fun v16 =>
      some v16
    else
    if x2 = 3 then
      (oI σ 6 388 q5).bind fun v18 =>
      if v18 = 2 then
        (oI σ 6 391 q5).bind fun v20 =>
        some v20
      else
        some ((-1))
    else
    if x2 = 4 then
      (oI σ 6 392 q5).bind fun v22 =>
      some v22
    else
      some ((-1))
def m_FR_byteOf (h0 : Nat) (x1 : Int32) (x2 : Int32) (σ : fr_S) : Option (Int32) :=
  (oK σ 0 h0).bind fun _ =>
  (m_FR_isWant h0 x1 σ).bind fun r2 =>
  if r2 = 0 then
    some ((-1))
  else
    (oP σ 0 5 h0).bind fun q4 =>
    (oQ σ 3 q4 x1).bind fun q5 =>
    (oP σ 6 384 q5).bind fun q6 =>
    (oK σ 3 q6).bind fun _ =>
    (m_Row_at q6 x2 σ).bind fun r8 =>
    some r8
def m_Tellings_has (h0 : Nat) (x1 : Int32) (σ : fr_S) : Option (Int32) :=
  if x1 < 0 then
    some 0
  else
    (oI σ 5 323 h0).bind fun v2 =>
    if v2 ≤ x1 then
      some 0
    else
      some 1
def m_FR_barred (h0 : Nat) (x1 : Int32) (x2 : Int32) (σ : fr_S) : Option (Int32) :=
  (oP σ 0 8 h0).bind fun q1 =>
  (oK σ 5 q1).bind fun _ =>
  (m_Tellings_has q1 x1 σ).bind fun r3 =>
  if r3 = 0 then
    some ((-1))
  else
    if x2 = 0 then
      (oP σ 0 8 h0).bind fun q6 =>
      (oP σ 5 320 q6).bind fun q7 =>
      (oV σ 0 q7 x1).bind fun v8 =>
      some v8
    else
    if x2 = 1 then
      (oP σ 0 8 h0).bind fun q10 =>
      (oP σ 5 321 q10).bind fun q11 =>
      (oV σ 0 q11 x1).bind fun v12 =>
      some v12
    else
      some ((-1))
def m_FR_came (h0 : Nat) (x1 : Int32) (σ : fr_S) : Option (Int32) :=
  (oP σ 0 8 h0).bind fun q1 =>
  (oK σ 5 q1).bind fun _ =>
  (m_Tellings_has q1 x1 σ).bind fun r3 =>
  if r3 = 0 then
    some 0
  else
    (oP σ 0 8 h0).bind fun q5 =>
    (oP σ 5 322 q5).bind fun q6 =>
    (oV σ 0 q6 x1).bind fun v7 =>
    some v7
def m_FR_lacks (h0 : Nat) (x1 : Int32) (σ : fr_S) : Option (Int32) :=
  if x1 < 0 then
    some ((-1))
  else
    (oI σ 0 10 h0).bind fun v2 =>
    if v2 ≤ x1 then
      some ((-1))
    else
      (oP σ 0 9 h0).bind fun q4 =>
      (oV σ 0 q4 x1).bind fun v5 =>
      some v5
def m_FR_sent (h0 : Nat) (x1 : Int32) (σ : fr_S) : Option (Int32) :=
  (m_FR_isHost x1 σ).bind fun r1 =>
  if r1 = 0 then
    some 0
  else
    (oP σ 0 2 h0).bind fun q3 =>
    (oV σ 0 q3 x1).bind fun v4 =>
    some v4
def m_Archive_pathEnd (a0 : Nat) (x1 : Int32) (σ : fr_S) : Option (Int32) :=
  (oK σ 3 a0).bind fun _ =>
  (m_Row_at a0 x1 σ).bind fun r2 =>
  some (((x1 + 1) + r2))
def m_Archive_isRightSegment (a0 : Nat) (x1 : Int32) (x2 : Int32) (σ : fr_S) : Option (Int32) :=
  if 0 < (x2 - x1) then
    if 2 < (x2 - x1) then
      some 1
    else
      (oK σ 3 a0).bind fun _ =>
      (m_Row_at a0 x1 σ).bind fun r4 =>
      if r4 = 46 then
        (oK σ 3 a0).bind fun _ =>
        (m_Row_at a0 ((x2 - 1)) σ).bind fun r7 =>
        if r7 = 46 then
          some 0
        else
          some 1
      else
        some 1
  else
    some 0
def m_Archive_isPathCharacter (x0 : Int32) (σ : fr_S) : Option (Int32) :=
  if x0 < 97 then
    if x0 < 48 then
      if x0 = 46 then
        some 1
      else
        some 0
    else
      if x0 ≤ 57 then
        some 1
      else
        if x0 = 46 then
          some 1
        else
          some 0
  else
    if x0 ≤ 122 then
      some 1
    else
      if x0 < 48 then
        if x0 = 46 then
          some 1
        else
          some 0
      else
        if x0 ≤ 57 then
          some 1
        else
          if x0 = 46 then
            some 1
          else
            some 0
def m_Archive_isRightPath_L5 : Nat → Nat → Int32 → Int32 → Int32 → fr_S → Option (Int32)
  | 0, _, _, _, _, _ => none
  | n + 1, b0, y2, y3, y4, σ =>
    if y2 ≤ y4 then
      (m_Archive_isRightSegment b0 y3 y2 σ).bind fun r2 =>
      (oZ r2).bind fun _ =>
      some r2
    else
      (oK σ 3 b0).bind fun _ =>
      (m_Row_at b0 y4 σ).bind fun r5 =>
      if r5 = 47 then
        (m_Archive_isRightSegment b0 y3 y4 σ).bind fun r9 =>
        if r9 = 0 then
          some 0
        else
          m_Archive_isRightPath_L5 n b0 y2 (y4 + 1) (y4 + 1) σ
      else
        (m_Archive_isPathCharacter r5 σ).bind fun r7 =>
        if r7 = 0 then
          some 0
        else
          m_Archive_isRightPath_L5 n b0 y2 y3 (y4 + 1) σ
def m_Archive_isRightPath (a0 : Nat) (x1 : Int32) (x2 : Int32) (σ : fr_S) : Option (Int32) :=
  m_Archive_isRightPath_L5 1000 a0 x2 x1 x1 σ
def m_Archive_entryEnd (a0 : Nat) (x1 : Int32) (σ : fr_S) : Option (Int32) :=
  (m_Archive_pathEnd a0 x1 σ).bind fun r1 =>
  (oK σ 3 a0).bind fun _ =>
  (m_Row_at a0 r1 σ).bind fun r3 =>
  some (((r1 + 1) + r3))
def m_Archive_findIllOfEntry (a0 : Nat) (x1 : Int32) (σ : fr_S) : Option (Int32) :=
  (oK σ 3 a0).bind fun _ =>
  (m_Row_at a0 x1 σ).bind fun r2 =>
  if r2 < 1 then
    some x1
  else
    if r2 ≤ 20 then
      (m_Archive_pathEnd a0 x1 σ).bind fun r5 =>
      (oI σ 3 193 a0).bind fun v6 =>
      if r5 < v6 then
        (m_Archive_pathEnd a0 x1 σ).bind fun r8 =>
        (m_Archive_isRightPath a0 ((x1 + 1)) r8 σ).bind fun r9 =>
        if r9 = 0 then
          some ((x1 + 1))
        else
          (m_Archive_entryEnd a0 x1 σ).bind fun r11 =>
          (oI σ 3 193 a0).bind fun v12 =>
          if r11 ≤ v12 then
            some ((-1))
          else
            (oI σ 3 193 a0).bind fun v14 =>
            some v14
      else
        (oI σ 3 193 a0).bind fun v15 =>
        some v15
    else
      some x1
def m_Archive_findIll_L4 : Nat → Nat → Int32 → Int32 → fr_S → Option (Int32)
  | 0, _, _, _, _ => none
  | n + 1, b0, y1, y2, σ =>
    if 100 ≤ y2 then
      some ((-1))
    else
      (oI σ 3 193 b0).bind fun v2 =>
      if v2 ≤ y1 then
        some ((-1))
      else
        (m_Archive_findIllOfEntry b0 y1 σ).bind fun r4 =>
        if r4 = (-1) then
          (m_Archive_entryEnd b0 y1 σ).bind fun r6 =>
          m_Archive_findIll_L4 n b0 r6 (y2 + 1) σ
        else
          some r4
def m_Archive_findIll (a0 : Nat) (σ : fr_S) : Option (Int32) :=
  m_Archive_findIll_L4 1000 a0 0 0 σ
def m_Archive_strippedStart_L9 : Nat → Nat → Int32 → Int32 → Int32 → Int32 → fr_S → Option (Int32)
  | 0, _, _, _, _, _, _ => none
  | n + 1, b0, y2, y4, y5, y6, σ =>
    if y2 ≤ y6 then
      if y5 ≤ 0 then
        some y4
      else
        some y2
    else
      if y5 ≤ 0 then
        if y5 ≤ 0 then
          some y4
        else
          some y2
      else
        (oK σ 3 b0).bind fun _ =>
        (m_Row_at b0 y6 σ).bind fun r6 =>
        if r6 = 47 then
          m_Archive_strippedStart_L9 n b0 y2 (y6 + 1) (y5 + (-1)) (y6 + 1) σ
        else
          m_Archive_strippedStart_L9 n b0 y2 y4 y5 (y6 + 1) σ
def m_Archive_strippedStart (a0 : Nat) (x1 : Int32) (x2 : Int32) (x3 : Int32) (σ : fr_S) : Option (Int32) :=
  m_Archive_strippedStart_L9 1000 a0 x2 x1 x3 x1 σ
def m_Row_hasSame_L3 : Nat → Nat → Int32 → Int32 → Int32 → Int32 → fr_S → Option (Int32)
  | 0, _, _, _, _, _, _ => none
  | n + 1, b0, y1, y2, y3, y4, σ =>
    if y3 ≤ y4 then
      some 1
    else
      (oK σ 3 b0).bind fun _ =>
      (m_Row_at b0 ((y1 + y4)) σ).bind fun r3 =>
      (oK σ 3 b0).bind fun _ =>
      (m_Row_at b0 ((y2 + y4)) σ).bind fun r5 =>
      if r3 = r5 then
        m_Row_hasSame_L3 n b0 y1 y2 y3 (y4 + 1) σ
      else
        some 0
def m_Row_hasSame (h0 : Nat) (x1 : Int32) (x2 : Int32) (x3 : Int32) (σ : fr_S) : Option (Int32) :=
  m_Row_hasSame_L3 1000 h0 x1 x2 x3 0 σ
def m_Files_findPath_L3 : Nat → Nat → Nat → Int32 → Int32 → Int32 → fr_S → Option (Int32)
  | 0, _, _, _, _, _, _ => none
  | n + 1, b0, b1, y2, y3, y4, σ =>
    (oI σ 1 68 b0).bind fun v1 =>
    if v1 ≤ y4 then
      (oI σ 1 68 b0).bind fun v3 =>
      some v3
    else
      (oP σ 1 67 b0).bind fun q4 =>
      (oV σ 0 q4 y4).bind fun v5 =>
      if v5 = y3 then
        (oP σ 1 66 b0).bind fun q7 =>
        (oV σ 0 q7 y4).bind fun v8 =>
        (oK σ 3 b1).bind fun _ =>
        (m_Row_hasSame b1 v8 y2 y3 σ).bind fun r10 =>
        if r10 = 0 then
          m_Files_findPath_L3 n b0 b1 y2 y3 (y4 + 1) σ
        else
          some y4
      else
        m_Files_findPath_L3 n b0 b1 y2 y3 (y4 + 1) σ
def m_Files_findPath (h0 : Nat) (a1 : Nat) (x2 : Int32) (x3 : Int32) (σ : fr_S) : Option (Int32) :=
  m_Files_findPath_L3 1000 h0 a1 x2 x3 0 σ
def m_Files_put (h0 : Nat) (a1 : Nat) (x2 : Int32) (x3 : Int32) (σ : fr_S) : Option (fr_S) :=
  (oK σ 1 h0).bind fun _ =>
  (m_Files_findPath h0 a1 x2 ((x3 - x2)) σ).bind fun r2 =>
  if r2 < 33 then
    (oI σ 1 68 h0).bind fun v4 =>
    if r2 = v4 then
      (oP σ 1 66 h0).bind fun q12 =>
      (sV σ 0 q12 r2 x2).bind fun σ_13 =>
      (oP σ_13 1 67 h0).bind fun q14 =>
      (sV σ_13 0 q14 r2 (x3 - x2)).bind fun σ_15 =>
      (oI σ_15 1 68 h0).bind fun v16 =>
      (sI σ_15 1 68 h0 (v16 + 1)).bind fun σ_17 =>
      (oP σ_17 1 64 h0).bind fun q18 =>
      (sV σ_17 0 q18 r2 (x3 + 1)).bind fun σ_19 =>
      (oP σ_19 1 65 h0).bind fun q20 =>
      (oK σ_19 3 a1).bind fun _ =>
      (m_Row_at a1 x3 σ_19).bind fun r22 =>
      (sV σ_19 0 q20 r2 r22).bind fun σ_23 =>
      some σ_23
    else
      (oP σ 1 64 h0).bind fun q6 =>
      (sV σ 0 q6 r2 (x3 + 1)).bind fun σ_7 =>
      (oP σ_7 1 65 h0).bind fun q8 =>
      (oK σ_7 3 a1).bind fun _ =>
      (m_Row_at a1 x3 σ_7).bind fun r10 =>
      (sV σ_7 0 q8 r2 r10).bind fun σ_11 =>
      some σ_11
  else
    some σ
def m_Files_fill_L10 : Nat → Nat → Nat → Int32 → Int32 → Int32 → fr_S → Option (fr_S)
  | 0, _, _, _, _, _, _ => none
  | n + 1, b0, b1, y2, y3, y4, σ =>
    if 33 ≤ y4 then
      some σ
    else
      (oI σ 3 193 b1).bind fun v3 =>
      if v3 ≤ y3 then
        some σ
      else
        (m_Archive_pathEnd b1 y3 σ).bind fun r5 =>
        (m_Archive_strippedStart b1 ((y3 + 1)) r5 y2 σ).bind fun r6 =>
        if r5 ≤ r6 then
          (m_Archive_entryEnd b1 y3 σ).bind fun r8 =>
          m_Files_fill_L10 n b0 b1 y2 r8 (y4 + 1) σ
        else
          (oK σ 1 b0).bind fun _ =>
          (m_Files_put b0 b1 r6 r5 σ).bind fun σ_10 =>
          (m_Archive_entryEnd b1 y3 σ_10).bind fun r11 =>
          m_Files_fill_L10 n b0 b1 y2 r11 (y4 + 1) σ_10
def m_Files_fill (h0 : Nat) (a1 : Nat) (x2 : Int32) (σ : fr_S) : Option (fr_S) :=
  (sI σ 1 68 h0 0).bind fun σ_1 =>
  m_Files_fill_L10 1000 h0 a1 x2 0 0 σ_1
def m_FR_unpack (h0 : Nat) (x1 : Int32) (x2 : Int32) (σ : fr_S) : Option (Int32 × fr_S) :=
  (oK σ 0 h0).bind fun _ =>
  (m_FR_isWant h0 x1 σ).bind fun r2 =>
  if r2 = 0 then
    some ((-1000), σ)
  else
    (oP σ 0 5 h0).bind fun q4 =>
    (oQ σ 3 q4 x1).bind fun q5 =>
    (oI σ 6 388 q5).bind fun v6 =>
    if v6 = 3 then
      if x2 < 0 then
        some ((-1000), σ)
      else
        if x2 ≤ 5 then
          (oP σ 0 5 h0).bind fun q10 =>
          (oQ σ 3 q10 x1).bind fun q11 =>
          (oP σ 6 384 q11).bind fun q12 =>
          (m_Archive_findIll q12 σ).bind fun r13 =>
          if r13 = (-1) then
            (oP σ 0 11 h0).bind fun q15 =>
            (oK σ 1 q15).bind fun _ =>
            (m_Files_fill q15 q12 x2 σ).bind fun σ_17 =>
            (oP σ_17 0 11 h0).bind fun q18 =>
            (oI σ_17 1 68 q18).bind fun v19 =>
            some (v19, σ_17)
          else
            some (((-1) - r13), σ)
        else
          some ((-1000), σ)
    else
      some ((-1000), σ)
def m_Files_has (h0 : Nat) (x1 : Int32) (σ : fr_S) : Option (Int32) :=
  if x1 < 0 then
    some 0
  else
    (oI σ 1 68 h0).bind fun v2 =>
    if v2 ≤ x1 then
      some 0
    else
      some 1
def m_FR_file (h0 : Nat) (x1 : Int32) (x2 : Int32) (σ : fr_S) : Option (Int32) :=
  (oP σ 0 11 h0).bind fun q1 =>
  (oK σ 1 q1).bind fun _ =>
  (m_Files_has q1 x1 σ).bind fun r3 =>
  if r3 = 0 then
    some ((-1))
  else
    if x2 = 0 then
      (oP σ 0 11 h0).bind fun q6 =>
      (oP σ 1 64 q6).bind fun q7 =>
      (oV σ 0 q7 x1).bind fun v8 =>
      some v8
    else
    if x2 = 1 then
      (oP σ 0 11 h0).bind fun q10 =>
      (oP σ 1 65 q10).bind fun q11 =>
      (oV σ 0 q11 x1).bind fun v12 =>
      some v12
    else
    if x2 = 2 then
      (oP σ 0 11 h0).bind fun q14 =>
      (oP σ 1 66 q14).bind fun q15 =>
      (oV σ 0 q15 x1).bind fun v16 =>
      some v16
    else
    if x2 = 3 then
      (oP σ 0 11 h0).bind fun q18 =>
      (oP σ 1 67 q18).bind fun q19 =>
      (oV σ 0 q19 x1).bind fun v20 =>
      some v20
    else
      some ((-1))
end
section
def m_Row_init (h0 : Nat) (σ : fr_S) (nx : Nat) : Option (fr_S × Nat) :=
  (nC σ nx (.inr (0, 100))).bind fun σ_1 =>
  (sP σ_1 3 192 h0 nx).bind fun σ_2 =>
  (sI σ_2 3 193 h0 0).bind fun σ_3 =>
  some (σ_3, nx + 1)
def m_Store_init_L28 : Nat → Nat → Int32 → fr_S → Nat → Nat → Nat → Option (fr_S × Nat)
  | 0, _, _, _, _, _, _ => none
  | n + 1, b0, y1, σ, nx, cl, sl =>
    if 10 ≤ y1 then
      (oR (cl) 22 (sl) 1040).bind fun _ =>
      some (σ, nx)
    else
      (oP σ 4 257 b0).bind fun q8 =>
      (oR (cl + 1) 22 (sl + 2) 1040).bind fun _ =>
      (nC σ nx (.inl 3)).bind fun σ_9 =>
      (oR (cl + 1 + 1) 22 (sl + 2 + 100) 1040).bind fun _ =>
      (m_Row_init nx σ_9 (nx + 1)).bind fun w10 =>
      (sQ w10.1 4 3 q8 y1 nx).bind fun σ_11 =>
      m_Store_init_L28 n b0 (y1 + 1) σ_11 w10.2 (cl + 2) (sl + 102)
def m_Store_init (h0 : Nat) (σ : fr_S) (nx : Nat) : Option (fr_S × Nat) :=
  (nC σ nx (.inr (0, 10))).bind fun σ_1 =>
  (sP σ_1 4 256 h0 nx).bind fun σ_2 =>
  (nC σ_2 (nx + 1) (.inr (4, 10))).bind fun σ_3 =>
  (sP σ_3 4 257 h0 (nx + 1)).bind fun σ_4 =>
  (sI σ_4 4 258 h0 0).bind fun σ_5 =>
  m_Store_init_L28 1000 h0 0 σ_5 (nx + 2) 2 20
def m_Tellings_init (h0 : Nat) (σ : fr_S) (nx : Nat) : Option (fr_S × Nat) :=
  (nC σ nx (.inr (0, 60))).bind fun σ_1 =>
  (sP σ_1 5 320 h0 nx).bind fun σ_2 =>
  (nC σ_2 (nx + 1) (.inr (0, 60))).bind fun σ_3 =>
  (sP σ_3 5 321 h0 (nx + 1)).bind fun σ_4 =>
  (nC σ_4 (nx + 2) (.inr (0, 60))).bind fun σ_5 =>
  (sP σ_5 5 322 h0 (nx + 2)).bind fun σ_6 =>
  (sI σ_6 5 323 h0 0).bind fun σ_7 =>
  some (σ_7, nx + 3)
def m_Files_init (h0 : Nat) (σ : fr_S) (nx : Nat) : Option (fr_S × Nat) :=
  (nC σ nx (.inr (0, 33))).bind fun σ_1 =>
  (sP σ_1 1 64 h0 nx).bind fun σ_2 =>
  (nC σ_2 (nx + 1) (.inr (0, 33))).bind fun σ_3 =>
  (sP σ_3 1 65 h0 (nx + 1)).bind fun σ_4 =>
  (nC σ_4 (nx + 2) (.inr (0, 33))).bind fun σ_5 =>
  (sP σ_5 1 66 h0 (nx + 2)).bind fun σ_6 =>
  (nC σ_6 (nx + 3) (.inr (0, 33))).bind fun σ_7 =>
  (sP σ_7 1 67 h0 (nx + 3)).bind fun σ_8 =>
  (sI σ_8 1 68 h0 0).bind fun σ_9 =>
  some (σ_9, nx + 4)
def m_Place_init (h0 : Nat) (σ : fr_S) (nx : Nat) : Option (fr_S × Nat) :=
  (nC σ nx (.inl 3)).bind fun σ_1 =>
  (m_Row_init nx σ_1 (nx + 1)).bind fun w2 =>
  (sP w2.1 2 128 h0 nx).bind fun σ_3 =>
  (sI σ_3 2 129 h0 0).bind fun σ_4 =>
  (sI σ_4 2 130 h0 1).bind fun σ_5 =>
  (sI σ_5 2 131 h0 (-1)).bind fun σ_6 =>
  (sI σ_6 2 132 h0 0).bind fun σ_7 =>
  (sI σ_7 2 133 h0 0).bind fun σ_8 =>
  (sZ σ_8 2 134 h0 0).bind fun σ_9 =>
  (sZ σ_9 2 135 h0 0).bind fun σ_10 =>
  (sZ σ_10 2 136 h0 0).bind fun σ_11 =>
  (sZ σ_11 2 137 h0 0).bind fun σ_12 =>
  some (σ_12, w2.2)
def m_Want_init (h0 : Nat) (σ : fr_S) (nx : Nat) : Option (fr_S × Nat) :=
  (nC σ nx (.inl 3)).bind fun σ_1 =>
  (m_Row_init nx σ_1 (nx + 1)).bind fun w2 =>
  (sP w2.1 6 384 h0 nx).bind fun σ_3 =>
  (nC σ_3 w2.2 (.inr (0, 6))).bind fun σ_4 =>
  (sP σ_4 6 385 h0 w2.2).bind fun σ_5 =>
  (sI σ_5 6 386 h0 0).bind fun σ_6 =>
  (sI σ_6 6 387 h0 0).bind fun σ_7 =>
  (sI σ_7 6 388 h0 0).bind fun σ_8 =>
  (sI σ_8 6 389 h0 0).bind fun σ_9 =>
  (sI σ_9 6 390 h0 0).bind fun σ_10 =>
  (sI σ_10 6 391 h0 0).bind fun σ_11 =>
  (sI σ_11 6 392 h0 0).bind fun σ_12 =>
  some (σ_12, w2.2 + 1)
def m_FR_init_L146 : Nat → Nat → Int32 → fr_S → Nat → Nat → Nat → Option (fr_S × Nat)
  | 0, _, _, _, _, _, _ => none
  | n + 1, b0, y2, σ, nx, cl, sl =>
    if 10 ≤ y2 then
      (oR (cl) 125 (sl) 4378).bind fun _ =>
      some (σ, nx)
    else
      (oP σ 0 5 b0).bind fun q33 =>
      (oR (cl + 1) 125 (sl + 9) 4378).bind fun _ =>
      (nC σ nx (.inl 6)).bind fun σ_34 =>
      (oR (cl + 1 + 3) 125 (sl + 9 + 108) 4378).bind fun _ =>
      (m_Want_init nx σ_34 (nx + 1)).bind fun w35 =>
      (sQ w35.1 3 6 q33 y2 nx).bind fun σ_36 =>
      m_FR_init_L146 n b0 (y2 + 1) σ_36 w35.2 (cl + 4) (sl + 117)
def m_FR_init_L119 : Nat → Nat → Int32 → fr_S → Nat → Nat → Nat → Option (fr_S × Nat)
  | 0, _, _, _, _, _, _ => none
  | n + 1, b0, y2, σ, nx, cl, sl =>
    if 16 ≤ y2 then
      m_FR_init_L146 1000 b0 0 σ nx cl sl
    else
      (oP σ 0 3 b0).bind fun q27 =>
      (oR (cl + 1) 125 (sl + 10) 4378).bind fun _ =>
      (nC σ nx (.inl 2)).bind fun σ_28 =>
      (oR (cl + 1 + 2) 125 (sl + 10 + 102) 4378).bind fun _ =>
      (m_Place_init nx σ_28 (nx + 1)).bind fun w29 =>
      (sQ w29.1 2 2 q27 y2 nx).bind fun σ_30 =>
      m_FR_init_L119 n b0 (y2 + 1) σ_30 w29.2 (cl + 3) (sl + 112)
def m_FR_init (h0 : Nat) (x1 : Int32) (σ : fr_S) (nx : Nat) : Option (fr_S × Nat) :=
  (nC σ nx (.inr (1, 8))).bind fun σ_1 =>
  (sP σ_1 0 1 h0 nx).bind fun σ_2 =>
  (nC σ_2 (nx + 1) (.inr (0, 8))).bind fun σ_3 =>
  (sP σ_3 0 2 h0 (nx + 1)).bind fun σ_4 =>
  (nC σ_4 (nx + 2) (.inr (2, 16))).bind fun σ_5 =>
  (sP σ_5 0 3 h0 (nx + 2)).bind fun σ_6 =>
  (sI σ_6 0 4 h0 0).bind fun σ_7 =>
  (nC σ_7 (nx + 3) (.inr (3, 10))).bind fun σ_8 =>
  (sP σ_8 0 5 h0 (nx + 3)).bind fun σ_9 =>
  (sI σ_9 0 6 h0 0).bind fun σ_10 =>
  (nC σ_10 (nx + 4) (.inl 4)).bind fun σ_11 =>
  (m_Store_init ((nx + 4)) σ_11 (nx + 5)).bind fun w12 =>
  (sP w12.1 0 7 h0 (nx + 4)).bind fun σ_13 =>
  (nC σ_13 w12.2 (.inl 5)).bind fun σ_14 =>
  (m_Tellings_init w12.2 σ_14 (w12.2 + 1)).bind fun w15 =>
  (sP w15.1 0 8 h0 w12.2).bind fun σ_16 =>
  (nC σ_16 w15.2 (.inr (0, 10))).bind fun σ_17 =>
  (sP σ_17 0 9 h0 w15.2).bind fun σ_18 =>
  (sI σ_18 0 10 h0 0).bind fun σ_19 =>
  (nC σ_19 (w15.2 + 1) (.inl 1)).bind fun σ_20 =>
  (m_Files_init ((w15.2 + 1)) σ_20 (w15.2 + 2)).bind fun w21 =>
  (sP w21.1 0 11 h0 (w15.2 + 1)).bind fun σ_22 =>
  (sZ σ_22 0 12 h0 0).bind fun σ_23 =>
  (sI σ_23 0 13 h0 0).bind fun σ_24 =>
  (sI σ_24 0 0 h0 (if 0 < (if x1 < 5 then x1 else 5) then (if x1 < 5 then x1 else 5) else 0)).bind fun σ_25 =>
  m_FR_init_L119 1000 h0 0 σ_25 w21.2 37 1416
set_option maxHeartbeats 4000000 in
set_option maxRecDepth 100000 in
theorem c_Row_init (l : Launch) (D : va_G) (T : Nat → ClassId) (A : Nat → Prop) (σ : fr_S) (h0 : Nat) (nx : Nat) (hA0 : ∀ q, nx ≤ q → A q) (σ1 : fr_S) (nx1 : Nat) (h : m_Row_init h0 σ nx = some (σ1, nx1)) : Met l y_Row_init (Cond.code y_Row_init b_Row_init 1 none :: fr_W) ({ frames := 1, cells := 1, slots := 100, locals := 24 } : Room) (va_Pc [.ref h0] (fr_BN D T A nx σ)) (fr_QN D T A σ1 nx1) 1 100 A := by
  refine Met.ofW (cc := b_Row_init) (maxL := 1) (ret := none) (by decide) rfl ?_
  intro p e s m args below meth c s₁ B hml hv
  obtain ⟨rfl, hN, hH, hK, hX⟩ := hv
  have hA : ∀ q, s.heap.size ≤ q → A q := fun q hq => hA0 q (by omega)
  have hin : meth.name = "<init>" := (name_of_methodNamed B.named B.method).1
  have C0 : fr_At p s m _ meth c "FetchRules$Row" b_Row_init 1 none := fr_at B hml
  obtain ⟨hx, hb, hr, hml, hown, hts, hlocks⟩ := id C0
  have hS : va_S A s.heap s.heap [] := va_S.rf
  have hl := lv_entry ([.ref h0]) (n := 1) (Nat.le_of_ble_eq_true rfl)
  rw [lg_entry_eq]
  generalize (lg_sl ([.ref h0]) ++ List.replicate (1 - (lg_sl ([.ref h0])).length) Slot.unset).toArray = ls at hl ⊢
  have hl : lv_has ls 1 [(0, .ref h0)] := hl
  unfold m_Row_init at h
  refine lv_aload_n hx hb d_Row_init_0 rfl (lv_at hl 0 rfl) ?_
  refine W.objInit hx hb hown (hts _ k_66) (hts _ k_48) (hts _ k_49) rfl (by rw [hml]; exact hl.1) rfl d_Row_init_1 (Nat.le_of_ble_eq_true rfl) (Nat.le_of_ble_eq_true rfl) ?_
  refine W.eq (g2 := F0 m 4 ls []) rfl ?_
  refine lv_aload_n hx hb d_Row_init_4 rfl (lv_at hl 0 rfl) ?_
  refine lv_bipush (v := 100) hx hb d_Row_init_5 (by decide) ?_
  obtain ⟨σ_1, e1, h⟩ := fr_bind h
  refine fr_newI0 e1 hx hb (hts _ k_80) hK hH hS hA hN (by decide) (by decide) (by decide) (Nat.le_of_ble_eq_true rfl) (Nat.le_of_ble_eq_true rfl) d_Row_init_7 (fun H hH hN hS => ?_)
  refine W.widen (k := 1) (n := 100) (Nat.le_of_ble_eq_true rfl) (Nat.le_of_ble_eq_true rfl) ?_
  have hN : H.size = nx + 1 := by omega
  obtain ⟨σ_2, e2, h⟩ := fr_bind h
  refine fr_putPFN (ty := (.array (.int))) hx hb hts in_Row ty_Row tk_Row nm_Row hown hK hH hN hS ⟨rfl, rfl⟩ e2 rfl 0 (by decide) (hts _ k_67) (fun _ h9 => h9) rfl hin rfl (by decide +kernel) (fs_3_0 _ _ _) (Nat.le_of_ble_eq_true rfl) d_Row_init_9 (fun H locs hH hN hS => ?_)
  refine lv_aload_n hx hb d_Row_init_12 rfl (lv_at hl 0 rfl) ?_
  refine lv_iconst (v := 0) hx hb d_Row_init_13 (by decide) ?_
  obtain ⟨σ_3, e3, h⟩ := fr_bind h
  refine fr_putIN hx hb hts in_Row ty_Row tk_Row nm_Row hown hK hH hN hS e3 rfl 1 (by decide) (hts _ k_68) (fun _ h9 => h9) rfl (by decide +kernel) (fs_3_1 _ _ _) (Nat.le_of_ble_eq_true rfl) d_Row_init_14 (fun H locs hH hN hS => ?_)
  exact fr_vretN hx hb hr hlocks h hH hN hK hX hS d_Row_init_17
set_option maxHeartbeats 4000000 in
set_option maxRecDepth 100000 in
theorem w_Store_init_L28 {p : Program} {l : Launch} {e : Env} {s : State} {m : MethodId} {args : Array Value} {below : List Frame} {meth : Method} {c : Code} {D : va_G} {T : Nat → ClassId} {A : Nat → Prop} (C0 : fr_At p s m args meth c "FetchRules$Store" b_Store_init 2 none) (hK : va_K D vwCl (fr_tys T) s) (hX : fr_X s) (hA : ∀ q, s.heap.size ≤ q → A q) :
    ∀ (n : Nat) (b0 : Nat) (y1 : Int32) (σ : fr_S) (nx cl sl : Nat) (σ1 : fr_S) (nx1 : Nat), m_Store_init_L28 n b0 y1 σ nx cl sl = some (σ1, nx1) → ∀ (H : Heap) (locs : List Loc), fr_H D T A σ H → H.size = nx → va_S A s.heap H locs → ∀ (ls : Array Slot), lv_has ls 2 [(0, .ref b0), (1, .int y1)] → W p l e (headSpec (Cond.code y_Store_init b_Store_init 2 none :: fr_W) ({ frames := 2, cells := 22, slots := 1040, locals := 44 } : Room)).room s m args below meth c H locs cl sl (MQ below (fr_QN D T A σ1 nx1) args s 22 1040 A) (F0 m 28 ls []) := by
  obtain ⟨hx, hb, hr, hml, hown, hts, hlocks⟩ := id C0
  intro n
  induction n with
  | zero => intro b0 y1 σ nx cl sl σ1 nx1 h; cases h
  | succ n ih =>
    intro b0 y1 σ nx cl sl σ1 nx1 h H locs hH hN hS ls hl
    unfold m_Store_init_L28 at h
    refine lv_iload_n hx hb d_Store_init_28 rfl (lv_at hl 1 rfl) ?_
    refine lv_bipush (v := 10) hx hb d_Store_init_29 (by decide) ?_
    refine lv_icmp_ge (tgt := 53) hx hb d_Store_init_31 (by decide) (fun c6 => ?_) (fun c6 => ?_)
    · replace h := fr_ift c6 h
      obtain ⟨u7, e7, h⟩ := fr_bind h
      refine W.widen (k := 22) (n := 1040) (oR_inv e7).1 (oR_inv e7).2 ?_
      exact fr_vretN hx hb hr hlocks h hH hN hK hX hS d_Store_init_53
    · replace h := fr_iff c6 h
      refine lv_aload_n hx hb d_Store_init_34 rfl (lv_at hl 0 rfl) ?_
      obtain ⟨q8, e8, h⟩ := fr_bind h
      refine fr_gP hx hb hts in_Store hown hK hH e8 rfl 1 (by decide) (hts _ k_82) (fun _ h9 => h9) rfl d_Store_init_35 ?_
      refine lv_iload_n hx hb d_Store_init_38 rfl (lv_at hl 1 rfl) ?_
      obtain ⟨u9, f9, h⟩ := fr_bind h
      obtain ⟨σ_9, e9, h⟩ := fr_bind h
      refine fr_newO e9 hx hb hts in_Row ty_Row tk_Row hown (hts _ k_60) (hts _ k_62) (hts _ k_33) hK hH hS hA hN rfl (df_Row _ _) (oR_inv f9).1 (oR_inv f9).2 d_Store_init_39 (fun H hH hN hS => ?_)
      refine W.widen (k := cl + 1) (n := sl + 2) (by omega) (by omega) ?_
      have hN : H.size = nx + 1 := by omega
      refine lv_dup hx hb d_Store_init_42 rfl ?_
      obtain ⟨u10, f10, h⟩ := fr_bind h
      obtain ⟨w10, e10, h⟩ := fr_bind h
      refine fr_callN (fr_IN (b := nx) (As := []) (rest := [.ref nx, .int y1, .ref q8]) ⟨hx, hb, hml, hown, hts⟩ (c_Row_init l D T A σ_9 nx (nx + 1) (fun q hq => hA q (by have h9 := hS.1; omega)) w10.1 w10.2 e10) (hX.2 ("FetchRules$Store", 25, y_Row_init, "FetchRules") (List.mem_of_getElem? (i := 0) rfl)) mi_Row_init rfl rfl ⟨Nat.le_of_ble_eq_true rfl, Nat.le_of_ble_eq_true rfl⟩ (fr_preN hK hX hH hN _) rfl hl.1 rfl (Nat.le_of_ble_eq_true rfl) d_Store_init_43 ⟨(oR_inv f10).1, (oR_inv f10).2⟩) hS (fun H locs hH hN hS => ?_)
      refine W.widen (k := cl + 2) (n := sl + 102) (by omega) (by omega) ?_
      obtain ⟨σ_11, e11, h⟩ := fr_bind h
      refine fr_qstN hx hb hK hH hN hS e11 (by decide) rfl rfl d_Store_init_46 (fun H locs hH hN hS => ?_)
      refine lv_iinc (v := (y1 + 1)) (lv' := [(1, .int (y1 + 1)), (0, .ref b0)]) hx hb d_Store_init_47 hl (k := 1) rfl rfl (by decide) rfl (fun ls hl => ?_)
      refine lv_goto (tgt := 28) hx hb d_Store_init_50 (by decide) ?_
      exact ih b0 (y1 + 1) σ_11 w10.2 (cl + 2) (sl + 102) σ1 nx1 h _ _ hH hN hS ls (lv_sub hl [1, 0] rfl)
set_option maxHeartbeats 4000000 in
set_option maxRecDepth 100000 in
theorem c_Store_init (l : Launch) (D : va_G) (T : Nat → ClassId) (A : Nat → Prop) (σ : fr_S) (h0 : Nat) (nx : Nat) (hA0 : ∀ q, nx ≤ q → A q) (σ1 : fr_S) (nx1 : Nat) (h : m_Store_init h0 σ nx = some (σ1, nx1)) : Met l y_Store_init (Cond.code y_Store_init b_Store_init 2 none :: fr_W) ({ frames := 2, cells := 22, slots := 1040, locals := 44 } : Room) (va_Pc [.ref h0] (fr_BN D T A nx σ)) (fr_QN D T A σ1 nx1) 22 1040 A := by
  refine Met.ofW (cc := b_Store_init) (maxL := 2) (ret := none) (by decide) rfl ?_
  intro p e s m args below meth c s₁ B hml hv
  obtain ⟨rfl, hN, hH, hK, hX⟩ := hv
  have hA : ∀ q, s.heap.size ≤ q → A q := fun q hq => hA0 q (by omega)
  have hin : meth.name = "<init>" := (name_of_methodNamed B.named B.method).1
  have C0 : fr_At p s m _ meth c "FetchRules$Store" b_Store_init 2 none := fr_at B hml
  obtain ⟨hx, hb, hr, hml, hown, hts, hlocks⟩ := id C0
  have hS : va_S A s.heap s.heap [] := va_S.rf
  have hl := lv_entry ([.ref h0]) (n := 2) (Nat.le_of_ble_eq_true rfl)
  rw [lg_entry_eq]
  generalize (lg_sl ([.ref h0]) ++ List.replicate (2 - (lg_sl ([.ref h0])).length) Slot.unset).toArray = ls at hl ⊢
  have hl : lv_has ls 2 [(0, .ref h0)] := hl
  unfold m_Store_init at h
  refine lv_aload_n hx hb d_Store_init_0 rfl (lv_at hl 0 rfl) ?_
  refine W.objInit hx hb hown (hts _ k_59) (hts _ k_48) (hts _ k_49) rfl (by rw [hml]; exact hl.1) rfl d_Store_init_1 (Nat.le_of_ble_eq_true rfl) (Nat.le_of_ble_eq_true rfl) ?_
  refine W.eq (g2 := F0 m 4 ls []) rfl ?_
  refine lv_aload_n hx hb d_Store_init_4 rfl (lv_at hl 0 rfl) ?_
  refine lv_bipush (v := 10) hx hb d_Store_init_5 (by decide) ?_
  obtain ⟨σ_1, e1, h⟩ := fr_bind h
  refine fr_newI0 e1 hx hb (hts _ k_80) hK hH hS hA hN (by decide) (by decide) (by decide) (Nat.le_of_ble_eq_true rfl) (Nat.le_of_ble_eq_true rfl) d_Store_init_7 (fun H hH hN hS => ?_)
  refine W.widen (k := 1) (n := 10) (Nat.le_of_ble_eq_true rfl) (Nat.le_of_ble_eq_true rfl) ?_
  have hN : H.size = nx + 1 := by omega
  obtain ⟨σ_2, e2, h⟩ := fr_bind h
  refine fr_putPFN (ty := (.array (.int))) hx hb hts in_Store ty_Store tk_Store nm_Store hown hK hH hN hS ⟨rfl, rfl⟩ e2 rfl 0 (by decide) (hts _ k_81) (fun _ h9 => h9) rfl hin rfl (by decide +kernel) (fs_4_0 _ _ _) (Nat.le_of_ble_eq_true rfl) d_Store_init_9 (fun H locs hH hN hS => ?_)
  refine lv_aload_n hx hb d_Store_init_12 rfl (lv_at hl 0 rfl) ?_
  refine lv_bipush (v := 10) hx hb d_Store_init_13 (by decide) ?_
  obtain ⟨σ_3, e3, h⟩ := fr_bind h
  refine fr_newQ0 e3 hx hb hown (hts _ k_60) (hX.1 _ (by decide)) (by decide) rfl hK hH hS hA hN (by decide) (by decide) (by decide) (Nat.le_of_ble_eq_true rfl) (Nat.le_of_ble_eq_true rfl) d_Store_init_15 (fun H hH hN hS => ?_)
  refine W.widen (k := 2) (n := 20) (Nat.le_of_ble_eq_true rfl) (Nat.le_of_ble_eq_true rfl) ?_
  have hN : H.size = nx + 2 := by omega
  obtain ⟨σ_4, e4, h⟩ := fr_bind h
  refine fr_putPFN (ty := (.array (.object "FetchRules$Row"))) hx hb hts in_Store ty_Store tk_Store nm_Store hown hK hH hN hS ⟨rfl, rfl⟩ e4 rfl 1 (by decide) (hts _ k_82) (fun _ h9 => h9) rfl hin rfl (by decide +kernel) (fs_4_1 _ _ _) (Nat.le_of_ble_eq_true rfl) d_Store_init_18 (fun H locs hH hN hS => ?_)
  refine lv_aload_n hx hb d_Store_init_21 rfl (lv_at hl 0 rfl) ?_
  refine lv_iconst (v := 0) hx hb d_Store_init_22 (by decide) ?_
  obtain ⟨σ_5, e5, h⟩ := fr_bind h
  refine fr_putIN hx hb hts in_Store ty_Store tk_Store nm_Store hown hK hH hN hS e5 rfl 2 (by decide) (hts _ k_84) (fun _ h9 => h9) rfl (by decide +kernel) (fs_4_2 _ _ _) (Nat.le_of_ble_eq_true rfl) d_Store_init_23 (fun H locs hH hN hS => ?_)
  refine lv_iconst (v := 0) hx hb d_Store_init_26 (by decide) ?_
  refine lv_istore_n (lv' := [(1, .int 0), (0, .ref h0)]) hx hb d_Store_init_27 rfl hl (by decide) rfl (fun ls hl => ?_)
  exact w_Store_init_L28 C0 hK hX hA 1000 h0 0 σ_5 (nx + 2) 2 20 σ1 nx1 h _ _ hH hN hS ls (lv_sub hl [1, 0] rfl)
set_option maxHeartbeats 4000000 in
set_option maxRecDepth 100000 in
theorem c_Tellings_init (l : Launch) (D : va_G) (T : Nat → ClassId) (A : Nat → Prop) (σ : fr_S) (h0 : Nat) (nx : Nat) (hA0 : ∀ q, nx ≤ q → A q) (σ1 : fr_S) (nx1 : Nat) (h : m_Tellings_init h0 σ nx = some (σ1, nx1)) : Met l y_Tellings_init (Cond.code y_Tellings_init b_Tellings_init 1 none :: fr_W) ({ frames := 1, cells := 3, slots := 180, locals := 24 } : Room) (va_Pc [.ref h0] (fr_BN D T A nx σ)) (fr_QN D T A σ1 nx1) 3 180 A := by
  refine Met.ofW (cc := b_Tellings_init) (maxL := 1) (ret := none) (by decide) rfl ?_
  intro p e s m args below meth c s₁ B hml hv
  obtain ⟨rfl, hN, hH, hK, hX⟩ := hv
  have hA : ∀ q, s.heap.size ≤ q → A q := fun q hq => hA0 q (by omega)
  have hin : meth.name = "<init>" := (name_of_methodNamed B.named B.method).1
  have C0 : fr_At p s m _ meth c "FetchRules$Tellings" b_Tellings_init 1 none := fr_at B hml
  obtain ⟨hx, hb, hr, hml, hown, hts, hlocks⟩ := id C0
  have hS : va_S A s.heap s.heap [] := va_S.rf
  have hl := lv_entry ([.ref h0]) (n := 1) (Nat.le_of_ble_eq_true rfl)
  rw [lg_entry_eq]
  generalize (lg_sl ([.ref h0]) ++ List.replicate (1 - (lg_sl ([.ref h0])).length) Slot.unset).toArray = ls at hl ⊢
  have hl : lv_has ls 1 [(0, .ref h0)] := hl
  unfold m_Tellings_init at h
  refine lv_aload_n hx hb d_Tellings_init_0 rfl (lv_at hl 0 rfl) ?_
  refine W.objInit hx hb hown (hts _ k_97) (hts _ k_48) (hts _ k_49) rfl (by rw [hml]; exact hl.1) rfl d_Tellings_init_1 (Nat.le_of_ble_eq_true rfl) (Nat.le_of_ble_eq_true rfl) ?_
  refine W.eq (g2 := F0 m 4 ls []) rfl ?_
  refine lv_aload_n hx hb d_Tellings_init_4 rfl (lv_at hl 0 rfl) ?_
  refine lv_bipush (v := 60) hx hb d_Tellings_init_5 (by decide) ?_
  obtain ⟨σ_1, e1, h⟩ := fr_bind h
  refine fr_newI0 e1 hx hb (hts _ k_80) hK hH hS hA hN (by decide) (by decide) (by decide) (Nat.le_of_ble_eq_true rfl) (Nat.le_of_ble_eq_true rfl) d_Tellings_init_7 (fun H hH hN hS => ?_)
  refine W.widen (k := 1) (n := 60) (Nat.le_of_ble_eq_true rfl) (Nat.le_of_ble_eq_true rfl) ?_
  have hN : H.size = nx + 1 := by omega
  obtain ⟨σ_2, e2, h⟩ := fr_bind h
  refine fr_putPFN (ty := (.array (.int))) hx hb hts in_Tellings ty_Tellings tk_Tellings nm_Tellings hown hK hH hN hS ⟨rfl, rfl⟩ e2 rfl 0 (by decide) (hts _ k_98) (fun _ h9 => h9) rfl hin rfl (by decide +kernel) (fs_5_0 _ _ _) (Nat.le_of_ble_eq_true rfl) d_Tellings_init_9 (fun H locs hH hN hS => ?_)
  refine lv_aload_n hx hb d_Tellings_init_12 rfl (lv_at hl 0 rfl) ?_
  refine lv_bipush (v := 60) hx hb d_Tellings_init_13 (by decide) ?_
  obtain ⟨σ_3, e3, h⟩ := fr_bind h
  refine fr_newI0 e3 hx hb (hts _ k_80) hK hH hS hA hN (by decide) (by decide) (by decide) (Nat.le_of_ble_eq_true rfl) (Nat.le_of_ble_eq_true rfl) d_Tellings_init_15 (fun H hH hN hS => ?_)
  refine W.widen (k := 2) (n := 120) (Nat.le_of_ble_eq_true rfl) (Nat.le_of_ble_eq_true rfl) ?_
  have hN : H.size = nx + 2 := by omega
  obtain ⟨σ_4, e4, h⟩ := fr_bind h
  refine fr_putPFN (ty := (.array (.int))) hx hb hts in_Tellings ty_Tellings tk_Tellings nm_Tellings hown hK hH hN hS ⟨rfl, rfl⟩ e4 rfl 1 (by decide) (hts _ k_100) (fun _ h9 => h9) rfl hin rfl (by decide +kernel) (fs_5_1 _ _ _) (Nat.le_of_ble_eq_true rfl) d_Tellings_init_17 (fun H locs hH hN hS => ?_)
  refine lv_aload_n hx hb d_Tellings_init_20 rfl (lv_at hl 0 rfl) ?_
  refine lv_bipush (v := 60) hx hb d_Tellings_init_21 (by decide) ?_
  obtain ⟨σ_5, e5, h⟩ := fr_bind h
  refine fr_newI0 e5 hx hb (hts _ k_80) hK hH hS hA hN (by decide) (by decide) (by decide) (Nat.le_of_ble_eq_true rfl) (Nat.le_of_ble_eq_true rfl) d_Tellings_init_23 (fun H hH hN hS => ?_)
  refine W.widen (k := 3) (n := 180) (Nat.le_of_ble_eq_true rfl) (Nat.le_of_ble_eq_true rfl) ?_
  have hN : H.size = nx + 3 := by omega
  obtain ⟨σ_6, e6, h⟩ := fr_bind h
  refine fr_putPFN (ty := (.array (.int))) hx hb hts in_Tellings ty_Tellings tk_Tellings nm_Tellings hown hK hH hN hS ⟨rfl, rfl⟩ e6 rfl 2 (by decide) (hts _ k_102) (fun _ h9 => h9) rfl hin rfl (by decide +kernel) (fs_5_2 _ _ _) (Nat.le_of_ble_eq_true rfl) d_Tellings_init_25 (fun H locs hH hN hS => ?_)
  refine lv_aload_n hx hb d_Tellings_init_28 rfl (lv_at hl 0 rfl) ?_
  refine lv_iconst (v := 0) hx hb d_Tellings_init_29 (by decide) ?_
  obtain ⟨σ_7, e7, h⟩ := fr_bind h
  refine fr_putIN hx hb hts in_Tellings ty_Tellings tk_Tellings nm_Tellings hown hK hH hN hS e7 rfl 3 (by decide) (hts _ k_104) (fun _ h9 => h9) rfl (by decide +kernel) (fs_5_3 _ _ _) (Nat.le_of_ble_eq_true rfl) d_Tellings_init_30 (fun H locs hH hN hS => ?_)
  exact fr_vretN hx hb hr hlocks h hH hN hK hX hS d_Tellings_init_33
set_option maxHeartbeats 4000000 in
set_option maxRecDepth 100000 in
theorem c_Files_init (l : Launch) (D : va_G) (T : Nat → ClassId) (A : Nat → Prop) (σ : fr_S) (h0 : Nat) (nx : Nat) (hA0 : ∀ q, nx ≤ q → A q) (σ1 : fr_S) (nx1 : Nat) (h : m_Files_init h0 σ nx = some (σ1, nx1)) : Met l y_Files_init (Cond.code y_Files_init b_Files_init 1 none :: fr_W) ({ frames := 1, cells := 4, slots := 132, locals := 24 } : Room) (va_Pc [.ref h0] (fr_BN D T A nx σ)) (fr_QN D T A σ1 nx1) 4 132 A := by
  refine Met.ofW (cc := b_Files_init) (maxL := 1) (ret := none) (by decide) rfl ?_
  intro p e s m args below meth c s₁ B hml hv
  obtain ⟨rfl, hN, hH, hK, hX⟩ := hv
  have hA : ∀ q, s.heap.size ≤ q → A q := fun q hq => hA0 q (by omega)
  have hin : meth.name = "<init>" := (name_of_methodNamed B.named B.method).1
  have C0 : fr_At p s m _ meth c "FetchRules$Files" b_Files_init 1 none := fr_at B hml
  obtain ⟨hx, hb, hr, hml, hown, hts, hlocks⟩ := id C0
  have hS : va_S A s.heap s.heap [] := va_S.rf
  have hl := lv_entry ([.ref h0]) (n := 1) (Nat.le_of_ble_eq_true rfl)
  rw [lg_entry_eq]
  generalize (lg_sl ([.ref h0]) ++ List.replicate (1 - (lg_sl ([.ref h0])).length) Slot.unset).toArray = ls at hl ⊢
  have hl : lv_has ls 1 [(0, .ref h0)] := hl
  unfold m_Files_init at h
  refine lv_aload_n hx hb d_Files_init_0 rfl (lv_at hl 0 rfl) ?_
  refine W.objInit hx hb hown (hts _ k_119) (hts _ k_48) (hts _ k_49) rfl (by rw [hml]; exact hl.1) rfl d_Files_init_1 (Nat.le_of_ble_eq_true rfl) (Nat.le_of_ble_eq_true rfl) ?_
  refine W.eq (g2 := F0 m 4 ls []) rfl ?_
  refine lv_aload_n hx hb d_Files_init_4 rfl (lv_at hl 0 rfl) ?_
  refine lv_bipush (v := 33) hx hb d_Files_init_5 (by decide) ?_
  obtain ⟨σ_1, e1, h⟩ := fr_bind h
  refine fr_newI0 e1 hx hb (hts _ k_80) hK hH hS hA hN (by decide) (by decide) (by decide) (Nat.le_of_ble_eq_true rfl) (Nat.le_of_ble_eq_true rfl) d_Files_init_7 (fun H hH hN hS => ?_)
  refine W.widen (k := 1) (n := 33) (Nat.le_of_ble_eq_true rfl) (Nat.le_of_ble_eq_true rfl) ?_
  have hN : H.size = nx + 1 := by omega
  obtain ⟨σ_2, e2, h⟩ := fr_bind h
  refine fr_putPFN (ty := (.array (.int))) hx hb hts in_Files ty_Files tk_Files nm_Files hown hK hH hN hS ⟨rfl, rfl⟩ e2 rfl 0 (by decide) (hts _ k_120) (fun _ h9 => h9) rfl hin rfl (by decide +kernel) (fs_1_0 _ _ _) (Nat.le_of_ble_eq_true rfl) d_Files_init_9 (fun H locs hH hN hS => ?_)
  refine lv_aload_n hx hb d_Files_init_12 rfl (lv_at hl 0 rfl) ?_
  refine lv_bipush (v := 33) hx hb d_Files_init_13 (by decide) ?_
  obtain ⟨σ_3, e3, h⟩ := fr_bind h
  refine fr_newI0 e3 hx hb (hts _ k_80) hK hH hS hA hN (by decide) (by decide) (by decide) (Nat.le_of_ble_eq_true rfl) (Nat.le_of_ble_eq_true rfl) d_Files_init_15 (fun H hH hN hS => ?_)
  refine W.widen (k := 2) (n := 66) (Nat.le_of_ble_eq_true rfl) (Nat.le_of_ble_eq_true rfl) ?_
  have hN : H.size = nx + 2 := by omega
  obtain ⟨σ_4, e4, h⟩ := fr_bind h
  refine fr_putPFN (ty := (.array (.int))) hx hb hts in_Files ty_Files tk_Files nm_Files hown hK hH hN hS ⟨rfl, rfl⟩ e4 rfl 1 (by decide) (hts _ k_122) (fun _ h9 => h9) rfl hin rfl (by decide +kernel) (fs_1_1 _ _ _) (Nat.le_of_ble_eq_true rfl) d_Files_init_17 (fun H locs hH hN hS => ?_)
  refine lv_aload_n hx hb d_Files_init_20 rfl (lv_at hl 0 rfl) ?_
  refine lv_bipush (v := 33) hx hb d_Files_init_21 (by decide) ?_
  obtain ⟨σ_5, e5, h⟩ := fr_bind h
  refine fr_newI0 e5 hx hb (hts _ k_80) hK hH hS hA hN (by decide) (by decide) (by decide) (Nat.le_of_ble_eq_true rfl) (Nat.le_of_ble_eq_true rfl) d_Files_init_23 (fun H hH hN hS => ?_)
  refine W.widen (k := 3) (n := 99) (Nat.le_of_ble_eq_true rfl) (Nat.le_of_ble_eq_true rfl) ?_
  have hN : H.size = nx + 3 := by omega
  obtain ⟨σ_6, e6, h⟩ := fr_bind h
  refine fr_putPFN (ty := (.array (.int))) hx hb hts in_Files ty_Files tk_Files nm_Files hown hK hH hN hS ⟨rfl, rfl⟩ e6 rfl 2 (by decide) (hts _ k_124) (fun _ h9 => h9) rfl hin rfl (by decide +kernel) (fs_1_2 _ _ _) (Nat.le_of_ble_eq_true rfl) d_Files_init_25 (fun H locs hH hN hS => ?_)
  refine lv_aload_n hx hb d_Files_init_28 rfl (lv_at hl 0 rfl) ?_
  refine lv_bipush (v := 33) hx hb d_Files_init_29 (by decide) ?_
  obtain ⟨σ_7, e7, h⟩ := fr_bind h
  refine fr_newI0 e7 hx hb (hts _ k_80) hK hH hS hA hN (by decide) (by decide) (by decide) (Nat.le_of_ble_eq_true rfl) (Nat.le_of_ble_eq_true rfl) d_Files_init_31 (fun H hH hN hS => ?_)
  refine W.widen (k := 4) (n := 132) (Nat.le_of_ble_eq_true rfl) (Nat.le_of_ble_eq_true rfl) ?_
  have hN : H.size = nx + 4 := by omega
  obtain ⟨σ_8, e8, h⟩ := fr_bind h
  refine fr_putPFN (ty := (.array (.int))) hx hb hts in_Files ty_Files tk_Files nm_Files hown hK hH hN hS ⟨rfl, rfl⟩ e8 rfl 3 (by decide) (hts _ k_126) (fun _ h9 => h9) rfl hin rfl (by decide +kernel) (fs_1_3 _ _ _) (Nat.le_of_ble_eq_true rfl) d_Files_init_33 (fun H locs hH hN hS => ?_)
  refine lv_aload_n hx hb d_Files_init_36 rfl (lv_at hl 0 rfl) ?_
  refine lv_iconst (v := 0) hx hb d_Files_init_37 (by decide) ?_
  obtain ⟨σ_9, e9, h⟩ := fr_bind h
  refine fr_putIN hx hb hts in_Files ty_Files tk_Files nm_Files hown hK hH hN hS e9 rfl 4 (by decide) (hts _ k_128) (fun _ h9 => h9) rfl (by decide +kernel) (fs_1_4 _ _ _) (Nat.le_of_ble_eq_true rfl) d_Files_init_38 (fun H locs hH hN hS => ?_)
  exact fr_vretN hx hb hr hlocks h hH hN hK hX hS d_Files_init_41
set_option maxHeartbeats 4000000 in
set_option maxRecDepth 100000 in
theorem c_Place_init (l : Launch) (D : va_G) (T : Nat → ClassId) (A : Nat → Prop) (σ : fr_S) (h0 : Nat) (nx : Nat) (hA0 : ∀ q, nx ≤ q → A q) (σ1 : fr_S) (nx1 : Nat) (h : m_Place_init h0 σ nx = some (σ1, nx1)) : Met l y_Place_init (Cond.code y_Place_init b_Place_init 1 none :: fr_W) ({ frames := 2, cells := 2, slots := 102, locals := 44 } : Room) (va_Pc [.ref h0] (fr_BN D T A nx σ)) (fr_QN D T A σ1 nx1) 2 102 A := by
  refine Met.ofW (cc := b_Place_init) (maxL := 1) (ret := none) (by decide) rfl ?_
  intro p e s m args below meth c s₁ B hml hv
  obtain ⟨rfl, hN, hH, hK, hX⟩ := hv
  have hA : ∀ q, s.heap.size ≤ q → A q := fun q hq => hA0 q (by omega)
  have hin : meth.name = "<init>" := (name_of_methodNamed B.named B.method).1
  have C0 : fr_At p s m _ meth c "FetchRules$Place" b_Place_init 1 none := fr_at B hml
  obtain ⟨hx, hb, hr, hml, hown, hts, hlocks⟩ := id C0
  have hS : va_S A s.heap s.heap [] := va_S.rf
  have hl := lv_entry ([.ref h0]) (n := 1) (Nat.le_of_ble_eq_true rfl)
  rw [lg_entry_eq]
  generalize (lg_sl ([.ref h0]) ++ List.replicate (1 - (lg_sl ([.ref h0])).length) Slot.unset).toArray = ls at hl ⊢
  have hl : lv_has ls 1 [(0, .ref h0)] := hl
  unfold m_Place_init at h
  refine lv_aload_n hx hb d_Place_init_0 rfl (lv_at hl 0 rfl) ?_
  refine W.objInit hx hb hown (hts _ k_151) (hts _ k_48) (hts _ k_49) rfl (by rw [hml]; exact hl.1) rfl d_Place_init_1 (Nat.le_of_ble_eq_true rfl) (Nat.le_of_ble_eq_true rfl) ?_
  refine W.eq (g2 := F0 m 4 ls []) rfl ?_
  refine lv_aload_n hx hb d_Place_init_4 rfl (lv_at hl 0 rfl) ?_
  obtain ⟨σ_1, e1, h⟩ := fr_bind h
  refine fr_newO e1 hx hb hts in_Row ty_Row tk_Row hown (hts _ k_152) (hts _ k_62) (hts _ k_33) hK hH hS hA hN rfl (df_Row _ _) (Nat.le_of_ble_eq_true rfl) (Nat.le_of_ble_eq_true rfl) d_Place_init_5 (fun H hH hN hS => ?_)
  refine W.widen (k := 1) (n := 2) (Nat.le_of_ble_eq_true rfl) (Nat.le_of_ble_eq_true rfl) ?_
  have hN : H.size = nx + 1 := by omega
  refine lv_dup hx hb d_Place_init_8 rfl ?_
  obtain ⟨w2, e2, h⟩ := fr_bind h
  refine fr_callN (fr_IN (b := nx) (As := []) (rest := [.ref nx, .ref h0]) ⟨hx, hb, hml, hown, hts⟩ (c_Row_init l D T A σ_1 nx (nx + 1) (fun q hq => hA q (by have h9 := hS.1; omega)) w2.1 w2.2 e2) (hX.2 ("FetchRules$Place", 11, y_Row_init, "FetchRules") (List.mem_of_getElem? (i := 4) rfl)) mi_Row_init rfl rfl ⟨Nat.le_of_ble_eq_true rfl, Nat.le_of_ble_eq_true rfl⟩ (fr_preN hK hX hH hN _) rfl hl.1 rfl (Nat.le_of_ble_eq_true rfl) d_Place_init_9 ⟨Nat.le_of_ble_eq_true rfl, Nat.le_of_ble_eq_true rfl⟩) hS (fun H locs hH hN hS => ?_)
  refine W.widen (k := 2) (n := 102) (Nat.le_of_ble_eq_true rfl) (Nat.le_of_ble_eq_true rfl) ?_
  obtain ⟨σ_3, e3, h⟩ := fr_bind h
  refine fr_putPFN (ty := (.object "FetchRules$Row")) hx hb hts in_Place ty_Place tk_Place nm_Place hown hK hH hN hS ⟨rfl, rfl⟩ e3 rfl 0 (by decide) (hts _ k_154) (fun _ h9 => h9) rfl hin rfl (by decide +kernel) (fs_2_0 _ _ _) (Nat.le_of_ble_eq_true rfl) d_Place_init_12 (fun H locs hH hN hS => ?_)
  refine lv_aload_n hx hb d_Place_init_15 rfl (lv_at hl 0 rfl) ?_
  refine lv_iconst (v := 0) hx hb d_Place_init_16 (by decide) ?_
  obtain ⟨σ_4, e4, h⟩ := fr_bind h
  refine fr_putIN hx hb hts in_Place ty_Place tk_Place nm_Place hown hK hH hN hS e4 rfl 1 (by decide) (hts _ k_156) (fun _ h9 => h9) rfl (by decide +kernel) (fs_2_1 _ _ _) (Nat.le_of_ble_eq_true rfl) d_Place_init_17 (fun H locs hH hN hS => ?_)
  refine lv_aload_n hx hb d_Place_init_20 rfl (lv_at hl 0 rfl) ?_
  refine lv_iconst (v := 1) hx hb d_Place_init_21 (by decide) ?_
  obtain ⟨σ_5, e5, h⟩ := fr_bind h
  refine fr_putIN hx hb hts in_Place ty_Place tk_Place nm_Place hown hK hH hN hS e5 rfl 2 (by decide) (hts _ k_158) (fun _ h9 => h9) rfl (by decide +kernel) (fs_2_2 _ _ _) (Nat.le_of_ble_eq_true rfl) d_Place_init_22 (fun H locs hH hN hS => ?_)
  refine lv_aload_n hx hb d_Place_init_25 rfl (lv_at hl 0 rfl) ?_
  refine lv_iconst (v := (-1)) hx hb d_Place_init_26 (by decide) ?_
  obtain ⟨σ_6, e6, h⟩ := fr_bind h
  refine fr_putIN hx hb hts in_Place ty_Place tk_Place nm_Place hown hK hH hN hS e6 rfl 3 (by decide) (hts _ k_160) (fun _ h9 => h9) rfl (by decide +kernel) (fs_2_3 _ _ _) (Nat.le_of_ble_eq_true rfl) d_Place_init_27 (fun H locs hH hN hS => ?_)
  refine lv_aload_n hx hb d_Place_init_30 rfl (lv_at hl 0 rfl) ?_
  refine lv_iconst (v := 0) hx hb d_Place_init_31 (by decide) ?_
  obtain ⟨σ_7, e7, h⟩ := fr_bind h
  refine fr_putIN hx hb hts in_Place ty_Place tk_Place nm_Place hown hK hH hN hS e7 rfl 4 (by decide) (hts _ k_162) (fun _ h9 => h9) rfl (by decide +kernel) (fs_2_4 _ _ _) (Nat.le_of_ble_eq_true rfl) d_Place_init_32 (fun H locs hH hN hS => ?_)
  refine lv_aload_n hx hb d_Place_init_35 rfl (lv_at hl 0 rfl) ?_
  refine lv_iconst (v := 0) hx hb d_Place_init_36 (by decide) ?_
  obtain ⟨σ_8, e8, h⟩ := fr_bind h
  refine fr_putIN hx hb hts in_Place ty_Place tk_Place nm_Place hown hK hH hN hS e8 rfl 5 (by decide) (hts _ k_164) (fun _ h9 => h9) rfl (by decide +kernel) (fs_2_5 _ _ _) (Nat.le_of_ble_eq_true rfl) d_Place_init_37 (fun H locs hH hN hS => ?_)
  refine lv_aload_n hx hb d_Place_init_40 rfl (lv_at hl 0 rfl) ?_
  refine lv_iconst (v := 0) hx hb d_Place_init_41 (by decide) ?_
  obtain ⟨σ_9, e9, h⟩ := fr_bind h
  refine fr_putZN hx hb hts in_Place ty_Place tk_Place nm_Place hown hK hH hN hS e9 rfl 6 (by decide) (hts _ k_166) (fun _ h9 => h9) rfl (by decide +kernel) (fs_2_6 _ _ _) (Nat.le_of_ble_eq_true rfl) d_Place_init_42 (fun H locs hH hN hS => ?_)
  refine lv_aload_n hx hb d_Place_init_45 rfl (lv_at hl 0 rfl) ?_
  refine lv_iconst (v := 0) hx hb d_Place_init_46 (by decide) ?_
  obtain ⟨σ_10, e10, h⟩ := fr_bind h
  refine fr_putZN hx hb hts in_Place ty_Place tk_Place nm_Place hown hK hH hN hS e10 rfl 7 (by decide) (hts _ k_168) (fun _ h9 => h9) rfl (by decide +kernel) (fs_2_7 _ _ _) (Nat.le_of_ble_eq_true rfl) d_Place_init_47 (fun H locs hH hN hS => ?_)
  refine lv_aload_n hx hb d_Place_init_50 rfl (lv_at hl 0 rfl) ?_
  refine lv_iconst (v := 0) hx hb d_Place_init_51 (by decide) ?_
  obtain ⟨σ_11, e11, h⟩ := fr_bind h
  refine fr_putZN hx hb hts in_Place ty_Place tk_Place nm_Place hown hK hH hN hS e11 rfl 8 (by decide) (hts _ k_170) (fun _ h9 => h9) rfl (by decide +kernel) (fs_2_8 _ _ _) (Nat.le_of_ble_eq_true rfl) d_Place_init_52 (fun H locs hH hN hS => ?_)
  refine lv_aload_n hx hb d_Place_init_55 rfl (lv_at hl 0 rfl) ?_
  refine lv_iconst (v := 0) hx hb d_Place_init_56 (by decide) ?_
  obtain ⟨σ_12, e12, h⟩ := fr_bind h
  refine fr_putZN hx hb hts in_Place ty_Place tk_Place nm_Place hown hK hH hN hS e12 rfl 9 (by decide) (hts _ k_172) (fun _ h9 => h9) rfl (by decide +kernel) (fs_2_9 _ _ _) (Nat.le_of_ble_eq_true rfl) d_Place_init_57 (fun H locs hH hN hS => ?_)
  exact fr_vretN hx hb hr hlocks h hH hN hK hX hS d_Place_init_60
set_option maxHeartbeats 4000000 in
set_option maxRecDepth 100000 in
theorem c_Want_init (l : Launch) (D : va_G) (T : Nat → ClassId) (A : Nat → Prop) (σ : fr_S) (h0 : Nat) (nx : Nat) (hA0 : ∀ q, nx ≤ q → A q) (σ1 : fr_S) (nx1 : Nat) (h : m_Want_init h0 σ nx = some (σ1, nx1)) : Met l y_Want_init (Cond.code y_Want_init b_Want_init 1 none :: fr_W) ({ frames := 2, cells := 3, slots := 108, locals := 44 } : Room) (va_Pc [.ref h0] (fr_BN D T A nx σ)) (fr_QN D T A σ1 nx1) 3 108 A := by
  refine Met.ofW (cc := b_Want_init) (maxL := 1) (ret := none) (by decide) rfl ?_
  intro p e s m args below meth c s₁ B hml hv
  obtain ⟨rfl, hN, hH, hK, hX⟩ := hv
  have hA : ∀ q, s.heap.size ≤ q → A q := fun q hq => hA0 q (by omega)
  have hin : meth.name = "<init>" := (name_of_methodNamed B.named B.method).1
  have C0 : fr_At p s m _ meth c "FetchRules$Want" b_Want_init 1 none := fr_at B hml
  obtain ⟨hx, hb, hr, hml, hown, hts, hlocks⟩ := id C0
  have hS : va_S A s.heap s.heap [] := va_S.rf
  have hl := lv_entry ([.ref h0]) (n := 1) (Nat.le_of_ble_eq_true rfl)
  rw [lg_entry_eq]
  generalize (lg_sl ([.ref h0]) ++ List.replicate (1 - (lg_sl ([.ref h0])).length) Slot.unset).toArray = ls at hl ⊢
  have hl : lv_has ls 1 [(0, .ref h0)] := hl
  unfold m_Want_init at h
  refine lv_aload_n hx hb d_Want_init_0 rfl (lv_at hl 0 rfl) ?_
  refine W.objInit hx hb hown (hts _ k_199) (hts _ k_48) (hts _ k_49) rfl (by rw [hml]; exact hl.1) rfl d_Want_init_1 (Nat.le_of_ble_eq_true rfl) (Nat.le_of_ble_eq_true rfl) ?_
  refine W.eq (g2 := F0 m 4 ls []) rfl ?_
  refine lv_aload_n hx hb d_Want_init_4 rfl (lv_at hl 0 rfl) ?_
  obtain ⟨σ_1, e1, h⟩ := fr_bind h
  refine fr_newO e1 hx hb hts in_Row ty_Row tk_Row hown (hts _ k_200) (hts _ k_62) (hts _ k_33) hK hH hS hA hN rfl (df_Row _ _) (Nat.le_of_ble_eq_true rfl) (Nat.le_of_ble_eq_true rfl) d_Want_init_5 (fun H hH hN hS => ?_)
  refine W.widen (k := 1) (n := 2) (Nat.le_of_ble_eq_true rfl) (Nat.le_of_ble_eq_true rfl) ?_
  have hN : H.size = nx + 1 := by omega
  refine lv_dup hx hb d_Want_init_8 rfl ?_
  obtain ⟨w2, e2, h⟩ := fr_bind h
  refine fr_callN (fr_IN (b := nx) (As := []) (rest := [.ref nx, .ref h0]) ⟨hx, hb, hml, hown, hts⟩ (c_Row_init l D T A σ_1 nx (nx + 1) (fun q hq => hA q (by have h9 := hS.1; omega)) w2.1 w2.2 e2) (hX.2 ("FetchRules$Want", 11, y_Row_init, "FetchRules") (List.mem_of_getElem? (i := 6) rfl)) mi_Row_init rfl rfl ⟨Nat.le_of_ble_eq_true rfl, Nat.le_of_ble_eq_true rfl⟩ (fr_preN hK hX hH hN _) rfl hl.1 rfl (Nat.le_of_ble_eq_true rfl) d_Want_init_9 ⟨Nat.le_of_ble_eq_true rfl, Nat.le_of_ble_eq_true rfl⟩) hS (fun H locs hH hN hS => ?_)
  refine W.widen (k := 2) (n := 102) (Nat.le_of_ble_eq_true rfl) (Nat.le_of_ble_eq_true rfl) ?_
  obtain ⟨σ_3, e3, h⟩ := fr_bind h
  refine fr_putPFN (ty := (.object "FetchRules$Row")) hx hb hts in_Want ty_Want tk_Want nm_Want hown hK hH hN hS ⟨rfl, rfl⟩ e3 rfl 0 (by decide) (hts _ k_202) (fun _ h9 => h9) rfl hin rfl (by decide +kernel) (fs_6_0 _ _ _) (Nat.le_of_ble_eq_true rfl) d_Want_init_12 (fun H locs hH hN hS => ?_)
  refine lv_aload_n hx hb d_Want_init_15 rfl (lv_at hl 0 rfl) ?_
  refine lv_bipush (v := 6) hx hb d_Want_init_16 (by decide) ?_
  obtain ⟨σ_4, e4, h⟩ := fr_bind h
  refine fr_newI0 e4 hx hb (hts _ k_80) hK hH hS hA hN (by decide) (by decide) (by decide) (Nat.le_of_ble_eq_true rfl) (Nat.le_of_ble_eq_true rfl) d_Want_init_18 (fun H hH hN hS => ?_)
  refine W.widen (k := 3) (n := 108) (Nat.le_of_ble_eq_true rfl) (Nat.le_of_ble_eq_true rfl) ?_
  have hN : H.size = w2.2 + 1 := by omega
  obtain ⟨σ_5, e5, h⟩ := fr_bind h
  refine fr_putPFN (ty := (.array (.int))) hx hb hts in_Want ty_Want tk_Want nm_Want hown hK hH hN hS ⟨rfl, rfl⟩ e5 rfl 1 (by decide) (hts _ k_204) (fun _ h9 => h9) rfl hin rfl (by decide +kernel) (fs_6_1 _ _ _) (Nat.le_of_ble_eq_true rfl) d_Want_init_20 (fun H locs hH hN hS => ?_)
  refine lv_aload_n hx hb d_Want_init_23 rfl (lv_at hl 0 rfl) ?_
  refine lv_iconst (v := 0) hx hb d_Want_init_24 (by decide) ?_
  obtain ⟨σ_6, e6, h⟩ := fr_bind h
  refine fr_putIN hx hb hts in_Want ty_Want tk_Want nm_Want hown hK hH hN hS e6 rfl 2 (by decide) (hts _ k_206) (fun _ h9 => h9) rfl (by decide +kernel) (fs_6_2 _ _ _) (Nat.le_of_ble_eq_true rfl) d_Want_init_25 (fun H locs hH hN hS => ?_)
  refine lv_aload_n hx hb d_Want_init_28 rfl (lv_at hl 0 rfl) ?_
  refine lv_iconst (v := 0) hx hb d_Want_init_29 (by decide) ?_
  obtain ⟨σ_7, e7, h⟩ := fr_bind h
  refine fr_putIN hx hb hts in_Want ty_Want tk_Want nm_Want hown hK hH hN hS e7 rfl 3 (by decide) (hts _ k_208) (fun _ h9 => h9) rfl (by decide +kernel) (fs_6_3 _ _ _) (Nat.le_of_ble_eq_true rfl) d_Want_init_30 (fun H locs hH hN hS => ?_)
  refine lv_aload_n hx hb d_Want_init_33 rfl (lv_at hl 0 rfl) ?_
  refine lv_iconst (v := 0) hx hb d_Want_init_34 (by decide) ?_
  obtain ⟨σ_8, e8, h⟩ := fr_bind h
  refine fr_putIN hx hb hts in_Want ty_Want tk_Want nm_Want hown hK hH hN hS e8 rfl 4 (by decide) (hts _ k_210) (fun _ h9 => h9) rfl (by decide +kernel) (fs_6_4 _ _ _) (Nat.le_of_ble_eq_true rfl) d_Want_init_35 (fun H locs hH hN hS => ?_)
  refine lv_aload_n hx hb d_Want_init_38 rfl (lv_at hl 0 rfl) ?_
  refine lv_iconst (v := 0) hx hb d_Want_init_39 (by decide) ?_
  obtain ⟨σ_9, e9, h⟩ := fr_bind h
  refine fr_putIN hx hb hts in_Want ty_Want tk_Want nm_Want hown hK hH hN hS e9 rfl 5 (by decide) (hts _ k_212) (fun _ h9 => h9) rfl (by decide +kernel) (fs_6_5 _ _ _) (Nat.le_of_ble_eq_true rfl) d_Want_init_40 (fun H locs hH hN hS => ?_)
  refine lv_aload_n hx hb d_Want_init_43 rfl (lv_at hl 0 rfl) ?_
  refine lv_iconst (v := 0) hx hb d_Want_init_44 (by decide) ?_
  obtain ⟨σ_10, e10, h⟩ := fr_bind h
  refine fr_putIN hx hb hts in_Want ty_Want tk_Want nm_Want hown hK hH hN hS e10 rfl 6 (by decide) (hts _ k_214) (fun _ h9 => h9) rfl (by decide +kernel) (fs_6_6 _ _ _) (Nat.le_of_ble_eq_true rfl) d_Want_init_45 (fun H locs hH hN hS => ?_)
  refine lv_aload_n hx hb d_Want_init_48 rfl (lv_at hl 0 rfl) ?_
  refine lv_iconst (v := 0) hx hb d_Want_init_49 (by decide) ?_
  obtain ⟨σ_11, e11, h⟩ := fr_bind h
  refine fr_putIN hx hb hts in_Want ty_Want tk_Want nm_Want hown hK hH hN hS e11 rfl 7 (by decide) (hts _ k_216) (fun _ h9 => h9) rfl (by decide +kernel) (fs_6_7 _ _ _) (Nat.le_of_ble_eq_true rfl) d_Want_init_50 (fun H locs hH hN hS => ?_)
  refine lv_aload_n hx hb d_Want_init_53 rfl (lv_at hl 0 rfl) ?_
  refine lv_iconst (v := 0) hx hb d_Want_init_54 (by decide) ?_
  obtain ⟨σ_12, e12, h⟩ := fr_bind h
  refine fr_putIN hx hb hts in_Want ty_Want tk_Want nm_Want hown hK hH hN hS e12 rfl 8 (by decide) (hts _ k_218) (fun _ h9 => h9) rfl (by decide +kernel) (fs_6_8 _ _ _) (Nat.le_of_ble_eq_true rfl) d_Want_init_55 (fun H locs hH hN hS => ?_)
  exact fr_vretN hx hb hr hlocks h hH hN hK hX hS d_Want_init_58
set_option maxHeartbeats 4000000 in
set_option maxRecDepth 100000 in
theorem w_FR_init_L146 {p : Program} {l : Launch} {e : Env} {s : State} {m : MethodId} {args : Array Value} {below : List Frame} {meth : Method} {c : Code} {D : va_G} {T : Nat → ClassId} {A : Nat → Prop} (C0 : fr_At p s m args meth c "FetchRules" b_FR_init 3 none) (hK : va_K D vwCl (fr_tys T) s) (hX : fr_X s) (hA : ∀ q, s.heap.size ≤ q → A q) :
    ∀ (n : Nat) (b0 : Nat) (y2 : Int32) (σ : fr_S) (nx cl sl : Nat) (σ1 : fr_S) (nx1 : Nat), m_FR_init_L146 n b0 y2 σ nx cl sl = some (σ1, nx1) → ∀ (H : Heap) (locs : List Loc), fr_H D T A σ H → H.size = nx → va_S A s.heap H locs → ∀ (ls : Array Slot), lv_has ls 3 [(0, .ref b0), (2, .int y2)] → W p l e (headSpec (Cond.code y_FR_init b_FR_init 3 none :: fr_W) ({ frames := 3, cells := 125, slots := 4378, locals := 65 } : Room)).room s m args below meth c H locs cl sl (MQ below (fr_QN D T A σ1 nx1) args s 125 4378 A) (F0 m 146 ls []) := by
  obtain ⟨hx, hb, hr, hml, hown, hts, hlocks⟩ := id C0
  intro n
  induction n with
  | zero => intro b0 y2 σ nx cl sl σ1 nx1 h; cases h
  | succ n ih =>
    intro b0 y2 σ nx cl sl σ1 nx1 h H locs hH hN hS ls hl
    unfold m_FR_init_L146 at h
    refine lv_iload_n hx hb d_FR_init_146 rfl (lv_at hl 1 rfl) ?_
    refine lv_bipush (v := 10) hx hb d_FR_init_147 (by decide) ?_
    refine lv_icmp_ge (tgt := 171) hx hb d_FR_init_149 (by decide) (fun c31 => ?_) (fun c31 => ?_)
    · replace h := fr_ift c31 h
      obtain ⟨u32, e32, h⟩ := fr_bind h
      refine W.widen (k := 125) (n := 4378) (oR_inv e32).1 (oR_inv e32).2 ?_
      exact fr_vretN hx hb hr hlocks h hH hN hK hX hS d_FR_init_171
    · replace h := fr_iff c31 h
      refine lv_aload_n hx hb d_FR_init_152 rfl (lv_at hl 0 rfl) ?_
      obtain ⟨q33, e33, h⟩ := fr_bind h
      refine fr_gP hx hb hts in_FR hown hK hH e33 rfl 5 (by decide) (hts _ k_244) (fun _ h9 => h9) rfl d_FR_init_153 ?_
      refine lv_iload_n hx hb d_FR_init_156 rfl (lv_at hl 1 rfl) ?_
      obtain ⟨u34, f34, h⟩ := fr_bind h
      obtain ⟨σ_34, e34, h⟩ := fr_bind h
      refine fr_newO e34 hx hb hts in_Want ty_Want tk_Want hown (hts _ k_52) (hts _ k_195) (hts _ k_38) hK hH hS hA hN rfl (df_Want _ _) (oR_inv f34).1 (oR_inv f34).2 d_FR_init_157 (fun H hH hN hS => ?_)
      refine W.widen (k := cl + 1) (n := sl + 9) (by omega) (by omega) ?_
      have hN : H.size = nx + 1 := by omega
      refine lv_dup hx hb d_FR_init_160 rfl ?_
      obtain ⟨u35, f35, h⟩ := fr_bind h
      obtain ⟨w35, e35, h⟩ := fr_bind h
      refine fr_callN (fr_IN (b := nx) (As := []) (rest := [.ref nx, .int y2, .ref q33]) ⟨hx, hb, hml, hown, hts⟩ (c_Want_init l D T A σ_34 nx (nx + 1) (fun q hq => hA q (by have h9 := hS.1; omega)) w35.1 w35.2 e35) (hX.2 ("FetchRules", 83, y_Want_init, "FetchRules") (List.mem_of_getElem? (i := 5) rfl)) mi_Want_init rfl rfl ⟨Nat.le_of_ble_eq_true rfl, Nat.le_of_ble_eq_true rfl⟩ (fr_preN hK hX hH hN _) rfl hl.1 rfl (Nat.le_of_ble_eq_true rfl) d_FR_init_161 ⟨(oR_inv f35).1, (oR_inv f35).2⟩) hS (fun H locs hH hN hS => ?_)
      refine W.widen (k := cl + 4) (n := sl + 117) (by omega) (by omega) ?_
      obtain ⟨σ_36, e36, h⟩ := fr_bind h
      refine fr_qstN hx hb hK hH hN hS e36 (by decide) rfl rfl d_FR_init_164 (fun H locs hH hN hS => ?_)
      refine lv_iinc (v := (y2 + 1)) (lv' := [(2, .int (y2 + 1)), (0, .ref b0)]) hx hb d_FR_init_165 hl (k := 1) rfl rfl (by decide) rfl (fun ls hl => ?_)
      refine lv_goto (tgt := 146) hx hb d_FR_init_168 (by decide) ?_
      exact ih b0 (y2 + 1) σ_36 w35.2 (cl + 4) (sl + 117) σ1 nx1 h _ _ hH hN hS ls (lv_sub hl [1, 0] rfl)
set_option maxHeartbeats 4000000 in
set_option maxRecDepth 100000 in
theorem w_FR_init_L119 {p : Program} {l : Launch} {e : Env} {s : State} {m : MethodId} {args : Array Value} {below : List Frame} {meth : Method} {c : Code} {D : va_G} {T : Nat → ClassId} {A : Nat → Prop} (C0 : fr_At p s m args meth c "FetchRules" b_FR_init 3 none) (hK : va_K D vwCl (fr_tys T) s) (hX : fr_X s) (hA : ∀ q, s.heap.size ≤ q → A q) :
    ∀ (n : Nat) (b0 : Nat) (y2 : Int32) (σ : fr_S) (nx cl sl : Nat) (σ1 : fr_S) (nx1 : Nat), m_FR_init_L119 n b0 y2 σ nx cl sl = some (σ1, nx1) → ∀ (H : Heap) (locs : List Loc), fr_H D T A σ H → H.size = nx → va_S A s.heap H locs → ∀ (ls : Array Slot), lv_has ls 3 [(0, .ref b0), (2, .int y2)] → W p l e (headSpec (Cond.code y_FR_init b_FR_init 3 none :: fr_W) ({ frames := 3, cells := 125, slots := 4378, locals := 65 } : Room)).room s m args below meth c H locs cl sl (MQ below (fr_QN D T A σ1 nx1) args s 125 4378 A) (F0 m 119 ls []) := by
  obtain ⟨hx, hb, hr, hml, hown, hts, hlocks⟩ := id C0
  intro n
  induction n with
  | zero => intro b0 y2 σ nx cl sl σ1 nx1 h; cases h
  | succ n ih =>
    intro b0 y2 σ nx cl sl σ1 nx1 h H locs hH hN hS ls hl
    unfold m_FR_init_L119 at h
    refine lv_iload_n hx hb d_FR_init_119 rfl (lv_at hl 1 rfl) ?_
    refine lv_bipush (v := 16) hx hb d_FR_init_120 (by decide) ?_
    refine lv_icmp_ge (tgt := 144) hx hb d_FR_init_122 (by decide) (fun c26 => ?_) (fun c26 => ?_)
    · replace h := fr_ift c26 h
      refine lv_iconst (v := 0) hx hb d_FR_init_144 (by decide) ?_
      refine lv_istore_n (lv' := [(2, .int 0), (0, .ref b0)]) hx hb d_FR_init_145 rfl hl (by decide) rfl (fun ls hl => ?_)
      exact w_FR_init_L146 C0 hK hX hA 1000 b0 0 σ nx cl sl σ1 nx1 h _ _ hH hN hS ls (lv_sub hl [1, 0] rfl)
    · replace h := fr_iff c26 h
      refine lv_aload_n hx hb d_FR_init_125 rfl (lv_at hl 0 rfl) ?_
      obtain ⟨q27, e27, h⟩ := fr_bind h
      refine fr_gP hx hb hts in_FR hown hK hH e27 rfl 3 (by decide) (hts _ k_242) (fun _ h9 => h9) rfl d_FR_init_126 ?_
      refine lv_iload_n hx hb d_FR_init_129 rfl (lv_at hl 1 rfl) ?_
      obtain ⟨u28, f28, h⟩ := fr_bind h
      obtain ⟨σ_28, e28, h⟩ := fr_bind h
      refine fr_newO e28 hx hb hts in_Place ty_Place tk_Place hown (hts _ k_50) (hts _ k_147) (hts _ k_37) hK hH hS hA hN rfl (df_Place _ _) (oR_inv f28).1 (oR_inv f28).2 d_FR_init_130 (fun H hH hN hS => ?_)
      refine W.widen (k := cl + 1) (n := sl + 10) (by omega) (by omega) ?_
      have hN : H.size = nx + 1 := by omega
      refine lv_dup hx hb d_FR_init_133 rfl ?_
      obtain ⟨u29, f29, h⟩ := fr_bind h
      obtain ⟨w29, e29, h⟩ := fr_bind h
      refine fr_callN (fr_IN (b := nx) (As := []) (rest := [.ref nx, .int y2, .ref q27]) ⟨hx, hb, hml, hown, hts⟩ (c_Place_init l D T A σ_28 nx (nx + 1) (fun q hq => hA q (by have h9 := hS.1; omega)) w29.1 w29.2 e29) (hX.2 ("FetchRules", 82, y_Place_init, "FetchRules") (List.mem_of_getElem? (i := 3) rfl)) mi_Place_init rfl rfl ⟨Nat.le_of_ble_eq_true rfl, Nat.le_of_ble_eq_true rfl⟩ (fr_preN hK hX hH hN _) rfl hl.1 rfl (Nat.le_of_ble_eq_true rfl) d_FR_init_134 ⟨(oR_inv f29).1, (oR_inv f29).2⟩) hS (fun H locs hH hN hS => ?_)
      refine W.widen (k := cl + 3) (n := sl + 112) (by omega) (by omega) ?_
      obtain ⟨σ_30, e30, h⟩ := fr_bind h
      refine fr_qstN hx hb hK hH hN hS e30 (by decide) rfl rfl d_FR_init_137 (fun H locs hH hN hS => ?_)
      refine lv_iinc (v := (y2 + 1)) (lv' := [(2, .int (y2 + 1)), (0, .ref b0)]) hx hb d_FR_init_138 hl (k := 1) rfl rfl (by decide) rfl (fun ls hl => ?_)
      refine lv_goto (tgt := 119) hx hb d_FR_init_141 (by decide) ?_
      exact ih b0 (y2 + 1) σ_30 w29.2 (cl + 3) (sl + 112) σ1 nx1 h _ _ hH hN hS ls (lv_sub hl [1, 0] rfl)
set_option maxHeartbeats 4000000 in
set_option maxRecDepth 100000 in
theorem c_FR_init (l : Launch) (D : va_G) (T : Nat → ClassId) (A : Nat → Prop) (σ : fr_S) (h0 : Nat) (x1 : Int32) (nx : Nat) (hA0 : ∀ q, nx ≤ q → A q) (σ1 : fr_S) (nx1 : Nat) (h : m_FR_init h0 x1 σ nx = some (σ1, nx1)) : Met l y_FR_init (Cond.code y_FR_init b_FR_init 3 none :: fr_W) ({ frames := 3, cells := 125, slots := 4378, locals := 65 } : Room) (va_Pc [.ref h0, .int x1] (fr_BN D T A nx σ)) (fr_QN D T A σ1 nx1) 125 4378 A := by
  refine Met.ofW (cc := b_FR_init) (maxL := 3) (ret := none) (by decide) rfl ?_
  intro p e s m args below meth c s₁ B hml hv
  obtain ⟨rfl, hN, hH, hK, hX⟩ := hv
  have hA : ∀ q, s.heap.size ≤ q → A q := fun q hq => hA0 q (by omega)
  have hin : meth.name = "<init>" := (name_of_methodNamed B.named B.method).1
  have C0 : fr_At p s m _ meth c "FetchRules" b_FR_init 3 none := fr_at B hml
  obtain ⟨hx, hb, hr, hml, hown, hts, hlocks⟩ := id C0
  have hS : va_S A s.heap s.heap [] := va_S.rf
  have hl := lv_entry ([.ref h0, .int x1]) (n := 3) (Nat.le_of_ble_eq_true rfl)
  rw [lg_entry_eq]
  generalize (lg_sl ([.ref h0, .int x1]) ++ List.replicate (3 - (lg_sl ([.ref h0, .int x1])).length) Slot.unset).toArray = ls at hl ⊢
  have hl : lv_has ls 3 [(0, .ref h0), (1, .int x1)] := hl
  unfold m_FR_init at h
  refine lv_aload_n hx hb d_FR_init_0 rfl (lv_at hl 0 rfl) ?_
  refine W.objInit hx hb hown (hts _ k_47) (hts _ k_48) (hts _ k_49) rfl (by rw [hml]; exact hl.1) rfl d_FR_init_1 (Nat.le_of_ble_eq_true rfl) (Nat.le_of_ble_eq_true rfl) ?_
  refine W.eq (g2 := F0 m 4 ls []) rfl ?_
  refine lv_aload_n hx hb d_FR_init_4 rfl (lv_at hl 0 rfl) ?_
  refine lv_bipush (v := 8) hx hb d_FR_init_5 (by decide) ?_
  obtain ⟨σ_1, e1, h⟩ := fr_bind h
  refine fr_newZ0 e1 hx hb (hts _ k_79) hK hH hS hA hN (by decide) (by decide) (by decide) (Nat.le_of_ble_eq_true rfl) (Nat.le_of_ble_eq_true rfl) d_FR_init_7 (fun H hH hN hS => ?_)
  refine W.widen (k := 1) (n := 8) (Nat.le_of_ble_eq_true rfl) (Nat.le_of_ble_eq_true rfl) ?_
  have hN : H.size = nx + 1 := by omega
  obtain ⟨σ_2, e2, h⟩ := fr_bind h
  refine fr_putPFN (ty := (.array (.boolean))) hx hb hts in_FR ty_FR tk_FR nm_FR hown hK hH hN hS ⟨rfl, rfl⟩ e2 rfl 1 (by decide) (hts _ k_240) (fun _ h9 => h9) rfl hin rfl (by decide +kernel) (fs_0_1 _ _ _) (Nat.le_of_ble_eq_true rfl) d_FR_init_9 (fun H locs hH hN hS => ?_)
  refine lv_aload_n hx hb d_FR_init_12 rfl (lv_at hl 0 rfl) ?_
  refine lv_bipush (v := 8) hx hb d_FR_init_13 (by decide) ?_
  obtain ⟨σ_3, e3, h⟩ := fr_bind h
  refine fr_newI0 e3 hx hb (hts _ k_80) hK hH hS hA hN (by decide) (by decide) (by decide) (Nat.le_of_ble_eq_true rfl) (Nat.le_of_ble_eq_true rfl) d_FR_init_15 (fun H hH hN hS => ?_)
  refine W.widen (k := 2) (n := 16) (Nat.le_of_ble_eq_true rfl) (Nat.le_of_ble_eq_true rfl) ?_
  have hN : H.size = nx + 2 := by omega
  obtain ⟨σ_4, e4, h⟩ := fr_bind h
  refine fr_putPFN (ty := (.array (.int))) hx hb hts in_FR ty_FR tk_FR nm_FR hown hK hH hN hS ⟨rfl, rfl⟩ e4 rfl 2 (by decide) (hts _ k_241) (fun _ h9 => h9) rfl hin rfl (by decide +kernel) (fs_0_2 _ _ _) (Nat.le_of_ble_eq_true rfl) d_FR_init_17 (fun H locs hH hN hS => ?_)
  refine lv_aload_n hx hb d_FR_init_20 rfl (lv_at hl 0 rfl) ?_
  refine lv_bipush (v := 16) hx hb d_FR_init_21 (by decide) ?_
  obtain ⟨σ_5, e5, h⟩ := fr_bind h
  refine fr_newQ0 e5 hx hb hown (hts _ k_50) (hX.1 _ (by decide)) (by decide) rfl hK hH hS hA hN (by decide) (by decide) (by decide) (Nat.le_of_ble_eq_true rfl) (Nat.le_of_ble_eq_true rfl) d_FR_init_23 (fun H hH hN hS => ?_)
  refine W.widen (k := 3) (n := 32) (Nat.le_of_ble_eq_true rfl) (Nat.le_of_ble_eq_true rfl) ?_
  have hN : H.size = nx + 3 := by omega
  obtain ⟨σ_6, e6, h⟩ := fr_bind h
  refine fr_putPFN (ty := (.array (.object "FetchRules$Place"))) hx hb hts in_FR ty_FR tk_FR nm_FR hown hK hH hN hS ⟨rfl, rfl⟩ e6 rfl 3 (by decide) (hts _ k_242) (fun _ h9 => h9) rfl hin rfl (by decide +kernel) (fs_0_3 _ _ _) (Nat.le_of_ble_eq_true rfl) d_FR_init_26 (fun H locs hH hN hS => ?_)
  refine lv_aload_n hx hb d_FR_init_29 rfl (lv_at hl 0 rfl) ?_
  refine lv_iconst (v := 0) hx hb d_FR_init_30 (by decide) ?_
  obtain ⟨σ_7, e7, h⟩ := fr_bind h
  refine fr_putIN hx hb hts in_FR ty_FR tk_FR nm_FR hown hK hH hN hS e7 rfl 4 (by decide) (hts _ k_243) (fun _ h9 => h9) rfl (by decide +kernel) (fs_0_4 _ _ _) (Nat.le_of_ble_eq_true rfl) d_FR_init_31 (fun H locs hH hN hS => ?_)
  refine lv_aload_n hx hb d_FR_init_34 rfl (lv_at hl 0 rfl) ?_
  refine lv_bipush (v := 10) hx hb d_FR_init_35 (by decide) ?_
  obtain ⟨σ_8, e8, h⟩ := fr_bind h
  refine fr_newQ0 e8 hx hb hown (hts _ k_52) (hX.1 _ (by decide)) (by decide) rfl hK hH hS hA hN (by decide) (by decide) (by decide) (Nat.le_of_ble_eq_true rfl) (Nat.le_of_ble_eq_true rfl) d_FR_init_37 (fun H hH hN hS => ?_)
  refine W.widen (k := 4) (n := 42) (Nat.le_of_ble_eq_true rfl) (Nat.le_of_ble_eq_true rfl) ?_
  have hN : H.size = nx + 4 := by omega
  obtain ⟨σ_9, e9, h⟩ := fr_bind h
  refine fr_putPFN (ty := (.array (.object "FetchRules$Want"))) hx hb hts in_FR ty_FR tk_FR nm_FR hown hK hH hN hS ⟨rfl, rfl⟩ e9 rfl 5 (by decide) (hts _ k_244) (fun _ h9 => h9) rfl hin rfl (by decide +kernel) (fs_0_5 _ _ _) (Nat.le_of_ble_eq_true rfl) d_FR_init_40 (fun H locs hH hN hS => ?_)
  refine lv_aload_n hx hb d_FR_init_43 rfl (lv_at hl 0 rfl) ?_
  refine lv_iconst (v := 0) hx hb d_FR_init_44 (by decide) ?_
  obtain ⟨σ_10, e10, h⟩ := fr_bind h
  refine fr_putIN hx hb hts in_FR ty_FR tk_FR nm_FR hown hK hH hN hS e10 rfl 6 (by decide) (hts _ k_245) (fun _ h9 => h9) rfl (by decide +kernel) (fs_0_6 _ _ _) (Nat.le_of_ble_eq_true rfl) d_FR_init_45 (fun H locs hH hN hS => ?_)
  refine lv_aload_n hx hb d_FR_init_48 rfl (lv_at hl 0 rfl) ?_
  obtain ⟨σ_11, e11, h⟩ := fr_bind h
  refine fr_newO e11 hx hb hts in_Store ty_Store tk_Store hown (hts _ k_54) (hts _ k_55) (hts _ k_32) hK hH hS hA hN rfl (df_Store _ _) (Nat.le_of_ble_eq_true rfl) (Nat.le_of_ble_eq_true rfl) d_FR_init_49 (fun H hH hN hS => ?_)
  refine W.widen (k := 5) (n := 45) (Nat.le_of_ble_eq_true rfl) (Nat.le_of_ble_eq_true rfl) ?_
  have hN : H.size = nx + 5 := by omega
  refine lv_dup hx hb d_FR_init_52 rfl ?_
  obtain ⟨w12, e12, h⟩ := fr_bind h
  refine fr_callN (fr_Ic (b := (nx + 4)) (As := []) (rest := [.ref (nx + 4), .ref h0]) ⟨hx, hb, hml, hown, hts⟩ (c_Store_init l D T A σ_11 ((nx + 4)) (nx + 5) (fun q hq => hA q (by have h9 := hS.1; omega)) w12.1 w12.2 e12) k_56 mi_Store_init rfl rfl ⟨Nat.le_of_ble_eq_true rfl, Nat.le_of_ble_eq_true rfl⟩ (fr_preN hK hX hH hN _) rfl hl.1 rfl (Nat.le_of_ble_eq_true rfl) d_FR_init_53 ⟨Nat.le_of_ble_eq_true rfl, Nat.le_of_ble_eq_true rfl⟩) hS (fun H locs hH hN hS => ?_)
  refine W.widen (k := 27) (n := 1085) (Nat.le_of_ble_eq_true rfl) (Nat.le_of_ble_eq_true rfl) ?_
  obtain ⟨σ_13, e13, h⟩ := fr_bind h
  refine fr_putPFN (ty := (.object "FetchRules$Store")) hx hb hts in_FR ty_FR tk_FR nm_FR hown hK hH hN hS ⟨rfl, rfl⟩ e13 rfl 7 (by decide) (hts _ k_246) (fun _ h9 => h9) rfl hin rfl (by decide +kernel) (fs_0_7 _ _ _) (Nat.le_of_ble_eq_true rfl) d_FR_init_56 (fun H locs hH hN hS => ?_)
  refine lv_aload_n hx hb d_FR_init_59 rfl (lv_at hl 0 rfl) ?_
  obtain ⟨σ_14, e14, h⟩ := fr_bind h
  refine fr_newO e14 hx hb hts in_Tellings ty_Tellings tk_Tellings hown (hts _ k_92) (hts _ k_93) (hts _ k_34) hK hH hS hA hN rfl (df_Tellings _ _) (Nat.le_of_ble_eq_true rfl) (Nat.le_of_ble_eq_true rfl) d_FR_init_60 (fun H hH hN hS => ?_)
  refine W.widen (k := 28) (n := 1089) (Nat.le_of_ble_eq_true rfl) (Nat.le_of_ble_eq_true rfl) ?_
  have hN : H.size = w12.2 + 1 := by omega
  refine lv_dup hx hb d_FR_init_63 rfl ?_
  obtain ⟨w15, e15, h⟩ := fr_bind h
  refine fr_callN (fr_IN (b := w12.2) (As := []) (rest := [.ref w12.2, .ref h0]) ⟨hx, hb, hml, hown, hts⟩ (c_Tellings_init l D T A σ_14 w12.2 (w12.2 + 1) (fun q hq => hA q (by have h9 := hS.1; omega)) w15.1 w15.2 e15) (hX.2 ("FetchRules", 45, y_Tellings_init, "FetchRules") (List.mem_of_getElem? (i := 1) rfl)) mi_Tellings_init rfl rfl ⟨Nat.le_of_ble_eq_true rfl, Nat.le_of_ble_eq_true rfl⟩ (fr_preN hK hX hH hN _) rfl hl.1 rfl (Nat.le_of_ble_eq_true rfl) d_FR_init_64 ⟨Nat.le_of_ble_eq_true rfl, Nat.le_of_ble_eq_true rfl⟩) hS (fun H locs hH hN hS => ?_)
  refine W.widen (k := 31) (n := 1269) (Nat.le_of_ble_eq_true rfl) (Nat.le_of_ble_eq_true rfl) ?_
  obtain ⟨σ_16, e16, h⟩ := fr_bind h
  refine fr_putPFN (ty := (.object "FetchRules$Tellings")) hx hb hts in_FR ty_FR tk_FR nm_FR hown hK hH hN hS ⟨rfl, rfl⟩ e16 rfl 8 (by decide) (hts _ k_247) (fun _ h9 => h9) rfl hin rfl (by decide +kernel) (fs_0_8 _ _ _) (Nat.le_of_ble_eq_true rfl) d_FR_init_67 (fun H locs hH hN hS => ?_)
  refine lv_aload_n hx hb d_FR_init_70 rfl (lv_at hl 0 rfl) ?_
  refine lv_bipush (v := 10) hx hb d_FR_init_71 (by decide) ?_
  obtain ⟨σ_17, e17, h⟩ := fr_bind h
  refine fr_newI0 e17 hx hb (hts _ k_80) hK hH hS hA hN (by decide) (by decide) (by decide) (Nat.le_of_ble_eq_true rfl) (Nat.le_of_ble_eq_true rfl) d_FR_init_73 (fun H hH hN hS => ?_)
  refine W.widen (k := 32) (n := 1279) (Nat.le_of_ble_eq_true rfl) (Nat.le_of_ble_eq_true rfl) ?_
  have hN : H.size = w15.2 + 1 := by omega
  obtain ⟨σ_18, e18, h⟩ := fr_bind h
  refine fr_putPFN (ty := (.array (.int))) hx hb hts in_FR ty_FR tk_FR nm_FR hown hK hH hN hS ⟨rfl, rfl⟩ e18 rfl 9 (by decide) (hts _ k_248) (fun _ h9 => h9) rfl hin rfl (by decide +kernel) (fs_0_9 _ _ _) (Nat.le_of_ble_eq_true rfl) d_FR_init_75 (fun H locs hH hN hS => ?_)
  refine lv_aload_n hx hb d_FR_init_78 rfl (lv_at hl 0 rfl) ?_
  refine lv_iconst (v := 0) hx hb d_FR_init_79 (by decide) ?_
  obtain ⟨σ_19, e19, h⟩ := fr_bind h
  refine fr_putIN hx hb hts in_FR ty_FR tk_FR nm_FR hown hK hH hN hS e19 rfl 10 (by decide) (hts _ k_249) (fun _ h9 => h9) rfl (by decide +kernel) (fs_0_10 _ _ _) (Nat.le_of_ble_eq_true rfl) d_FR_init_80 (fun H locs hH hN hS => ?_)
  refine lv_aload_n hx hb d_FR_init_83 rfl (lv_at hl 0 rfl) ?_
  obtain ⟨σ_20, e20, h⟩ := fr_bind h
  refine fr_newO e20 hx hb hts in_Files ty_Files tk_Files hown (hts _ k_114) (hts _ k_115) (hts _ k_35) hK hH hS hA hN rfl (df_Files _ _) (Nat.le_of_ble_eq_true rfl) (Nat.le_of_ble_eq_true rfl) d_FR_init_84 (fun H hH hN hS => ?_)
  refine W.widen (k := 33) (n := 1284) (Nat.le_of_ble_eq_true rfl) (Nat.le_of_ble_eq_true rfl) ?_
  have hN : H.size = w15.2 + 2 := by omega
  refine lv_dup hx hb d_FR_init_87 rfl ?_
  obtain ⟨w21, e21, h⟩ := fr_bind h
  refine fr_callN (fr_IN (b := (w15.2 + 1)) (As := []) (rest := [.ref (w15.2 + 1), .ref h0]) ⟨hx, hb, hml, hown, hts⟩ (c_Files_init l D T A σ_20 ((w15.2 + 1)) (w15.2 + 2) (fun q hq => hA q (by have h9 := hS.1; omega)) w21.1 w21.2 e21) (hX.2 ("FetchRules", 58, y_Files_init, "FetchRules") (List.mem_of_getElem? (i := 2) rfl)) mi_Files_init rfl rfl ⟨Nat.le_of_ble_eq_true rfl, Nat.le_of_ble_eq_true rfl⟩ (fr_preN hK hX hH hN _) rfl hl.1 rfl (Nat.le_of_ble_eq_true rfl) d_FR_init_88 ⟨Nat.le_of_ble_eq_true rfl, Nat.le_of_ble_eq_true rfl⟩) hS (fun H locs hH hN hS => ?_)
  refine W.widen (k := 37) (n := 1416) (Nat.le_of_ble_eq_true rfl) (Nat.le_of_ble_eq_true rfl) ?_
  obtain ⟨σ_22, e22, h⟩ := fr_bind h
  refine fr_putPFN (ty := (.object "FetchRules$Files")) hx hb hts in_FR ty_FR tk_FR nm_FR hown hK hH hN hS ⟨rfl, rfl⟩ e22 rfl 11 (by decide) (hts _ k_250) (fun _ h9 => h9) rfl hin rfl (by decide +kernel) (fs_0_11 _ _ _) (Nat.le_of_ble_eq_true rfl) d_FR_init_91 (fun H locs hH hN hS => ?_)
  refine lv_aload_n hx hb d_FR_init_94 rfl (lv_at hl 0 rfl) ?_
  refine lv_iconst (v := 0) hx hb d_FR_init_95 (by decide) ?_
  obtain ⟨σ_23, e23, h⟩ := fr_bind h
  refine fr_putZN hx hb hts in_FR ty_FR tk_FR nm_FR hown hK hH hN hS e23 rfl 12 (by decide) (hts _ k_251) (fun _ h9 => h9) rfl (by decide +kernel) (fs_0_12 _ _ _) (Nat.le_of_ble_eq_true rfl) d_FR_init_96 (fun H locs hH hN hS => ?_)
  refine lv_aload_n hx hb d_FR_init_99 rfl (lv_at hl 0 rfl) ?_
  refine lv_iconst (v := 0) hx hb d_FR_init_100 (by decide) ?_
  obtain ⟨σ_24, e24, h⟩ := fr_bind h
  refine fr_putIN hx hb hts in_FR ty_FR tk_FR nm_FR hown hK hH hN hS e24 rfl 13 (by decide) (hts _ k_252) (fun _ h9 => h9) rfl (by decide +kernel) (fs_0_13 _ _ _) (Nat.le_of_ble_eq_true rfl) d_FR_init_101 (fun H locs hH hN hS => ?_)
  refine lv_aload_n hx hb d_FR_init_104 rfl (lv_at hl 0 rfl) ?_
  refine lv_iconst (v := 0) hx hb d_FR_init_105 (by decide) ?_
  refine lv_iconst (v := 5) hx hb d_FR_init_106 (by decide) ?_
  refine lv_iload_n hx hb d_FR_init_107 rfl (lv_at hl 1 rfl) ?_
  refine va_mmin hx hb (hml.trans hl.1.symm) hown (hts _ k_141) (hts _ k_142) (hts _ k_36) (hts _ k_143) (Nat.le_of_ble_eq_true rfl) (Nat.le_of_ble_eq_true rfl) (Nat.le_of_ble_eq_true rfl) (Nat.le_of_ble_eq_true rfl) d_FR_init_108 ?_
  refine va_mmax hx hb (hml.trans hl.1.symm) hown (hts _ k_144) (hts _ k_145) (hts _ k_36) (hts _ k_146) (Nat.le_of_ble_eq_true rfl) (Nat.le_of_ble_eq_true rfl) (Nat.le_of_ble_eq_true rfl) (Nat.le_of_ble_eq_true rfl) d_FR_init_111 ?_
  obtain ⟨σ_25, e25, h⟩ := fr_bind h
  refine fr_putIFN hx hb hts in_FR ty_FR tk_FR nm_FR hown hK hH hN hS e25 rfl 0 (by decide) (hts _ k_239) (fun _ h9 => h9) rfl hin rfl (by decide +kernel) (fs_0_0 _ _ _) (Nat.le_of_ble_eq_true rfl) d_FR_init_114 (fun H locs hH hN hS => ?_)
  refine lv_iconst (v := 0) hx hb d_FR_init_117 (by decide) ?_
  refine lv_istore_n (lv' := [(2, .int 0), (0, .ref h0), (1, .int x1)]) hx hb d_FR_init_118 rfl hl (by decide) rfl (fun ls hl => ?_)
  exact w_FR_init_L119 C0 hK hX hA 1000 h0 0 σ_25 w21.2 37 1416 σ1 nx1 h _ _ hH hN hS ls (lv_sub hl [1, 0] rfl)
end
