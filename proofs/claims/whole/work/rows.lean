section
-- ===== PART A: goes FIRST, ahead of the names: the tables' words, and 'selects' of the private methods out of them =====
/-- a private method of a class that the tables say can be made, by its rows of tables_1 -/
def lw_okq (q : MethodName × Nat) : Prop := (q.1.cls ≠ "java/lang/invoke/MethodHandle" ∧ q.1.cls ≠ "java/lang/invoke/VarHandle") ∧ Cond.instantiable q.1.cls q.2 ∈ tables_1 ∧ Cond.privateMethod q.1 ∈ tables_1 ∧ Cond.instanceMethod q.1 ∈ tables_1
theorem lw_p0 : lw_okq (⟨"GradingMixes", "forget", "()V"⟩, 9) := ⟨⟨by decide +kernel, by decide +kernel⟩, List.mem_of_getElem? (i := 11) (by decide +kernel), List.mem_of_getElem? (i := 288) (by decide +kernel), List.mem_of_getElem? (i := 289) (by decide +kernel)⟩
theorem lw_p1 : lw_okq (⟨"GradingMixes$BandText", "parseBand", "(II)I"⟩, 5) := ⟨⟨by decide +kernel, by decide +kernel⟩, List.mem_of_getElem? (i := 170) (by decide +kernel), List.mem_of_getElem? (i := 359) (by decide +kernel), List.mem_of_getElem? (i := 360) (by decide +kernel)⟩
theorem lw_p2 : lw_okq (⟨"GradingMixes$BandText", "parseNumber", "()I"⟩, 5) := ⟨⟨by decide +kernel, by decide +kernel⟩, List.mem_of_getElem? (i := 170) (by decide +kernel), List.mem_of_getElem? (i := 363) (by decide +kernel), List.mem_of_getElem? (i := 364) (by decide +kernel)⟩
theorem lw_p3 : lw_okq (⟨"GradingMixes$BandText", "skip", "(C)Z"⟩, 5) := ⟨⟨by decide +kernel, by decide +kernel⟩, List.mem_of_getElem? (i := 170) (by decide +kernel), List.mem_of_getElem? (i := 368) (by decide +kernel), List.mem_of_getElem? (i := 369) (by decide +kernel)⟩
theorem lw_p4 : lw_okq (⟨"GradingMixes", "searchOnce", "()V"⟩, 9) := ⟨⟨by decide +kernel, by decide +kernel⟩, List.mem_of_getElem? (i := 11) (by decide +kernel), List.mem_of_getElem? (i := 381) (by decide +kernel), List.mem_of_getElem? (i := 382) (by decide +kernel)⟩
theorem lw_p5 : lw_okq (⟨"GradingMixes$Search", "fillFrom", "(IIII)V"⟩, 11) := ⟨⟨by decide +kernel, by decide +kernel⟩, List.mem_of_getElem? (i := 96) (by decide +kernel), List.mem_of_getElem? (i := 393) (by decide +kernel), List.mem_of_getElem? (i := 394) (by decide +kernel)⟩
theorem lw_p6 : lw_okq (⟨"GradingMixes$Search", "missOfAll", "(II)I"⟩, 11) := ⟨⟨by decide +kernel, by decide +kernel⟩, List.mem_of_getElem? (i := 96) (by decide +kernel), List.mem_of_getElem? (i := 399) (by decide +kernel), List.mem_of_getElem? (i := 400) (by decide +kernel)⟩
theorem lw_p7 : lw_okq (⟨"GradingMixes$Search", "lookAt", "(II)V"⟩, 11) := ⟨⟨by decide +kernel, by decide +kernel⟩, List.mem_of_getElem? (i := 96) (by decide +kernel), List.mem_of_getElem? (i := 404) (by decide +kernel), List.mem_of_getElem? (i := 405) (by decide +kernel)⟩
theorem lw_p8 : lw_okq (⟨"GradingMixes$Search", "putShare", "(II)V"⟩, 11) := ⟨⟨by decide +kernel, by decide +kernel⟩, List.mem_of_getElem? (i := 96) (by decide +kernel), List.mem_of_getElem? (i := 412) (by decide +kernel), List.mem_of_getElem? (i := 413) (by decide +kernel)⟩
theorem lw_p9 : lw_okq (⟨"GradingMixes", "takeInHand", "(LGradingMixes$Mix;)Z"⟩, 9) := ⟨⟨by decide +kernel, by decide +kernel⟩, List.mem_of_getElem? (i := 11) (by decide +kernel), List.mem_of_getElem? (i := 416) (by decide +kernel), List.mem_of_getElem? (i := 417) (by decide +kernel)⟩
theorem lw_p10 : lw_okq (⟨"GradingMixes", "firstRule", "(II)I"⟩, 9) := ⟨⟨by decide +kernel, by decide +kernel⟩, List.mem_of_getElem? (i := 11) (by decide +kernel), List.mem_of_getElem? (i := 487) (by decide +kernel), List.mem_of_getElem? (i := 488) (by decide +kernel)⟩
theorem lw_p11 : lw_okq (⟨"GradingMixesModel", "changed", "()V"⟩, 37) := ⟨⟨by decide +kernel, by decide +kernel⟩, List.mem_of_getElem? (i := 514) (by decide +kernel), List.mem_of_getElem? (i := 639) (by decide +kernel), List.mem_of_getElem? (i := 640) (by decide +kernel)⟩
theorem lw_p12 : lw_okq (⟨"GradingMixesModel", "isSieve", "(I)Z"⟩, 37) := ⟨⟨by decide +kernel, by decide +kernel⟩, List.mem_of_getElem? (i := 514) (by decide +kernel), List.mem_of_getElem? (i := 647) (by decide +kernel), List.mem_of_getElem? (i := 648) (by decide +kernel)⟩
theorem lw_p13 : lw_okq (⟨"GradingMixesModel", "isStock", "(I)Z"⟩, 37) := ⟨⟨by decide +kernel, by decide +kernel⟩, List.mem_of_getElem? (i := 514) (by decide +kernel), List.mem_of_getElem? (i := 663) (by decide +kernel), List.mem_of_getElem? (i := 664) (by decide +kernel)⟩
theorem lw_p14 : lw_okq (⟨"GradingMixesModel", "readBands", "()I"⟩, 37) := ⟨⟨by decide +kernel, by decide +kernel⟩, List.mem_of_getElem? (i := 514) (by decide +kernel), List.mem_of_getElem? (i := 683) (by decide +kernel), List.mem_of_getElem? (i := 684) (by decide +kernel)⟩
theorem lw_p15 : lw_okq (⟨"GradingMixesModel", "number", "()I"⟩, 37) := ⟨⟨by decide +kernel, by decide +kernel⟩, List.mem_of_getElem? (i := 514) (by decide +kernel), List.mem_of_getElem? (i := 687) (by decide +kernel), List.mem_of_getElem? (i := 688) (by decide +kernel)⟩
def lw_privs_1 : List (MethodName × Nat) := [(⟨"GradingMixes", "forget", "()V"⟩, 9), (⟨"GradingMixes$BandText", "parseBand", "(II)I"⟩, 5), (⟨"GradingMixes$BandText", "parseNumber", "()I"⟩, 5), (⟨"GradingMixes$BandText", "skip", "(C)Z"⟩, 5), (⟨"GradingMixes", "searchOnce", "()V"⟩, 9), (⟨"GradingMixes$Search", "fillFrom", "(IIII)V"⟩, 11), (⟨"GradingMixes$Search", "missOfAll", "(II)I"⟩, 11), (⟨"GradingMixes$Search", "lookAt", "(II)V"⟩, 11), (⟨"GradingMixes$Search", "putShare", "(II)V"⟩, 11), (⟨"GradingMixes", "takeInHand", "(LGradingMixes$Mix;)Z"⟩, 9), (⟨"GradingMixes", "firstRule", "(II)I"⟩, 9), (⟨"GradingMixesModel", "changed", "()V"⟩, 37), (⟨"GradingMixesModel", "isSieve", "(I)Z"⟩, 37), (⟨"GradingMixesModel", "isStock", "(I)Z"⟩, 37), (⟨"GradingMixesModel", "readBands", "()I"⟩, 37), (⟨"GradingMixesModel", "number", "()I"⟩, 37)]
theorem lw_r1 : ∀ q ∈ lw_privs_1, lw_okq q := List.forall_mem_cons.mpr ⟨lw_p0, List.forall_mem_cons.mpr ⟨lw_p1, List.forall_mem_cons.mpr ⟨lw_p2, List.forall_mem_cons.mpr ⟨lw_p3, List.forall_mem_cons.mpr ⟨lw_p4, List.forall_mem_cons.mpr ⟨lw_p5, List.forall_mem_cons.mpr ⟨lw_p6, List.forall_mem_cons.mpr ⟨lw_p7, List.forall_mem_cons.mpr ⟨lw_p8, List.forall_mem_cons.mpr ⟨lw_p9, List.forall_mem_cons.mpr ⟨lw_p10, List.forall_mem_cons.mpr ⟨lw_p11, List.forall_mem_cons.mpr ⟨lw_p12, List.forall_mem_cons.mpr ⟨lw_p13, List.forall_mem_cons.mpr ⟨lw_p14, List.forall_mem_cons.mpr ⟨lw_p15, fun _ h => absurd h List.not_mem_nil⟩⟩⟩⟩⟩⟩⟩⟩⟩⟩⟩⟩⟩⟩⟩⟩
theorem lw_p16 : lw_okq (⟨"GradingMixesModel", "isDigit", "()Z"⟩, 37) := ⟨⟨by decide +kernel, by decide +kernel⟩, List.mem_of_getElem? (i := 514) (by decide +kernel), List.mem_of_getElem? (i := 691) (by decide +kernel), List.mem_of_getElem? (i := 692) (by decide +kernel)⟩
theorem lw_p17 : lw_okq (⟨"GradingMixesModel", "takes", "(I)Z"⟩, 37) := ⟨⟨by decide +kernel, by decide +kernel⟩, List.mem_of_getElem? (i := 514) (by decide +kernel), List.mem_of_getElem? (i := 695) (by decide +kernel), List.mem_of_getElem? (i := 696) (by decide +kernel)⟩
theorem lw_p18 : lw_okq (⟨"GradingMixesModel", "goThrough", "(ZIII)V"⟩, 37) := ⟨⟨by decide +kernel, by decide +kernel⟩, List.mem_of_getElem? (i := 514) (by decide +kernel), List.mem_of_getElem? (i := 703) (by decide +kernel), List.mem_of_getElem? (i := 704) (by decide +kernel)⟩
theorem lw_p19 : lw_okq (⟨"GradingMixesModel", "isMix", "()Z"⟩, 37) := ⟨⟨by decide +kernel, by decide +kernel⟩, List.mem_of_getElem? (i := 514) (by decide +kernel), List.mem_of_getElem? (i := 707) (by decide +kernel), List.mem_of_getElem? (i := 708) (by decide +kernel)⟩
theorem lw_p20 : lw_okq (⟨"GradingMixesModel", "look", "(ZIII)V"⟩, 37) := ⟨⟨by decide +kernel, by decide +kernel⟩, List.mem_of_getElem? (i := 514) (by decide +kernel), List.mem_of_getElem? (i := 711) (by decide +kernel), List.mem_of_getElem? (i := 712) (by decide +kernel)⟩
theorem lw_p21 : lw_okq (⟨"GradingMixesModel", "missOf", "([IIII)I"⟩, 37) := ⟨⟨by decide +kernel, by decide +kernel⟩, List.mem_of_getElem? (i := 514) (by decide +kernel), List.mem_of_getElem? (i := 715) (by decide +kernel), List.mem_of_getElem? (i := 716) (by decide +kernel)⟩
theorem lw_p22 : lw_okq (⟨"GradingMixesModel", "endOf", "([III)I"⟩, 37) := ⟨⟨by decide +kernel, by decide +kernel⟩, List.mem_of_getElem? (i := 514) (by decide +kernel), List.mem_of_getElem? (i := 719) (by decide +kernel), List.mem_of_getElem? (i := 720) (by decide +kernel)⟩
theorem lw_p23 : lw_okq (⟨"GradingMixesModel", "lowerPart", "(II)I"⟩, 37) := ⟨⟨by decide +kernel, by decide +kernel⟩, List.mem_of_getElem? (i := 514) (by decide +kernel), List.mem_of_getElem? (i := 723) (by decide +kernel), List.mem_of_getElem? (i := 724) (by decide +kernel)⟩
theorem lw_p24 : lw_okq (⟨"GradingMixesModel", "upperPart", "(II)I"⟩, 37) := ⟨⟨by decide +kernel, by decide +kernel⟩, List.mem_of_getElem? (i := 514) (by decide +kernel), List.mem_of_getElem? (i := 727) (by decide +kernel), List.mem_of_getElem? (i := 728) (by decide +kernel)⟩
theorem lw_p25 : lw_okq (⟨"GradingMixesModel", "costOf", "([I)I"⟩, 37) := ⟨⟨by decide +kernel, by decide +kernel⟩, List.mem_of_getElem? (i := 514) (by decide +kernel), List.mem_of_getElem? (i := 731) (by decide +kernel), List.mem_of_getElem? (i := 732) (by decide +kernel)⟩
theorem lw_p26 : lw_okq (⟨"GradingMixesModel", "take", "()V"⟩, 37) := ⟨⟨by decide +kernel, by decide +kernel⟩, List.mem_of_getElem? (i := 514) (by decide +kernel), List.mem_of_getElem? (i := 735) (by decide +kernel), List.mem_of_getElem? (i := 736) (by decide +kernel)⟩
theorem lw_p27 : lw_okq (⟨"GradingMixesModel", "driftsOff", "(I)Z"⟩, 37) := ⟨⟨by decide +kernel, by decide +kernel⟩, List.mem_of_getElem? (i := 514) (by decide +kernel), List.mem_of_getElem? (i := 786) (by decide +kernel), List.mem_of_getElem? (i := 787) (by decide +kernel)⟩
def lw_privs_2 : List (MethodName × Nat) := [(⟨"GradingMixesModel", "isDigit", "()Z"⟩, 37), (⟨"GradingMixesModel", "takes", "(I)Z"⟩, 37), (⟨"GradingMixesModel", "goThrough", "(ZIII)V"⟩, 37), (⟨"GradingMixesModel", "isMix", "()Z"⟩, 37), (⟨"GradingMixesModel", "look", "(ZIII)V"⟩, 37), (⟨"GradingMixesModel", "missOf", "([IIII)I"⟩, 37), (⟨"GradingMixesModel", "endOf", "([III)I"⟩, 37), (⟨"GradingMixesModel", "lowerPart", "(II)I"⟩, 37), (⟨"GradingMixesModel", "upperPart", "(II)I"⟩, 37), (⟨"GradingMixesModel", "costOf", "([I)I"⟩, 37), (⟨"GradingMixesModel", "take", "()V"⟩, 37), (⟨"GradingMixesModel", "driftsOff", "(I)Z"⟩, 37)]
theorem lw_r2 : ∀ q ∈ lw_privs_2, lw_okq q := List.forall_mem_cons.mpr ⟨lw_p16, List.forall_mem_cons.mpr ⟨lw_p17, List.forall_mem_cons.mpr ⟨lw_p18, List.forall_mem_cons.mpr ⟨lw_p19, List.forall_mem_cons.mpr ⟨lw_p20, List.forall_mem_cons.mpr ⟨lw_p21, List.forall_mem_cons.mpr ⟨lw_p22, List.forall_mem_cons.mpr ⟨lw_p23, List.forall_mem_cons.mpr ⟨lw_p24, List.forall_mem_cons.mpr ⟨lw_p25, List.forall_mem_cons.mpr ⟨lw_p26, List.forall_mem_cons.mpr ⟨lw_p27, fun _ h => absurd h List.not_mem_nil⟩⟩⟩⟩⟩⟩⟩⟩⟩⟩⟩⟩
def lw_privs : List (MethodName × Nat) := lw_privs_1 ++ (lw_privs_2)
def lw_tbl : List Cond := k2_sels lw_privs ++ tables_1
theorem lw_privs_ok : ∀ q ∈ lw_privs, lw_okq q := by
  show ∀ q ∈ lw_privs_1 ++ (lw_privs_2), lw_okq q
  exact List.forall_mem_append.mpr ⟨lw_r1, lw_r2⟩
end
section
def R_G : String := "GradingMixes"
def T_G : u_T := fun k => match k with
  | 0 => ("GradingMixes", "plant", "LGradingMixes$Plant;", true)
  | 1 => ("GradingMixes", "search", "LGradingMixes$Search;", true)
  | 2 => ("GradingMixes", "widerSearch", "LGradingMixes$Search;", true)
  | 3 => ("GradingMixes", "text", "LGradingMixes$BandText;", true)
  | 4 => ("GradingMixes", "hand", "LGradingMixes$Mix;", true)
  | 5 => ("GradingMixes", "lastBatch", "LGradingMixes$Batch;", true)
  | 6 => ("GradingMixes", "log", "LGradingMixes$TestLog;", true)
  | 7 => ("GradingMixes", "searched", "Z", false)
  | _ => ("GradingMixes", "limit", "I", false)
def ty_G : Nat → FieldType := fun k => match k with
  | 0 => .object "GradingMixes$Plant"
  | 1 => .object "GradingMixes$Search"
  | 2 => .object "GradingMixes$Search"
  | 3 => .object "GradingMixes$BandText"
  | 4 => .object "GradingMixes$Mix"
  | 5 => .object "GradingMixes$Batch"
  | 6 => .object "GradingMixes$TestLog"
  | 7 => .boolean
  | _ => .int
theorem nm_G_ok : ∀ a, a < 9 → ∀ b, b < 9 → a ≠ b → (T_G a).2.1 ≠ (T_G b).2.1 := by decide +kernel
theorem ty_G_ok : ∀ k, k < 9 → parseFieldDescriptor (T_G k).2.2.1 = some (ty_G k) := by decide +kernel
def R_P : String := "GradingMixes$Plant"
def T_P : u_T := fun k => match k with
  | 0 => ("GradingMixes$Plant", "sieves", "I", false)
  | 1 => ("GradingMixes$Plant", "stocks", "I", false)
  | 2 => ("GradingMixes$Plant", "cap", "I", false)
  | 3 => ("GradingMixes$Plant", "step", "I", false)
  | 4 => ("GradingMixes$Plant", "low", "[I", true)
  | 5 => ("GradingMixes$Plant", "high", "[I", true)
  | 6 => ("GradingMixes$Plant", "price", "[I", true)
  | 7 => ("GradingMixes$Plant", "least", "[I", true)
  | 8 => ("GradingMixes$Plant", "most", "[I", true)
  | 9 => ("GradingMixes$Plant", "old", "[Z", true)
  | 10 => ("GradingMixes$Plant", "water", "[I", true)
  | 11 => ("GradingMixes$Plant", "middle", "[[I", true)
  | 12 => ("GradingMixes$Plant", "lower", "[[I", true)
  | _ => ("GradingMixes$Plant", "upper", "[[I", true)
def ty_P : Nat → FieldType := fun k => match k with
  | 0 => .int
  | 1 => .int
  | 2 => .int
  | 3 => .int
  | 4 => .array .int
  | 5 => .array .int
  | 6 => .array .int
  | 7 => .array .int
  | 8 => .array .int
  | 9 => .array .boolean
  | 10 => .array .int
  | 11 => .array (.array .int)
  | 12 => .array (.array .int)
  | _ => .array (.array .int)
theorem nm_P_ok : ∀ a, a < 14 → ∀ b, b < 14 → a ≠ b → (T_P a).2.1 ≠ (T_P b).2.1 := by decide +kernel
theorem ty_P_ok : ∀ k, k < 14 → parseFieldDescriptor (T_P k).2.2.1 = some (ty_P k) := by decide +kernel
def R_S : String := "GradingMixes$Search"
def T_S : u_T := fun k => match k with
  | 0 => ("GradingMixes$Search", "plant", "LGradingMixes$Plant;", true)
  | 1 => ("GradingMixes$Search", "need", "[I", true)
  | 2 => ("GradingMixes$Search", "allow", "[I", true)
  | 3 => ("GradingMixes$Search", "shares", "[I", true)
  | 4 => ("GradingMixes$Search", "lowerBefore", "[[I", true)
  | 5 => ("GradingMixes$Search", "upperBefore", "[[I", true)
  | 6 => ("GradingMixes$Search", "kept", "[Z", true)
  | 7 => ("GradingMixes$Search", "best", "LGradingMixes$Mix;", true)
  | 8 => ("GradingMixes$Search", "nearest", "LGradingMixes$Mix;", true)
  | 9 => ("GradingMixes$Search", "mixes", "I", false)
  | _ => ("GradingMixes$Search", "keeping", "I", false)
def ty_S : Nat → FieldType := fun k => match k with
  | 0 => .object "GradingMixes$Plant"
  | 1 => .array .int
  | 2 => .array .int
  | 3 => .array .int
  | 4 => .array (.array .int)
  | 5 => .array (.array .int)
  | 6 => .array .boolean
  | 7 => .object "GradingMixes$Mix"
  | 8 => .object "GradingMixes$Mix"
  | 9 => .int
  | _ => .int
theorem nm_S_ok : ∀ a, a < 11 → ∀ b, b < 11 → a ≠ b → (T_S a).2.1 ≠ (T_S b).2.1 := by decide +kernel
theorem ty_S_ok : ∀ k, k < 11 → parseFieldDescriptor (T_S k).2.2.1 = some (ty_S k) := by decide +kernel
def R_T : String := "GradingMixes$BandText"
def T_T : u_T := fun k => match k with
  | 0 => ("GradingMixes$BandText", "lows", "[I", true)
  | 1 => ("GradingMixes$BandText", "highs", "[I", true)
  | 2 => ("GradingMixes$BandText", "signs", "[I", true)
  | 3 => ("GradingMixes$BandText", "size", "I", false)
  | _ => ("GradingMixes$BandText", "at", "I", false)
def ty_T : Nat → FieldType := fun k => match k with
  | 0 => .array .int
  | 1 => .array .int
  | 2 => .array .int
  | 3 => .int
  | _ => .int
theorem nm_T_ok : ∀ a, a < 5 → ∀ b, b < 5 → a ≠ b → (T_T a).2.1 ≠ (T_T b).2.1 := by decide +kernel
theorem ty_T_ok : ∀ k, k < 5 → parseFieldDescriptor (T_T k).2.2.1 = some (ty_T k) := by decide +kernel
def R_X : String := "GradingMixes$Mix"
def T_X : u_T := fun k => match k with
  | 0 => ("GradingMixes$Mix", "there", "Z", false)
  | 1 => ("GradingMixes$Mix", "shares", "[I", true)
  | 2 => ("GradingMixes$Mix", "price", "I", false)
  | _ => ("GradingMixes$Mix", "missed", "I", false)
def ty_X : Nat → FieldType := fun k => match k with
  | 0 => .boolean
  | 1 => .array .int
  | 2 => .int
  | _ => .int
theorem nm_X_ok : ∀ a, a < 4 → ∀ b, b < 4 → a ≠ b → (T_X a).2.1 ≠ (T_X b).2.1 := by decide +kernel
theorem ty_X_ok : ∀ k, k < 4 → parseFieldDescriptor (T_X k).2.2.1 = some (ty_X k) := by decide +kernel
def R_B : String := "GradingMixes$Batch"
def T_B : u_T := fun k => match k with
  | 0 => ("GradingMixes$Batch", "there", "Z", false)
  | 1 => ("GradingMixes$Batch", "dry", "[I", true)
  | _ => ("GradingMixes$Batch", "wet", "[I", true)
def ty_B : Nat → FieldType := fun k => match k with
  | 0 => .boolean
  | 1 => .array .int
  | _ => .array .int
theorem nm_B_ok : ∀ a, a < 3 → ∀ b, b < 3 → a ≠ b → (T_B a).2.1 ≠ (T_B b).2.1 := by decide +kernel
theorem ty_B_ok : ∀ k, k < 3 → parseFieldDescriptor (T_B k).2.2.1 = some (ty_B k) := by decide +kernel
def R_L : String := "GradingMixes$TestLog"
def T_L : u_T := fun k => match k with
  | 0 => ("GradingMixes$TestLog", "total", "I", false)
  | 1 => ("GradingMixes$TestLog", "sizes", "[I", true)
  | 2 => ("GradingMixes$TestLog", "values", "[[I", true)
  | 3 => ("GradingMixes$TestLog", "firedTotal", "I", false)
  | 4 => ("GradingMixes$TestLog", "firedSieve", "[I", true)
  | 5 => ("GradingMixes$TestLog", "firedNumber", "[I", true)
  | _ => ("GradingMixes$TestLog", "firedRule", "[I", true)
def ty_L : Nat → FieldType := fun k => match k with
  | 0 => .int
  | 1 => .array .int
  | 2 => .array (.array .int)
  | 3 => .int
  | 4 => .array .int
  | 5 => .array .int
  | _ => .array .int
theorem nm_L_ok : ∀ a, a < 7 → ∀ b, b < 7 → a ≠ b → (T_L a).2.1 ≠ (T_L b).2.1 := by decide +kernel
theorem ty_L_ok : ∀ k, k < 7 → parseFieldDescriptor (T_L k).2.2.1 = some (ty_L k) := by decide +kernel
def R_M : String := "GradingMixesModel"
def T_M : u_T := fun k => match k with
  | 0 => ("GradingMixesModel", "sieves", "I", false)
  | 1 => ("GradingMixesModel", "lows", "[I", true)
  | 2 => ("GradingMixesModel", "highs", "[I", true)
  | 3 => ("GradingMixesModel", "stocks", "I", false)
  | 4 => ("GradingMixesModel", "prices", "[I", true)
  | 5 => ("GradingMixesModel", "leasts", "[I", true)
  | 6 => ("GradingMixesModel", "mosts", "[I", true)
  | 7 => ("GradingMixesModel", "olds", "[Z", true)
  | 8 => ("GradingMixesModel", "waters", "[I", true)
  | 9 => ("GradingMixesModel", "passing", "[I", true)
  | 10 => ("GradingMixesModel", "offs", "[I", true)
  | 11 => ("GradingMixesModel", "cap", "I", false)
  | 12 => ("GradingMixesModel", "step", "I", false)
  | 13 => ("GradingMixesModel", "size", "I", false)
  | 14 => ("GradingMixesModel", "text", "[I", true)
  | 15 => ("GradingMixesModel", "at", "I", false)
  | 16 => ("GradingMixesModel", "readLows", "[I", true)
  | 17 => ("GradingMixesModel", "readHighs", "[I", true)
  | 18 => ("GradingMixesModel", "has", "Z", false)
  | 19 => ("GradingMixesModel", "shares", "[I", true)
  | 20 => ("GradingMixesModel", "now", "[I", true)
  | 21 => ("GradingMixesModel", "best", "[I", true)
  | 22 => ("GradingMixesModel", "found", "Z", false)
  | 23 => ("GradingMixesModel", "bestMiss", "I", false)
  | 24 => ("GradingMixesModel", "bestCost", "I", false)
  | 25 => ("GradingMixesModel", "mixes", "I", false)
  | 26 => ("GradingMixesModel", "keeping", "I", false)
  | 27 => ("GradingMixesModel", "kept", "[Z", true)
  | 28 => ("GradingMixesModel", "batched", "Z", false)
  | 29 => ("GradingMixesModel", "dry", "[I", true)
  | 30 => ("GradingMixesModel", "wetKilos", "[I", true)
  | 31 => ("GradingMixesModel", "limit", "I", false)
  | 32 => ("GradingMixesModel", "tests", "I", false)
  | 33 => ("GradingMixesModel", "testSieve", "[I", true)
  | 34 => ("GradingMixesModel", "testValue", "[I", true)
  | 35 => ("GradingMixesModel", "testNumber", "[I", true)
  | _ => ("GradingMixesModel", "testRule", "[I", true)
def ty_M : Nat → FieldType := fun k => match k with
  | 0 => .int
  | 1 => .array .int
  | 2 => .array .int
  | 3 => .int
  | 4 => .array .int
  | 5 => .array .int
  | 6 => .array .int
  | 7 => .array .boolean
  | 8 => .array .int
  | 9 => .array .int
  | 10 => .array .int
  | 11 => .int
  | 12 => .int
  | 13 => .int
  | 14 => .array .int
  | 15 => .int
  | 16 => .array .int
  | 17 => .array .int
  | 18 => .boolean
  | 19 => .array .int
  | 20 => .array .int
  | 21 => .array .int
  | 22 => .boolean
  | 23 => .int
  | 24 => .int
  | 25 => .int
  | 26 => .int
  | 27 => .array .boolean
  | 28 => .boolean
  | 29 => .array .int
  | 30 => .array .int
  | 31 => .int
  | 32 => .int
  | 33 => .array .int
  | 34 => .array .int
  | 35 => .array .int
  | _ => .array .int
theorem nm_M_ok : ∀ a, a < 37 → ∀ b, b < 37 → a ≠ b → (T_M a).2.1 ≠ (T_M b).2.1 := by decide +kernel
theorem ty_M_ok : ∀ k, k < 37 → parseFieldDescriptor (T_M k).2.2.1 = some (ty_M k) := by decide +kernel
def R_W : String := "GradingMixesLaw"
abbrev vCl : List vw_C := [(R_G, T_G, 9), (R_P, T_P, 14), (R_S, T_S, 11), (R_T, T_T, 5), (R_X, T_X, 4), (R_B, T_B, 3), (R_L, T_L, 7), (R_M, T_M, 37)]
/-- the words that every contract has -/
def wA : List Cond := lw_tbl.filter goodWord
theorem wA_in {w : Cond} (h : w ∈ wA) : w ∈ lw_tbl := (List.mem_filter.mp h).1
theorem wA_ok {w : Cond} (h : w ∈ wA) : (w.onTables && w.keeps) = true ∨ ∃ ty, w = .arrayClass ty := good_of_word (List.mem_filter.mp h).2
theorem inAp {w : Cond} (i : Nat) (h : (k2_sels lw_privs)[i]? = some w) (g : goodWord w = true) : w ∈ wA := List.mem_filter.mpr ⟨List.mem_append_left _ (List.mem_of_getElem? h), g⟩
theorem inA1 {w : Cond} (i : Nat) (h : tables_1_1[i]? = some w) (g : goodWord w = true) : w ∈ wA := List.mem_filter.mpr ⟨List.mem_append_right _ (List.mem_append_left _ (List.mem_of_getElem? h)), g⟩
theorem inA2 {w : Cond} (i : Nat) (h : tables_1_2[i]? = some w) (g : goodWord w = true) : w ∈ wA := List.mem_filter.mpr ⟨List.mem_append_right _ (List.mem_append_right _ (List.mem_append_left _ (List.mem_of_getElem? h))), g⟩
theorem inA3 {w : Cond} (i : Nat) (h : tables_1_3[i]? = some w) (g : goodWord w = true) : w ∈ wA := List.mem_filter.mpr ⟨List.mem_append_right _ (List.mem_append_right _ (List.mem_append_right _ (List.mem_append_left _ (List.mem_of_getElem? h)))), g⟩
theorem inA4 {w : Cond} (i : Nat) (h : tables_1_4[i]? = some w) (g : goodWord w = true) : w ∈ wA := List.mem_filter.mpr ⟨List.mem_append_right _ (List.mem_append_right _ (List.mem_append_right _ (List.mem_append_right _ (List.mem_of_getElem? h)))), g⟩
theorem in_G : ∀ w ∈ u_ws R_G T_G 9, w ∈ wA := by
  intro w hw
  refine List.mem_filter.mpr ⟨List.mem_append_right _ ?_, ?_⟩
  · revert w hw
    decide +kernel
  · revert w hw
    decide +kernel
theorem in_P : ∀ w ∈ u_ws R_P T_P 14, w ∈ wA := by
  intro w hw
  refine List.mem_filter.mpr ⟨List.mem_append_right _ ?_, ?_⟩
  · revert w hw
    decide +kernel
  · revert w hw
    decide +kernel
theorem in_S : ∀ w ∈ u_ws R_S T_S 11, w ∈ wA := by
  intro w hw
  refine List.mem_filter.mpr ⟨List.mem_append_right _ ?_, ?_⟩
  · revert w hw
    decide +kernel
  · revert w hw
    decide +kernel
theorem in_T : ∀ w ∈ u_ws R_T T_T 5, w ∈ wA := by
  intro w hw
  refine List.mem_filter.mpr ⟨List.mem_append_right _ ?_, ?_⟩
  · revert w hw
    decide +kernel
  · revert w hw
    decide +kernel
theorem in_X : ∀ w ∈ u_ws R_X T_X 4, w ∈ wA := by
  intro w hw
  refine List.mem_filter.mpr ⟨List.mem_append_right _ ?_, ?_⟩
  · revert w hw
    decide +kernel
  · revert w hw
    decide +kernel
theorem in_B : ∀ w ∈ u_ws R_B T_B 3, w ∈ wA := by
  intro w hw
  refine List.mem_filter.mpr ⟨List.mem_append_right _ ?_, ?_⟩
  · revert w hw
    decide +kernel
  · revert w hw
    decide +kernel
theorem in_L : ∀ w ∈ u_ws R_L T_L 7, w ∈ wA := by
  intro w hw
  refine List.mem_filter.mpr ⟨List.mem_append_right _ ?_, ?_⟩
  · revert w hw
    decide +kernel
  · revert w hw
    decide +kernel
theorem in_M : ∀ w ∈ u_ws R_M T_M 37, w ∈ wA := by
  intro w hw
  refine List.mem_filter.mpr ⟨List.mem_append_right _ ?_, ?_⟩
  · revert w hw
    decide +kernel
  · revert w hw
    decide +kernel
theorem gN {y : MethodName} {b : ByteArray} {mL : Nat} {ret : Option FieldType} (h : Cond.code y b mL ret ∈ wA) : GoodIn wA (Cond.code y b mL ret :: wA) := fun w hw => by
  have hm : w ∈ wA := (List.mem_cons.mp hw).elim (fun e => e ▸ h) id
  exact ⟨hm, wA_ok hm⟩
theorem gV {own C : String} {idx : Nat} {y : MethodName} {b : ByteArray} {mL : Nat} {ret : Option FieldType} (h1 : Cond.methodLink own idx y ∈ wA) (h2 : Cond.instanceMethod y ∈ wA) (h3 : Cond.selects C y y ∈ wA) (h4 : Cond.initialized C ∈ wA) (h : Cond.code y b mL ret ∈ wA) : GoodIn wA (wsV own idx C y (Cond.code y b mL ret :: wA)) := by
  intro w hw
  have hm : w ∈ wA := by
    unfold wsV at hw
    rcases List.mem_append.mp hw with q | q
    · rcases List.mem_cons.mp q with rfl | q
      · exact h1
      · rcases List.mem_cons.mp q with rfl | q
        · exact h2
        · rcases List.mem_cons.mp q with rfl | q
          · exact h3
          · rcases List.mem_cons.mp q with rfl | q
            · exact h4
            · exact absurd q List.not_mem_nil
    · exact (gN h w q).1
  exact ⟨hm, wA_ok hm⟩
theorem gS9 {own : String} {idx : Nat} {y : MethodName} {b : ByteArray} {mL : Nat} {ret : Option FieldType} (h1 : Cond.methodLink own idx y ∈ wA) (h2 : Cond.static y ∈ wA) (h4 : Cond.initialized own ∈ wA) (h : Cond.code y b mL ret ∈ wA) : GoodIn wA (wsS own idx y (Cond.code y b mL ret :: wA)) := by
  intro w hw
  have hm : w ∈ wA := by
    unfold wsS at hw
    rcases List.mem_append.mp hw with q | q
    · rcases List.mem_cons.mp q with rfl | q
      · exact h1
      · rcases List.mem_cons.mp q with rfl | q
        · exact h2
        · rcases List.mem_cons.mp q with rfl | q
          · exact h4
          · exact absurd q List.not_mem_nil
    · exact (gN h w q).1
  exact ⟨hm, wA_ok hm⟩
abbrev bG_init : ByteArray := prog_1_method_1_code
abbrev yG_init : MethodName := ⟨"GradingMixes", "<init>", "()V"⟩
abbrev wG_init : List Cond := Cond.code yG_init bG_init 1 none :: wA
theorem kc_G_init : Cond.code yG_init bG_init 1 none ∈ wA := inA1 14 rfl rfl
abbrev bG_sieve : ByteArray := prog_1_method_2_code
abbrev yG_sieve : MethodName := ⟨"GradingMixes", "sieve", "(II)I"⟩
abbrev wG_sieve : List Cond := Cond.code yG_sieve bG_sieve 4 (some .int) :: wA
theorem kc_G_sieve : Cond.code yG_sieve bG_sieve 4 (some .int) ∈ wA := inA2 39 rfl rfl
abbrev bG_band : ByteArray := prog_1_method_3_code
abbrev yG_band : MethodName := ⟨"GradingMixes", "band", "(III)Z"⟩
abbrev wG_band : List Cond := Cond.code yG_band bG_band 4 (some .boolean) :: wA
theorem kc_G_band : Cond.code yG_band bG_band 4 (some .boolean) ∈ wA := inA2 58 rfl rfl
abbrev bG_stock : ByteArray := prog_1_method_4_code
abbrev yG_stock : MethodName := ⟨"GradingMixes", "stock", "(IIIZ)I"⟩
abbrev wG_stock : List Cond := Cond.code yG_stock bG_stock 7 (some .int) :: wA
theorem kc_G_stock : Cond.code yG_stock bG_stock 7 (some .int) ∈ wA := inA2 66 rfl rfl
abbrev bG_passes : ByteArray := prog_1_method_5_code
abbrev yG_passes : MethodName := ⟨"GradingMixes", "passes", "(IIII)Z"⟩
abbrev wG_passes : List Cond := Cond.code yG_passes bG_passes 5 (some .boolean) :: wA
theorem kc_G_passes : Cond.code yG_passes bG_passes 5 (some .boolean) ∈ wA := inA2 78 rfl rfl
abbrev bG_cap : ByteArray := prog_1_method_6_code
abbrev yG_cap : MethodName := ⟨"GradingMixes", "cap", "(I)I"⟩
abbrev wG_cap : List Cond := Cond.code yG_cap bG_cap 3 (some .int) :: wA
theorem kc_G_cap : Cond.code yG_cap bG_cap 3 (some .int) ∈ wA := inA2 96 rfl rfl
abbrev bG_step : ByteArray := prog_1_method_7_code
abbrev yG_step : MethodName := ⟨"GradingMixes", "step", "(I)I"⟩
abbrev wG_step : List Cond := Cond.code yG_step bG_step 3 (some .int) :: wA
theorem kc_G_step : Cond.code yG_step bG_step 3 (some .int) ∈ wA := inA2 100 rfl rfl
abbrev bG_unit : ByteArray := prog_1_method_8_code
abbrev yG_unit : MethodName := ⟨"GradingMixes", "unit", "(I)Z"⟩
abbrev wG_unit : List Cond := Cond.code yG_unit bG_unit 2 (some .boolean) :: wA
theorem kc_G_unit : Cond.code yG_unit bG_unit 2 (some .boolean) ∈ wA := inA2 104 rfl rfl
abbrev bG_read : ByteArray := prog_1_method_9_code
abbrev yG_read : MethodName := ⟨"GradingMixes", "read", "()I"⟩
abbrev wG_read : List Cond := Cond.code yG_read bG_read 3 (some .int) :: wA
theorem kc_G_read : Cond.code yG_read bG_read 3 (some .int) ∈ wA := inA2 113 rfl rfl
abbrev bG_run : ByteArray := prog_1_method_10_code
abbrev yG_run : MethodName := ⟨"GradingMixes", "run", "()I"⟩
abbrev wG_run : List Cond := Cond.code yG_run bG_run 1 (some .int) :: wA
theorem kc_G_run : Cond.code yG_run bG_run 1 (some .int) ∈ wA := inA2 139 rfl rfl
abbrev bG_near : ByteArray := prog_1_method_11_code
abbrev yG_near : MethodName := ⟨"GradingMixes", "near", "()I"⟩
abbrev wG_near : List Cond := Cond.code yG_near bG_near 1 (some .int) :: wA
theorem kc_G_near : Cond.code yG_near bG_near 1 (some .int) ∈ wA := inA2 183 rfl rfl
abbrev bG_share : ByteArray := prog_1_method_12_code
abbrev yG_share : MethodName := ⟨"GradingMixes", "share", "(I)I"⟩
abbrev wG_share : List Cond := Cond.code yG_share bG_share 2 (some .int) :: wA
theorem kc_G_share : Cond.code yG_share bG_share 2 (some .int) ∈ wA := inA2 187 rfl rfl
abbrev bG_told : ByteArray := prog_1_method_13_code
abbrev yG_told : MethodName := ⟨"GradingMixes", "told", "(II)I"⟩
abbrev wG_told : List Cond := Cond.code yG_told bG_told 3 (some .int) :: wA
theorem kc_G_told : Cond.code yG_told bG_told 3 (some .int) ∈ wA := inA2 191 rfl rfl
abbrev bG_cost : ByteArray := prog_1_method_14_code
abbrev yG_cost : MethodName := ⟨"GradingMixes", "cost", "()I"⟩
abbrev wG_cost : List Cond := Cond.code yG_cost bG_cost 1 (some .int) :: wA
theorem kc_G_cost : Cond.code yG_cost bG_cost 1 (some .int) ∈ wA := inA2 204 rfl rfl
abbrev bG_lonely : ByteArray := prog_1_method_15_code
abbrev yG_lonely : MethodName := ⟨"GradingMixes", "lonely", "(I)I"⟩
abbrev wG_lonely : List Cond := Cond.code yG_lonely bG_lonely 4 (some .int) :: wA
theorem kc_G_lonely : Cond.code yG_lonely bG_lonely 4 (some .int) ∈ wA := inA2 208 rfl rfl
abbrev bG_worth : ByteArray := prog_1_method_16_code
abbrev yG_worth : MethodName := ⟨"GradingMixes", "worth", "(IZI)I"⟩
abbrev wG_worth : List Cond := Cond.code yG_worth bG_worth 4 (some .int) :: wA
theorem kc_G_worth : Cond.code yG_worth bG_worth 4 (some .int) ∈ wA := inA2 212 rfl rfl
abbrev bG_water : ByteArray := prog_1_method_17_code
abbrev yG_water : MethodName := ⟨"GradingMixes", "water", "(II)I"⟩
abbrev wG_water : List Cond := Cond.code yG_water bG_water 4 (some .int) :: wA
theorem kc_G_water : Cond.code yG_water bG_water 4 (some .int) ∈ wA := inA2 220 rfl rfl
abbrev bG_batch : ByteArray := prog_1_method_18_code
abbrev yG_batch : MethodName := ⟨"GradingMixes", "batch", "(I)I"⟩
abbrev wG_batch : List Cond := Cond.code yG_batch bG_batch 2 (some .int) :: wA
theorem kc_G_batch : Cond.code yG_batch bG_batch 2 (some .int) ∈ wA := inA2 224 rfl rfl
abbrev bG_mass : ByteArray := prog_1_method_19_code
abbrev yG_mass : MethodName := ⟨"GradingMixes", "mass", "(IZ)I"⟩
abbrev wG_mass : List Cond := Cond.code yG_mass bG_mass 3 (some .int) :: wA
theorem kc_G_mass : Cond.code yG_mass bG_mass 3 (some .int) ∈ wA := inA2 233 rfl rfl
abbrev bG_limit : ByteArray := prog_1_method_20_code
abbrev yG_limit : MethodName := ⟨"GradingMixes", "limit", "(I)I"⟩
abbrev wG_limit : List Cond := Cond.code yG_limit bG_limit 3 (some .int) :: wA
theorem kc_G_limit : Cond.code yG_limit bG_limit 3 (some .int) ∈ wA := inA2 237 rfl rfl
abbrev bG_test : ByteArray := prog_1_method_21_code
abbrev yG_test : MethodName := ⟨"GradingMixes", "test", "(II)I"⟩
abbrev wG_test : List Cond := Cond.code yG_test bG_test 4 (some .int) :: wA
theorem kc_G_test : Cond.code yG_test bG_test 4 (some .int) ∈ wA := inA3 1 rfl rfl
abbrev bG_fired : ByteArray := prog_1_method_22_code
abbrev yG_fired : MethodName := ⟨"GradingMixes", "fired", "(II)I"⟩
abbrev wG_fired : List Cond := Cond.code yG_fired bG_fired 3 (some .int) :: wA
theorem kc_G_fired : Cond.code yG_fired bG_fired 3 (some .int) ∈ wA := inA3 28 rfl rfl
abbrev bG_count : ByteArray := prog_1_method_23_code
abbrev yG_count : MethodName := ⟨"GradingMixes", "count", "(I)I"⟩
abbrev wG_count : List Cond := Cond.code yG_count bG_count 2 (some .int) :: wA
theorem kc_G_count : Cond.code yG_count bG_count 2 (some .int) ∈ wA := inA3 32 rfl rfl
abbrev bG_within : ByteArray := prog_1_method_24_code
abbrev yG_within : MethodName := ⟨"GradingMixes", "within", "(III)Z"⟩
abbrev wG_within : List Cond := Cond.code yG_within bG_within 3 (some .boolean) :: wA
theorem kc_G_within : Cond.code yG_within bG_within 3 (some .boolean) ∈ wA := inA2 70 rfl rfl
abbrev bG_mayBeBand : ByteArray := prog_1_method_25_code
abbrev yG_mayBeBand : MethodName := ⟨"GradingMixes", "mayBeBand", "(II)Z"⟩
abbrev wG_mayBeBand : List Cond := Cond.code yG_mayBeBand bG_mayBeBand 2 (some .boolean) :: wA
theorem kc_G_mayBeBand : Cond.code yG_mayBeBand bG_mayBeBand 2 (some .boolean) ∈ wA := inA2 42 rfl rfl
abbrev bG_forget : ByteArray := prog_1_method_26_code
abbrev yG_forget : MethodName := ⟨"GradingMixes", "forget", "()V"⟩
abbrev wG_forget : List Cond := Cond.code yG_forget bG_forget 1 none :: wA
theorem kc_G_forget : Cond.code yG_forget bG_forget 1 none ∈ wA := inA2 50 rfl rfl
abbrev bG_searchOnce : ByteArray := prog_1_method_27_code
abbrev yG_searchOnce : MethodName := ⟨"GradingMixes", "searchOnce", "()V"⟩
abbrev wG_searchOnce : List Cond := Cond.code yG_searchOnce bG_searchOnce 1 none :: wA
theorem kc_G_searchOnce : Cond.code yG_searchOnce bG_searchOnce 1 none ∈ wA := inA2 143 rfl rfl
abbrev bG_takeInHand : ByteArray := prog_1_method_28_code
abbrev yG_takeInHand : MethodName := ⟨"GradingMixes", "takeInHand", "(LGradingMixes$Mix;)Z"⟩
abbrev wG_takeInHand : List Cond := Cond.code yG_takeInHand bG_takeInHand 2 (some .boolean) :: wA
theorem kc_G_takeInHand : Cond.code yG_takeInHand bG_takeInHand 2 (some .boolean) ∈ wA := inA2 178 rfl rfl
abbrev bG_firstRule : ByteArray := prog_1_method_29_code
abbrev yG_firstRule : MethodName := ⟨"GradingMixes", "firstRule", "(II)I"⟩
abbrev wG_firstRule : List Cond := Cond.code yG_firstRule bG_firstRule 3 (some .int) :: wA
theorem kc_G_firstRule : Cond.code yG_firstRule bG_firstRule 3 (some .int) ∈ wA := inA3 9 rfl rfl
abbrev bP_init : ByteArray := prog_5_method_1_code
abbrev yP_init : MethodName := ⟨"GradingMixes$Plant", "<init>", "()V"⟩
abbrev wP_init : List Cond := Cond.code yP_init bP_init 1 none :: wA
theorem kc_P_init : Cond.code yP_init bP_init 1 none ∈ wA := inA1 22 rfl rfl
abbrev bP_hasSieve : ByteArray := prog_5_method_2_code
abbrev yP_hasSieve : MethodName := ⟨"GradingMixes$Plant", "hasSieve", "(I)Z"⟩
abbrev wP_hasSieve : List Cond := Cond.code yP_hasSieve bP_hasSieve 2 (some .boolean) :: wA
theorem kc_P_hasSieve : Cond.code yP_hasSieve bP_hasSieve 2 (some .boolean) ∈ wA := inA2 62 rfl rfl
abbrev bP_hasStock : ByteArray := prog_5_method_3_code
abbrev yP_hasStock : MethodName := ⟨"GradingMixes$Plant", "hasStock", "(I)Z"⟩
abbrev wP_hasStock : List Cond := Cond.code yP_hasStock bP_hasStock 2 (some .boolean) :: wA
theorem kc_P_hasStock : Cond.code yP_hasStock bP_hasStock 2 (some .boolean) ∈ wA := inA2 82 rfl rfl
abbrev bP_setBand : ByteArray := prog_5_method_4_code
abbrev yP_setBand : MethodName := ⟨"GradingMixes$Plant", "setBand", "(III)V"⟩
abbrev wP_setBand : List Cond := Cond.code yP_setBand bP_setBand 4 none :: wA
theorem kc_P_setBand : Cond.code yP_setBand bP_setBand 4 none ∈ wA := inA2 46 rfl rfl
abbrev bP_setStock : ByteArray := prog_5_method_5_code
abbrev yP_setStock : MethodName := ⟨"GradingMixes$Plant", "setStock", "(IIIIZ)V"⟩
abbrev wP_setStock : List Cond := Cond.code yP_setStock bP_setStock 6 none :: wA
theorem kc_P_setStock : Cond.code yP_setStock bP_setStock 6 none ∈ wA := inA2 74 rfl rfl
abbrev bP_setPassing : ByteArray := prog_5_method_6_code
abbrev yP_setPassing : MethodName := ⟨"GradingMixes$Plant", "setPassing", "(IIII)V"⟩
abbrev wP_setPassing : List Cond := Cond.code yP_setPassing bP_setPassing 5 none :: wA
theorem kc_P_setPassing : Cond.code yP_setPassing bP_setPassing 5 none ∈ wA := inA2 86 rfl rfl
abbrev bP_sumAt : ByteArray := prog_5_method_7_code
abbrev yP_sumAt : MethodName := ⟨"GradingMixes$Plant", "sumAt", "(I[[ILGradingMixes$Mix;)I"⟩
abbrev wP_sumAt : List Cond := Cond.code yP_sumAt bP_sumAt 6 (some .int) :: wA
theorem kc_P_sumAt : Cond.code yP_sumAt bP_sumAt 6 (some .int) ∈ wA := inA2 195 rfl rfl
abbrev bP_missAt : ByteArray := prog_5_method_8_code
abbrev yP_missAt : MethodName := ⟨"GradingMixes$Plant", "missAt", "(ILGradingMixes$Mix;)I"⟩
abbrev wP_missAt : List Cond := Cond.code yP_missAt bP_missAt 5 (some .int) :: wA
theorem kc_P_missAt : Cond.code yP_missAt bP_missAt 5 (some .int) ∈ wA := inA2 199 rfl rfl
abbrev bS_init : ByteArray := prog_6_method_1_code
abbrev yS_init : MethodName := ⟨"GradingMixes$Search", "<init>", "(LGradingMixes$Plant;)V"⟩
abbrev wS_init : List Cond := Cond.code yS_init bS_init 2 none :: wA
theorem kc_S_init : Cond.code yS_init bS_init 2 none ∈ wA := inA1 99 rfl rfl
abbrev bS_useBands : ByteArray := prog_6_method_2_code
abbrev yS_useBands : MethodName := ⟨"GradingMixes$Search", "useBands", "()V"⟩
abbrev wS_useBands : List Cond := Cond.code yS_useBands bS_useBands 2 none :: wA
theorem kc_S_useBands : Cond.code yS_useBands bS_useBands 2 none ∈ wA := inA2 147 rfl rfl
abbrev bS_widen : ByteArray := prog_6_method_3_code
abbrev yS_widen : MethodName := ⟨"GradingMixes$Search", "widen", "(IZI)V"⟩
abbrev wS_widen : List Cond := Cond.code yS_widen bS_widen 4 none :: wA
theorem kc_S_widen : Cond.code yS_widen bS_widen 4 none ∈ wA := inA2 216 rfl rfl
abbrev bS_lookAtAll : ByteArray := prog_6_method_4_code
abbrev yS_lookAtAll : MethodName := ⟨"GradingMixes$Search", "lookAtAll", "()V"⟩
abbrev wS_lookAtAll : List Cond := Cond.code yS_lookAtAll bS_lookAtAll 2 none :: wA
theorem kc_S_lookAtAll : Cond.code yS_lookAtAll bS_lookAtAll 2 none ∈ wA := inA2 151 rfl rfl
abbrev bS_fillFrom : ByteArray := prog_6_method_5_code
abbrev yS_fillFrom : MethodName := ⟨"GradingMixes$Search", "fillFrom", "(IIII)V"⟩
abbrev wS_fillFrom : List Cond := Cond.code yS_fillFrom bS_fillFrom 10 none :: wA
theorem kc_S_fillFrom : Cond.code yS_fillFrom bS_fillFrom 10 none ∈ wA := inA2 155 rfl rfl
abbrev bS_putShare : ByteArray := prog_6_method_6_code
abbrev yS_putShare : MethodName := ⟨"GradingMixes$Search", "putShare", "(II)V"⟩
abbrev wS_putShare : List Cond := Cond.code yS_putShare bS_putShare 4 none :: wA
theorem kc_S_putShare : Cond.code yS_putShare bS_putShare 4 none ∈ wA := inA2 174 rfl rfl
abbrev bS_missOfAll : ByteArray := prog_6_method_7_code
abbrev yS_missOfAll : MethodName := ⟨"GradingMixes$Search", "missOfAll", "(II)I"⟩
abbrev wS_missOfAll : List Cond := Cond.code yS_missOfAll bS_missOfAll 12 (some .int) :: wA
theorem kc_S_missOfAll : Cond.code yS_missOfAll bS_missOfAll 12 (some .int) ∈ wA := inA2 161 rfl rfl
abbrev bS_lookAt : ByteArray := prog_6_method_8_code
abbrev yS_lookAt : MethodName := ⟨"GradingMixes$Search", "lookAt", "(II)V"⟩
abbrev wS_lookAt : List Cond := Cond.code yS_lookAt bS_lookAt 3 none :: wA
theorem kc_S_lookAt : Cond.code yS_lookAt bS_lookAt 3 none ∈ wA := inA2 166 rfl rfl
abbrev bT_init : ByteArray := prog_2_method_1_code
abbrev yT_init : MethodName := ⟨"GradingMixes$BandText", "<init>", "()V"⟩
abbrev wT_init : List Cond := Cond.code yT_init bT_init 1 none :: wA
theorem kc_T_init : Cond.code yT_init bT_init 1 none ∈ wA := inA1 173 rfl rfl
abbrev bT_collect : ByteArray := prog_2_method_2_code
abbrev yT_collect : MethodName := ⟨"GradingMixes$BandText", "collect", "(I)Z"⟩
abbrev wT_collect : List Cond := Cond.code yT_collect bT_collect 2 (some .boolean) :: wA
theorem kc_T_collect : Cond.code yT_collect bT_collect 2 (some .boolean) ∈ wA := inA2 108 rfl rfl
abbrev bT_clear : ByteArray := prog_2_method_3_code
abbrev yT_clear : MethodName := ⟨"GradingMixes$BandText", "clear", "()V"⟩
abbrev wT_clear : List Cond := Cond.code yT_clear bT_clear 1 none :: wA
theorem kc_T_clear : Cond.code yT_clear bT_clear 1 none ∈ wA := inA2 135 rfl rfl
abbrev bT_parse : ByteArray := prog_2_method_4_code
abbrev yT_parse : MethodName := ⟨"GradingMixes$BandText", "parse", "(I)I"⟩
abbrev wT_parse : List Cond := Cond.code yT_parse bT_parse 4 (some .int) :: wA
theorem kc_T_parse : Cond.code yT_parse bT_parse 4 (some .int) ∈ wA := inA2 117 rfl rfl
abbrev bT_parseBand : ByteArray := prog_2_method_5_code
abbrev yT_parseBand : MethodName := ⟨"GradingMixes$BandText", "parseBand", "(II)I"⟩
abbrev wT_parseBand : List Cond := Cond.code yT_parseBand bT_parseBand 6 (some .int) :: wA
theorem kc_T_parseBand : Cond.code yT_parseBand bT_parseBand 6 (some .int) ∈ wA := inA2 121 rfl rfl
abbrev bT_parseNumber : ByteArray := prog_2_method_6_code
abbrev yT_parseNumber : MethodName := ⟨"GradingMixes$BandText", "parseNumber", "()I"⟩
abbrev wT_parseNumber : List Cond := Cond.code yT_parseNumber bT_parseNumber 3 (some .int) :: wA
theorem kc_T_parseNumber : Cond.code yT_parseNumber bT_parseNumber 3 (some .int) ∈ wA := inA2 125 rfl rfl
abbrev bT_skip : ByteArray := prog_2_method_7_code
abbrev yT_skip : MethodName := ⟨"GradingMixes$BandText", "skip", "(C)Z"⟩
abbrev wT_skip : List Cond := Cond.code yT_skip bT_skip 2 (some .boolean) :: wA
theorem kc_T_skip : Cond.code yT_skip bT_skip 2 (some .boolean) ∈ wA := inA2 130 rfl rfl
abbrev bX_init : ByteArray := prog_4_method_1_code
abbrev yX_init : MethodName := ⟨"GradingMixes$Mix", "<init>", "()V"⟩
abbrev wX_init : List Cond := Cond.code yX_init bX_init 1 none :: wA
theorem kc_X_init : Cond.code yX_init bX_init 1 none ∈ wA := inA1 106 rfl rfl
abbrev bX_set : ByteArray := prog_4_method_2_code
abbrev yX_set : MethodName := ⟨"GradingMixes$Mix", "set", "([III)V"⟩
abbrev wX_set : List Cond := Cond.code yX_set bX_set 5 none :: wA
theorem kc_X_set : Cond.code yX_set bX_set 5 none ∈ wA := inA2 170 rfl rfl
abbrev bB_init : ByteArray := prog_3_method_1_code
abbrev yB_init : MethodName := ⟨"GradingMixes$Batch", "<init>", "()V"⟩
abbrev wB_init : List Cond := Cond.code yB_init bB_init 1 none :: wA
theorem kc_B_init : Cond.code yB_init bB_init 1 none ∈ wA := inA1 199 rfl rfl
abbrev bB_fill : ByteArray := prog_3_method_2_code
abbrev yB_fill : MethodName := ⟨"GradingMixes$Batch", "fill", "(ILGradingMixes$Mix;LGradingMixes$Plant;)I"⟩
abbrev wB_fill : List Cond := Cond.code yB_fill bB_fill 10 (some .int) :: wA
theorem kc_B_fill : Cond.code yB_fill bB_fill 10 (some .int) ∈ wA := inA2 229 rfl rfl
abbrev bL_init : ByteArray := prog_7_method_1_code
abbrev yL_init : MethodName := ⟨"GradingMixes$TestLog", "<init>", "()V"⟩
abbrev wL_init : List Cond := Cond.code yL_init bL_init 1 none :: wA
theorem kc_L_init : Cond.code yL_init bL_init 1 none ∈ wA := inA1 218 rfl rfl
abbrev bL_clear : ByteArray := prog_7_method_2_code
abbrev yL_clear : MethodName := ⟨"GradingMixes$TestLog", "clear", "()V"⟩
abbrev wL_clear : List Cond := Cond.code yL_clear bL_clear 2 none :: wA
theorem kc_L_clear : Cond.code yL_clear bL_clear 2 none ∈ wA := inA2 54 rfl rfl
abbrev bL_add : ByteArray := prog_7_method_3_code
abbrev yL_add : MethodName := ⟨"GradingMixes$TestLog", "add", "(II)V"⟩
abbrev wL_add : List Cond := Cond.code yL_add bL_add 3 none :: wA
theorem kc_L_add : Cond.code yL_add bL_add 3 none ∈ wA := inA3 5 rfl rfl
abbrev bL_addFired : ByteArray := prog_7_method_4_code
abbrev yL_addFired : MethodName := ⟨"GradingMixes$TestLog", "addFired", "(II)V"⟩
abbrev wL_addFired : List Cond := Cond.code yL_addFired bL_addFired 3 none :: wA
theorem kc_L_addFired : Cond.code yL_addFired bL_addFired 3 none ∈ wA := inA3 24 rfl rfl
abbrev bL_drifts : ByteArray := prog_7_method_5_code
abbrev yL_drifts : MethodName := ⟨"GradingMixes$TestLog", "drifts", "(II)Z"⟩
abbrev wL_drifts : List Cond := Cond.code yL_drifts bL_drifts 7 (some .boolean) :: wA
theorem kc_L_drifts : Cond.code yL_drifts bL_drifts 7 (some .boolean) ∈ wA := inA3 13 rfl rfl
abbrev bL_jumps : ByteArray := prog_7_method_6_code
abbrev yL_jumps : MethodName := ⟨"GradingMixes$TestLog", "jumps", "(II)Z"⟩
abbrev wL_jumps : List Cond := Cond.code yL_jumps bL_jumps 4 (some .boolean) :: wA
theorem kc_L_jumps : Cond.code yL_jumps bL_jumps 4 (some .boolean) ∈ wA := inA3 17 rfl rfl
abbrev bM_init : ByteArray := prog_9_method_1_code
abbrev yM_init : MethodName := ⟨"GradingMixesModel", "<init>", "()V"⟩
abbrev wM_init : List Cond := Cond.code yM_init bM_init 1 none :: wA
theorem kc_M_init : Cond.code yM_init bM_init 1 none ∈ wA := inA3 37 rfl rfl
abbrev bM_within : ByteArray := prog_9_method_2_code
abbrev yM_within : MethodName := ⟨"GradingMixesModel", "within", "(III)Z"⟩
abbrev wM_within : List Cond := Cond.code yM_within bM_within 3 (some .boolean) :: wA
theorem kc_M_within : Cond.code yM_within bM_within 3 (some .boolean) ∈ wA := inA3 177 rfl rfl
abbrev bM_isSieve : ByteArray := prog_9_method_3_code
abbrev yM_isSieve : MethodName := ⟨"GradingMixesModel", "isSieve", "(I)Z"⟩
abbrev wM_isSieve : List Cond := Cond.code yM_isSieve bM_isSieve 2 (some .boolean) :: wA
theorem kc_M_isSieve : Cond.code yM_isSieve bM_isSieve 2 (some .boolean) ∈ wA := inA3 169 rfl rfl
abbrev bM_isStock : ByteArray := prog_9_method_4_code
abbrev yM_isStock : MethodName := ⟨"GradingMixesModel", "isStock", "(I)Z"⟩
abbrev wM_isStock : List Cond := Cond.code yM_isStock bM_isStock 2 (some .boolean) :: wA
theorem kc_M_isStock : Cond.code yM_isStock bM_isStock 2 (some .boolean) ∈ wA := inA3 185 rfl rfl
abbrev bM_isBand : ByteArray := prog_9_method_5_code
abbrev yM_isBand : MethodName := ⟨"GradingMixesModel", "isBand", "(II)Z"⟩
abbrev wM_isBand : List Cond := Cond.code yM_isBand bM_isBand 2 (some .boolean) :: wA
theorem kc_M_isBand : Cond.code yM_isBand bM_isBand 2 (some .boolean) ∈ wA := inA3 157 rfl rfl
abbrev bM_changed : ByteArray := prog_9_method_6_code
abbrev yM_changed : MethodName := ⟨"GradingMixesModel", "changed", "()V"⟩
abbrev wM_changed : List Cond := Cond.code yM_changed bM_changed 1 none :: wA
theorem kc_M_changed : Cond.code yM_changed bM_changed 1 none ∈ wA := inA3 161 rfl rfl
abbrev bM_sieve : ByteArray := prog_9_method_7_code
abbrev yM_sieve : MethodName := ⟨"GradingMixesModel", "sieve", "(II)I"⟩
abbrev wM_sieve : List Cond := Cond.code yM_sieve bM_sieve 3 (some .int) :: wA
theorem kc_M_sieve : Cond.code yM_sieve bM_sieve 3 (some .int) ∈ wA := inA3 154 rfl rfl
abbrev bM_band : ByteArray := prog_9_method_8_code
abbrev yM_band : MethodName := ⟨"GradingMixesModel", "band", "(III)Z"⟩
abbrev wM_band : List Cond := Cond.code yM_band bM_band 4 (some .boolean) :: wA
theorem kc_M_band : Cond.code yM_band bM_band 4 (some .boolean) ∈ wA := inA3 165 rfl rfl
abbrev bM_stock : ByteArray := prog_9_method_9_code
abbrev yM_stock : MethodName := ⟨"GradingMixesModel", "stock", "(IIIZ)I"⟩
abbrev wM_stock : List Cond := Cond.code yM_stock bM_stock 5 (some .int) :: wA
theorem kc_M_stock : Cond.code yM_stock bM_stock 5 (some .int) ∈ wA := inA3 173 rfl rfl
abbrev bM_passes : ByteArray := prog_9_method_10_code
abbrev yM_passes : MethodName := ⟨"GradingMixesModel", "passes", "(IIII)Z"⟩
abbrev wM_passes : List Cond := Cond.code yM_passes bM_passes 5 (some .boolean) :: wA
theorem kc_M_passes : Cond.code yM_passes bM_passes 5 (some .boolean) ∈ wA := inA3 181 rfl rfl
abbrev bM_cap : ByteArray := prog_9_method_11_code
abbrev yM_cap : MethodName := ⟨"GradingMixesModel", "cap", "(I)I"⟩
abbrev wM_cap : List Cond := Cond.code yM_cap bM_cap 3 (some .int) :: wA
theorem kc_M_cap : Cond.code yM_cap bM_cap 3 (some .int) ∈ wA := inA3 189 rfl rfl
abbrev bM_step : ByteArray := prog_9_method_12_code
abbrev yM_step : MethodName := ⟨"GradingMixesModel", "step", "(I)I"⟩
abbrev wM_step : List Cond := Cond.code yM_step bM_step 4 (some .int) :: wA
theorem kc_M_step : Cond.code yM_step bM_step 4 (some .int) ∈ wA := inA3 193 rfl rfl
abbrev bM_unit : ByteArray := prog_9_method_13_code
abbrev yM_unit : MethodName := ⟨"GradingMixesModel", "unit", "(I)Z"⟩
abbrev wM_unit : List Cond := Cond.code yM_unit bM_unit 2 (some .boolean) :: wA
theorem kc_M_unit : Cond.code yM_unit bM_unit 2 (some .boolean) ∈ wA := inA3 197 rfl rfl
abbrev bM_isDigit : ByteArray := prog_9_method_14_code
abbrev yM_isDigit : MethodName := ⟨"GradingMixesModel", "isDigit", "()Z"⟩
abbrev wM_isDigit : List Cond := Cond.code yM_isDigit bM_isDigit 1 (some .boolean) :: wA
theorem kc_M_isDigit : Cond.code yM_isDigit bM_isDigit 1 (some .boolean) ∈ wA := inA3 213 rfl rfl
abbrev bM_number : ByteArray := prog_9_method_15_code
abbrev yM_number : MethodName := ⟨"GradingMixesModel", "number", "()I"⟩
abbrev wM_number : List Cond := Cond.code yM_number bM_number 3 (some .int) :: wA
theorem kc_M_number : Cond.code yM_number bM_number 3 (some .int) ∈ wA := inA3 209 rfl rfl
abbrev bM_takes : ByteArray := prog_9_method_16_code
abbrev yM_takes : MethodName := ⟨"GradingMixesModel", "takes", "(I)Z"⟩
abbrev wM_takes : List Cond := Cond.code yM_takes bM_takes 3 (some .boolean) :: wA
theorem kc_M_takes : Cond.code yM_takes bM_takes 3 (some .boolean) ∈ wA := inA3 217 rfl rfl
abbrev bM_readBands : ByteArray := prog_9_method_17_code
abbrev yM_readBands : MethodName := ⟨"GradingMixesModel", "readBands", "()I"⟩
abbrev wM_readBands : List Cond := Cond.code yM_readBands bM_readBands 7 (some .int) :: wA
theorem kc_M_readBands : Cond.code yM_readBands bM_readBands 7 (some .int) ∈ wA := inA3 205 rfl rfl
abbrev bM_read : ByteArray := prog_9_method_18_code
abbrev yM_read : MethodName := ⟨"GradingMixesModel", "read", "()I"⟩
abbrev wM_read : List Cond := Cond.code yM_read bM_read 3 (some .int) :: wA
theorem kc_M_read : Cond.code yM_read bM_read 3 (some .int) ∈ wA := inA3 201 rfl rfl
abbrev bM_lowerPart : ByteArray := prog_9_method_19_code
abbrev yM_lowerPart : MethodName := ⟨"GradingMixesModel", "lowerPart", "(II)I"⟩
abbrev wM_lowerPart : List Cond := Cond.code yM_lowerPart bM_lowerPart 4 (some .int) :: wA
theorem kc_M_lowerPart : Cond.code yM_lowerPart bM_lowerPart 4 (some .int) ∈ wA := inA4 5 rfl rfl
abbrev bM_upperPart : ByteArray := prog_9_method_20_code
abbrev yM_upperPart : MethodName := ⟨"GradingMixesModel", "upperPart", "(II)I"⟩
abbrev wM_upperPart : List Cond := Cond.code yM_upperPart bM_upperPart 4 (some .int) :: wA
theorem kc_M_upperPart : Cond.code yM_upperPart bM_upperPart 4 (some .int) ∈ wA := inA4 9 rfl rfl
abbrev bM_endOf : ByteArray := prog_9_method_21_code
abbrev yM_endOf : MethodName := ⟨"GradingMixesModel", "endOf", "([III)I"⟩
abbrev wM_endOf : List Cond := Cond.code yM_endOf bM_endOf 7 (some .int) :: wA
theorem kc_M_endOf : Cond.code yM_endOf bM_endOf 7 (some .int) ∈ wA := inA4 1 rfl rfl
abbrev bM_missOf : ByteArray := prog_9_method_22_code
abbrev yM_missOf : MethodName := ⟨"GradingMixesModel", "missOf", "([IIII)I"⟩
abbrev wM_missOf : List Cond := Cond.code yM_missOf bM_missOf 7 (some .int) :: wA
theorem kc_M_missOf : Cond.code yM_missOf bM_missOf 7 (some .int) ∈ wA := inA3 237 rfl rfl
abbrev bM_costOf : ByteArray := prog_9_method_23_code
abbrev yM_costOf : MethodName := ⟨"GradingMixesModel", "costOf", "([I)I"⟩
abbrev wM_costOf : List Cond := Cond.code yM_costOf bM_costOf 4 (some .int) :: wA
theorem kc_M_costOf : Cond.code yM_costOf bM_costOf 4 (some .int) ∈ wA := inA4 13 rfl rfl
abbrev bM_isMix : ByteArray := prog_9_method_24_code
abbrev yM_isMix : MethodName := ⟨"GradingMixesModel", "isMix", "()Z"⟩
abbrev wM_isMix : List Cond := Cond.code yM_isMix bM_isMix 5 (some .boolean) :: wA
theorem kc_M_isMix : Cond.code yM_isMix bM_isMix 5 (some .boolean) ∈ wA := inA3 229 rfl rfl
abbrev bM_goThrough : ByteArray := prog_9_method_25_code
abbrev yM_goThrough : MethodName := ⟨"GradingMixesModel", "goThrough", "(ZIII)V"⟩
abbrev wM_goThrough : List Cond := Cond.code yM_goThrough bM_goThrough 8 none :: wA
theorem kc_M_goThrough : Cond.code yM_goThrough bM_goThrough 8 none ∈ wA := inA3 225 rfl rfl
abbrev bM_look : ByteArray := prog_9_method_26_code
abbrev yM_look : MethodName := ⟨"GradingMixesModel", "look", "(ZIII)V"⟩
abbrev wM_look : List Cond := Cond.code yM_look bM_look 9 none :: wA
theorem kc_M_look : Cond.code yM_look bM_look 9 none ∈ wA := inA3 233 rfl rfl
abbrev bM_take : ByteArray := prog_9_method_27_code
abbrev yM_take : MethodName := ⟨"GradingMixesModel", "take", "()V"⟩
abbrev wM_take : List Cond := Cond.code yM_take bM_take 2 none :: wA
theorem kc_M_take : Cond.code yM_take bM_take 2 none ∈ wA := inA4 17 rfl rfl
abbrev bM_run : ByteArray := prog_9_method_28_code
abbrev yM_run : MethodName := ⟨"GradingMixesModel", "run", "()I"⟩
abbrev wM_run : List Cond := Cond.code yM_run bM_run 1 (some .int) :: wA
theorem kc_M_run : Cond.code yM_run bM_run 1 (some .int) ∈ wA := inA3 221 rfl rfl
abbrev bM_near : ByteArray := prog_9_method_29_code
abbrev yM_near : MethodName := ⟨"GradingMixesModel", "near", "()I"⟩
abbrev wM_near : List Cond := Cond.code yM_near bM_near 1 (some .int) :: wA
theorem kc_M_near : Cond.code yM_near bM_near 1 (some .int) ∈ wA := inA4 21 rfl rfl
abbrev bM_share : ByteArray := prog_9_method_30_code
abbrev yM_share : MethodName := ⟨"GradingMixesModel", "share", "(I)I"⟩
abbrev wM_share : List Cond := Cond.code yM_share bM_share 2 (some .int) :: wA
theorem kc_M_share : Cond.code yM_share bM_share 2 (some .int) ∈ wA := inA4 25 rfl rfl
abbrev bM_told : ByteArray := prog_9_method_31_code
abbrev yM_told : MethodName := ⟨"GradingMixesModel", "told", "(II)I"⟩
abbrev wM_told : List Cond := Cond.code yM_told bM_told 3 (some .int) :: wA
theorem kc_M_told : Cond.code yM_told bM_told 3 (some .int) ∈ wA := inA4 29 rfl rfl
abbrev bM_cost : ByteArray := prog_9_method_32_code
abbrev yM_cost : MethodName := ⟨"GradingMixesModel", "cost", "()I"⟩
abbrev wM_cost : List Cond := Cond.code yM_cost bM_cost 1 (some .int) :: wA
theorem kc_M_cost : Cond.code yM_cost bM_cost 1 (some .int) ∈ wA := inA4 33 rfl rfl
abbrev bM_lonely : ByteArray := prog_9_method_33_code
abbrev yM_lonely : MethodName := ⟨"GradingMixesModel", "lonely", "(I)I"⟩
abbrev wM_lonely : List Cond := Cond.code yM_lonely bM_lonely 4 (some .int) :: wA
theorem kc_M_lonely : Cond.code yM_lonely bM_lonely 4 (some .int) ∈ wA := inA4 37 rfl rfl
abbrev bM_worth : ByteArray := prog_9_method_34_code
abbrev yM_worth : MethodName := ⟨"GradingMixesModel", "worth", "(IZI)I"⟩
abbrev wM_worth : List Cond := Cond.code yM_worth bM_worth 7 (some .int) :: wA
theorem kc_M_worth : Cond.code yM_worth bM_worth 7 (some .int) ∈ wA := inA4 41 rfl rfl
abbrev bM_water : ByteArray := prog_9_method_35_code
abbrev yM_water : MethodName := ⟨"GradingMixesModel", "water", "(II)I"⟩
abbrev wM_water : List Cond := Cond.code yM_water bM_water 4 (some .int) :: wA
theorem kc_M_water : Cond.code yM_water bM_water 4 (some .int) ∈ wA := inA4 45 rfl rfl
abbrev bM_batch : ByteArray := prog_9_method_36_code
abbrev yM_batch : MethodName := ⟨"GradingMixesModel", "batch", "(I)I"⟩
abbrev wM_batch : List Cond := Cond.code yM_batch bM_batch 8 (some .int) :: wA
theorem kc_M_batch : Cond.code yM_batch bM_batch 8 (some .int) ∈ wA := inA4 49 rfl rfl
abbrev bM_mass : ByteArray := prog_9_method_37_code
abbrev yM_mass : MethodName := ⟨"GradingMixesModel", "mass", "(IZ)I"⟩
abbrev wM_mass : List Cond := Cond.code yM_mass bM_mass 3 (some .int) :: wA
theorem kc_M_mass : Cond.code yM_mass bM_mass 3 (some .int) ∈ wA := inA4 56 rfl rfl
abbrev bM_limit : ByteArray := prog_9_method_38_code
abbrev yM_limit : MethodName := ⟨"GradingMixesModel", "limit", "(I)I"⟩
abbrev wM_limit : List Cond := Cond.code yM_limit bM_limit 3 (some .int) :: wA
theorem kc_M_limit : Cond.code yM_limit bM_limit 3 (some .int) ∈ wA := inA4 60 rfl rfl
abbrev bM_driftsOff : ByteArray := prog_9_method_39_code
abbrev yM_driftsOff : MethodName := ⟨"GradingMixesModel", "driftsOff", "(I)Z"⟩
abbrev wM_driftsOff : List Cond := Cond.code yM_driftsOff bM_driftsOff 7 (some .boolean) :: wA
theorem kc_M_driftsOff : Cond.code yM_driftsOff bM_driftsOff 7 (some .boolean) ∈ wA := inA4 68 rfl rfl
abbrev bM_test : ByteArray := prog_9_method_40_code
abbrev yM_test : MethodName := ⟨"GradingMixesModel", "test", "(II)I"⟩
abbrev wM_test : List Cond := Cond.code yM_test bM_test 7 (some .int) :: wA
theorem kc_M_test : Cond.code yM_test bM_test 7 (some .int) ∈ wA := inA4 64 rfl rfl
abbrev bM_fired : ByteArray := prog_9_method_41_code
abbrev yM_fired : MethodName := ⟨"GradingMixesModel", "fired", "(II)I"⟩
abbrev wM_fired : List Cond := Cond.code yM_fired bM_fired 5 (some .int) :: wA
theorem kc_M_fired : Cond.code yM_fired bM_fired 5 (some .int) ∈ wA := inA4 72 rfl rfl
abbrev bM_count : ByteArray := prog_9_method_42_code
abbrev yM_count : MethodName := ⟨"GradingMixesModel", "count", "(I)I"⟩
abbrev wM_count : List Cond := Cond.code yM_count bM_count 4 (some .int) :: wA
theorem kc_M_count : Cond.code yM_count bM_count 4 (some .int) ∈ wA := inA4 76 rfl rfl
theorem kc_object : Cond.code Lib.objectInit ⟨#[0xb1]⟩ 1 none ∈ wA := inA1 17 rfl rfl
theorem kc_math_max : Cond.code Lib.Math.max.name Lib.Math.max.code 2 (some .int) ∈ wA := inA2 89 rfl rfl
theorem kc_math_min : Cond.code Lib.Math.min.name Lib.Math.min.code 2 (some .int) ∈ wA := inA2 92 rfl rfl
theorem kc_math_abs : Cond.code Lib.Math.abs.name Lib.Math.abs.code 1 (some .int) ∈ wA := inA3 20 rfl rfl
def nwX : List Cond := [.methodLinkNest "GradingMixes" 9 ⟨"GradingMixes$Plant", "<init>", "()V"⟩ "GradingMixes", .methodLinkNest "GradingMixes$Search" 35 ⟨"GradingMixes$Mix", "<init>", "()V"⟩ "GradingMixes", .methodLinkNest "GradingMixes" 30 ⟨"GradingMixes$BandText", "<init>", "()V"⟩ "GradingMixes", .methodLinkNest "GradingMixes" 37 ⟨"GradingMixes$Mix", "<init>", "()V"⟩ "GradingMixes", .methodLinkNest "GradingMixes" 44 ⟨"GradingMixes$Batch", "<init>", "()V"⟩ "GradingMixes", .methodLinkNest "GradingMixes" 51 ⟨"GradingMixes$TestLog", "<init>", "()V"⟩ "GradingMixes", .methodLinkNest "GradingMixes$BandText" 28 ⟨"GradingMixes", "within", "(III)Z"⟩ "GradingMixes", .methodLinkNest "GradingMixes$BandText" 44 ⟨"GradingMixes", "mayBeBand", "(II)Z"⟩ "GradingMixes", .methodLinkNest "GradingMixes$Search" 97 ⟨"GradingMixes", "within", "(III)Z"⟩ "GradingMixes"]
def nwM : List Cond := []
theorem nestX : ∀ w ∈ nwX, ∃ a i x h, w = Cond.methodLinkNest a i x h := by
  intro w hw
  unfold nwX at hw
  simp only [List.mem_cons, List.not_mem_nil, or_false] at hw
  rcases hw with rfl | rfl | rfl | rfl | rfl | rfl | rfl | rfl | rfl <;> exact ⟨_, _, _, _, rfl⟩
theorem nestM : ∀ w ∈ nwM, ∃ a i x h, w = Cond.methodLinkNest a i x h := fun w hw => absurd hw List.not_mem_nil
theorem nk_0 : (Cond.methodLinkNest "GradingMixes" 9 ⟨"GradingMixes$Plant", "<init>", "()V"⟩ "GradingMixes") ∈ nwX := List.mem_of_getElem? (i := 0) rfl
theorem nt_0 : (Cond.methodLinkNest "GradingMixes" 9 ⟨"GradingMixes$Plant", "<init>", "()V"⟩ "GradingMixes") ∈ lw_tbl := List.mem_append_right _ (List.mem_append_left _ (List.mem_of_getElem? (i := 20) rfl))
theorem nk_1 : (Cond.methodLinkNest "GradingMixes$Search" 35 ⟨"GradingMixes$Mix", "<init>", "()V"⟩ "GradingMixes") ∈ nwX := List.mem_of_getElem? (i := 1) rfl
theorem nt_1 : (Cond.methodLinkNest "GradingMixes$Search" 35 ⟨"GradingMixes$Mix", "<init>", "()V"⟩ "GradingMixes") ∈ lw_tbl := List.mem_append_right _ (List.mem_append_left _ (List.mem_of_getElem? (i := 104) rfl))
theorem nk_2 : (Cond.methodLinkNest "GradingMixes" 30 ⟨"GradingMixes$BandText", "<init>", "()V"⟩ "GradingMixes") ∈ nwX := List.mem_of_getElem? (i := 2) rfl
theorem nt_2 : (Cond.methodLinkNest "GradingMixes" 30 ⟨"GradingMixes$BandText", "<init>", "()V"⟩ "GradingMixes") ∈ lw_tbl := List.mem_append_right _ (List.mem_append_left _ (List.mem_of_getElem? (i := 171) rfl))
theorem nk_3 : (Cond.methodLinkNest "GradingMixes" 37 ⟨"GradingMixes$Mix", "<init>", "()V"⟩ "GradingMixes") ∈ nwX := List.mem_of_getElem? (i := 3) rfl
theorem nt_3 : (Cond.methodLinkNest "GradingMixes" 37 ⟨"GradingMixes$Mix", "<init>", "()V"⟩ "GradingMixes") ∈ lw_tbl := List.mem_append_right _ (List.mem_append_left _ (List.mem_of_getElem? (i := 194) rfl))
theorem nk_4 : (Cond.methodLinkNest "GradingMixes" 44 ⟨"GradingMixes$Batch", "<init>", "()V"⟩ "GradingMixes") ∈ nwX := List.mem_of_getElem? (i := 4) rfl
theorem nt_4 : (Cond.methodLinkNest "GradingMixes" 44 ⟨"GradingMixes$Batch", "<init>", "()V"⟩ "GradingMixes") ∈ lw_tbl := List.mem_append_right _ (List.mem_append_left _ (List.mem_of_getElem? (i := 197) rfl))
theorem nk_5 : (Cond.methodLinkNest "GradingMixes" 51 ⟨"GradingMixes$TestLog", "<init>", "()V"⟩ "GradingMixes") ∈ nwX := List.mem_of_getElem? (i := 5) rfl
theorem nt_5 : (Cond.methodLinkNest "GradingMixes" 51 ⟨"GradingMixes$TestLog", "<init>", "()V"⟩ "GradingMixes") ∈ lw_tbl := List.mem_append_right _ (List.mem_append_left _ (List.mem_of_getElem? (i := 216) rfl))
theorem nk_6 : (Cond.methodLinkNest "GradingMixes$BandText" 28 ⟨"GradingMixes", "within", "(III)Z"⟩ "GradingMixes") ∈ nwX := List.mem_of_getElem? (i := 6) rfl
theorem nt_6 : (Cond.methodLinkNest "GradingMixes$BandText" 28 ⟨"GradingMixes", "within", "(III)Z"⟩ "GradingMixes") ∈ lw_tbl := List.mem_append_right _ (List.mem_append_right _ (List.mem_append_left _ (List.mem_of_getElem? (i := 109) rfl)))
theorem nk_7 : (Cond.methodLinkNest "GradingMixes$BandText" 44 ⟨"GradingMixes", "mayBeBand", "(II)Z"⟩ "GradingMixes") ∈ nwX := List.mem_of_getElem? (i := 7) rfl
theorem nt_7 : (Cond.methodLinkNest "GradingMixes$BandText" 44 ⟨"GradingMixes", "mayBeBand", "(II)Z"⟩ "GradingMixes") ∈ lw_tbl := List.mem_append_right _ (List.mem_append_right _ (List.mem_append_left _ (List.mem_of_getElem? (i := 131) rfl)))
theorem nk_8 : (Cond.methodLinkNest "GradingMixes$Search" 97 ⟨"GradingMixes", "within", "(III)Z"⟩ "GradingMixes") ∈ nwX := List.mem_of_getElem? (i := 8) rfl
theorem nt_8 : (Cond.methodLinkNest "GradingMixes$Search" 97 ⟨"GradingMixes", "within", "(III)Z"⟩ "GradingMixes") ∈ lw_tbl := List.mem_append_right _ (List.mem_append_right _ (List.mem_append_left _ (List.mem_of_getElem? (i := 157) rfl)))
theorem nt_over : (Cond.arrayOver (.array .int)) ∈ lw_tbl := List.mem_append_right _ (List.mem_append_left _ (List.mem_of_getElem? (i := 25) rfl))
end
section
theorem k1_39 : (Cond.fieldLink "GradingMixes$Plant" 24 "GradingMixes$Plant" "low" "[I") ∈ wA := inA1 39 rfl rfl
theorem k1_42 : (Cond.fieldLink "GradingMixes$Plant" 28 "GradingMixes$Plant" "high" "[I") ∈ wA := inA1 42 rfl rfl
theorem k1_221 : (Cond.fieldLink "GradingMixes$TestLog" 9 "GradingMixes$TestLog" "total" "I") ∈ wA := inA1 221 rfl rfl
theorem k1_225 : (Cond.fieldLink "GradingMixes$TestLog" 24 "GradingMixes$TestLog" "firedTotal" "I") ∈ wA := inA1 225 rfl rfl
theorem k1_223 : (Cond.fieldLink "GradingMixes$TestLog" 15 "GradingMixes$TestLog" "sizes" "[I") ∈ wA := inA1 223 rfl rfl
theorem k2_12 : (Cond.fieldLink "GradingMixes" 38 "GradingMixes" "hand" "LGradingMixes$Mix;") ∈ wA := inA2 12 rfl rfl
theorem k1_110 : (Cond.fieldLink "GradingMixes" 143 "GradingMixes$Mix" "there" "Z") ∈ wA := inA1 110 rfl rfl
theorem k2_13 : (Cond.fieldLink "GradingMixes" 45 "GradingMixes" "lastBatch" "LGradingMixes$Batch;") ∈ wA := inA2 13 rfl rfl
theorem k1_202 : (Cond.fieldLink "GradingMixes" 192 "GradingMixes$Batch" "there" "Z") ∈ wA := inA1 202 rfl rfl
theorem k2_14 : (Cond.fieldLink "GradingMixes" 52 "GradingMixes" "log" "LGradingMixes$TestLog;") ∈ wA := inA2 14 rfl rfl
theorem k2_51 : (Cond.methodLink "GradingMixes" 228 ⟨"GradingMixes$TestLog", "clear", "()V"⟩) ∈ wA := inA2 51 rfl rfl
theorem k2_52 : (Cond.instanceMethod ⟨"GradingMixes$TestLog", "clear", "()V"⟩) ∈ wA := inA2 52 rfl rfl
theorem k2_53 : (Cond.selects "GradingMixes$TestLog" ⟨"GradingMixes$TestLog", "clear", "()V"⟩ ⟨"GradingMixes$TestLog", "clear", "()V"⟩) ∈ wA := inA2 53 rfl rfl
theorem k1_7 : (Cond.initialized "GradingMixes$TestLog") ∈ wA := inA1 7 rfl rfl
theorem k2_15 : (Cond.fieldLink "GradingMixes" 56 "GradingMixes" "searched" "Z") ∈ wA := inA2 15 rfl rfl
theorem k2_40 : (Cond.methodLink "GradingMixes" 64 ⟨"GradingMixes", "mayBeBand", "(II)Z"⟩) ∈ wA := inA2 40 rfl rfl
theorem k2_41 : (Cond.static ⟨"GradingMixes", "mayBeBand", "(II)Z"⟩) ∈ wA := inA2 41 rfl rfl
theorem k1_1 : (Cond.initialized "GradingMixes") ∈ wA := inA1 1 rfl rfl
theorem k2_8 : (Cond.fieldLink "GradingMixes" 10 "GradingMixes" "plant" "LGradingMixes$Plant;") ∈ wA := inA2 8 rfl rfl
theorem k1_28 : (Cond.fieldLink "GradingMixes" 68 "GradingMixes$Plant" "sieves" "I") ∈ wA := inA1 28 rfl rfl
theorem k2_43 : (Cond.methodLink "GradingMixes" 71 ⟨"GradingMixes$Plant", "setBand", "(III)V"⟩) ∈ wA := inA2 43 rfl rfl
theorem k2_44 : (Cond.instanceMethod ⟨"GradingMixes$Plant", "setBand", "(III)V"⟩) ∈ wA := inA2 44 rfl rfl
theorem k2_45 : (Cond.selects "GradingMixes$Plant" ⟨"GradingMixes$Plant", "setBand", "(III)V"⟩ ⟨"GradingMixes$Plant", "setBand", "(III)V"⟩) ∈ wA := inA2 45 rfl rfl
theorem k1_2 : (Cond.initialized "GradingMixes$Plant") ∈ wA := inA1 2 rfl rfl
theorem k2_47 : (Cond.methodLink "GradingMixes" 75 ⟨"GradingMixes", "forget", "()V"⟩) ∈ wA := inA2 47 rfl rfl
theorem k2_49 : (Cond.instanceMethod ⟨"GradingMixes", "forget", "()V"⟩) ∈ wA := inA2 49 rfl rfl
theorem kp_0 : (Cond.selects "GradingMixes" ⟨"GradingMixes", "forget", "()V"⟩ ⟨"GradingMixes", "forget", "()V"⟩) ∈ wA := inAp 0 rfl rfl
theorem k1_26 : (Cond.fieldLink "GradingMixes$Plant" 9 "GradingMixes$Plant" "sieves" "I") ∈ wA := inA1 26 rfl rfl
theorem k2_59 : (Cond.methodLink "GradingMixes" 78 ⟨"GradingMixes$Plant", "hasSieve", "(I)Z"⟩) ∈ wA := inA2 59 rfl rfl
theorem k2_60 : (Cond.instanceMethod ⟨"GradingMixes$Plant", "hasSieve", "(I)Z"⟩) ∈ wA := inA2 60 rfl rfl
theorem k2_61 : (Cond.selects "GradingMixes$Plant" ⟨"GradingMixes$Plant", "hasSieve", "(I)Z"⟩ ⟨"GradingMixes$Plant", "hasSieve", "(I)Z"⟩) ∈ wA := inA2 61 rfl rfl
theorem k1_45 : (Cond.fieldLink "GradingMixes$Plant" 31 "GradingMixes$Plant" "price" "[I") ∈ wA := inA1 45 rfl rfl
theorem k1_47 : (Cond.fieldLink "GradingMixes$Plant" 34 "GradingMixes$Plant" "least" "[I") ∈ wA := inA1 47 rfl rfl
theorem k1_49 : (Cond.fieldLink "GradingMixes$Plant" 37 "GradingMixes$Plant" "most" "[I") ∈ wA := inA1 49 rfl rfl
theorem k1_51 : (Cond.fieldLink "GradingMixes$Plant" 40 "GradingMixes$Plant" "old" "[Z") ∈ wA := inA1 51 rfl rfl
theorem k2_67 : (Cond.constant "GradingMixes" 82 100000) ∈ wA := inA2 67 rfl rfl
theorem k2_68 : (Cond.methodLink "GradingMixes" 83 ⟨"GradingMixes", "within", "(III)Z"⟩) ∈ wA := inA2 68 rfl rfl
theorem k2_69 : (Cond.static ⟨"GradingMixes", "within", "(III)Z"⟩) ∈ wA := inA2 69 rfl rfl
theorem k1_31 : (Cond.fieldLink "GradingMixes" 87 "GradingMixes$Plant" "stocks" "I") ∈ wA := inA1 31 rfl rfl
theorem k2_71 : (Cond.methodLink "GradingMixes" 90 ⟨"GradingMixes$Plant", "setStock", "(IIIIZ)V"⟩) ∈ wA := inA2 71 rfl rfl
theorem k2_72 : (Cond.instanceMethod ⟨"GradingMixes$Plant", "setStock", "(IIIIZ)V"⟩) ∈ wA := inA2 72 rfl rfl
theorem k2_73 : (Cond.selects "GradingMixes$Plant" ⟨"GradingMixes$Plant", "setStock", "(IIIIZ)V"⟩ ⟨"GradingMixes$Plant", "setStock", "(IIIIZ)V"⟩) ∈ wA := inA2 73 rfl rfl
theorem k1_29 : (Cond.fieldLink "GradingMixes$Plant" 15 "GradingMixes$Plant" "stocks" "I") ∈ wA := inA1 29 rfl rfl
theorem k1_56 : (Cond.fieldLink "GradingMixes$Plant" 49 "GradingMixes$Plant" "middle" "[[I") ∈ wA := inA1 56 rfl rfl
theorem k1_58 : (Cond.fieldLink "GradingMixes$Plant" 52 "GradingMixes$Plant" "lower" "[[I") ∈ wA := inA1 58 rfl rfl
theorem k2_87 : (Cond.methodLink "GradingMixes$Plant" 58 ⟨"java/lang/Math", "max", "(II)I"⟩) ∈ wA := inA2 87 rfl rfl
theorem k2_88 : (Cond.static ⟨"java/lang/Math", "max", "(II)I"⟩) ∈ wA := inA2 88 rfl rfl
theorem k1_9 : (Cond.initialized "java/lang/Math") ∈ wA := inA1 9 rfl rfl
theorem k1_61 : (Cond.fieldLink "GradingMixes$Plant" 55 "GradingMixes$Plant" "upper" "[[I") ∈ wA := inA1 61 rfl rfl
theorem k2_90 : (Cond.methodLink "GradingMixes$Plant" 64 ⟨"java/lang/Math", "min", "(II)I"⟩) ∈ wA := inA2 90 rfl rfl
theorem k2_91 : (Cond.static ⟨"java/lang/Math", "min", "(II)I"⟩) ∈ wA := inA2 91 rfl rfl
theorem k2_79 : (Cond.methodLink "GradingMixes" 94 ⟨"GradingMixes$Plant", "hasStock", "(I)Z"⟩) ∈ wA := inA2 79 rfl rfl
theorem k2_80 : (Cond.instanceMethod ⟨"GradingMixes$Plant", "hasStock", "(I)Z"⟩) ∈ wA := inA2 80 rfl rfl
theorem k2_81 : (Cond.selects "GradingMixes$Plant" ⟨"GradingMixes$Plant", "hasStock", "(I)Z"⟩ ⟨"GradingMixes$Plant", "hasStock", "(I)Z"⟩) ∈ wA := inA2 81 rfl rfl
theorem k2_83 : (Cond.methodLink "GradingMixes" 97 ⟨"GradingMixes$Plant", "setPassing", "(IIII)V"⟩) ∈ wA := inA2 83 rfl rfl
theorem k2_84 : (Cond.instanceMethod ⟨"GradingMixes$Plant", "setPassing", "(IIII)V"⟩) ∈ wA := inA2 84 rfl rfl
theorem k2_85 : (Cond.selects "GradingMixes$Plant" ⟨"GradingMixes$Plant", "setPassing", "(IIII)V"⟩ ⟨"GradingMixes$Plant", "setPassing", "(IIII)V"⟩) ∈ wA := inA2 85 rfl rfl
theorem k1_35 : (Cond.fieldLink "GradingMixes" 101 "GradingMixes$Plant" "cap" "I") ∈ wA := inA1 35 rfl rfl
theorem k1_38 : (Cond.fieldLink "GradingMixes" 104 "GradingMixes$Plant" "step" "I") ∈ wA := inA1 38 rfl rfl
theorem k1_180 : (Cond.fieldLink "GradingMixes$BandText" 21 "GradingMixes$BandText" "size" "I") ∈ wA := inA1 180 rfl rfl
theorem k1_179 : (Cond.fieldLink "GradingMixes$BandText" 18 "GradingMixes$BandText" "signs" "[I") ∈ wA := inA1 179 rfl rfl
theorem k2_11 : (Cond.fieldLink "GradingMixes" 31 "GradingMixes" "text" "LGradingMixes$BandText;") ∈ wA := inA2 11 rfl rfl
theorem k2_105 : (Cond.methodLink "GradingMixes" 107 ⟨"GradingMixes$BandText", "collect", "(I)Z"⟩) ∈ wA := inA2 105 rfl rfl
theorem k2_106 : (Cond.instanceMethod ⟨"GradingMixes$BandText", "collect", "(I)Z"⟩) ∈ wA := inA2 106 rfl rfl
theorem k2_107 : (Cond.selects "GradingMixes$BandText" ⟨"GradingMixes$BandText", "collect", "(I)Z"⟩ ⟨"GradingMixes$BandText", "collect", "(I)Z"⟩) ∈ wA := inA2 107 rfl rfl
theorem k1_5 : (Cond.initialized "GradingMixes$BandText") ∈ wA := inA1 5 rfl rfl
theorem k1_181 : (Cond.fieldLink "GradingMixes$BandText" 25 "GradingMixes$BandText" "at" "I") ∈ wA := inA1 181 rfl rfl
theorem k2_126 : (Cond.methodLink "GradingMixes$BandText" 48 ⟨"java/lang/Math", "max", "(II)I"⟩) ∈ wA := inA2 126 rfl rfl
theorem k2_122 : (Cond.methodLink "GradingMixes$BandText" 40 ⟨"GradingMixes$BandText", "parseNumber", "()I"⟩) ∈ wA := inA2 122 rfl rfl
theorem k2_124 : (Cond.instanceMethod ⟨"GradingMixes$BandText", "parseNumber", "()I"⟩) ∈ wA := inA2 124 rfl rfl
theorem kp_2 : (Cond.selects "GradingMixes$BandText" ⟨"GradingMixes$BandText", "parseNumber", "()I"⟩ ⟨"GradingMixes$BandText", "parseNumber", "()I"⟩) ∈ wA := inAp 2 rfl rfl
theorem k2_127 : (Cond.methodLink "GradingMixes$BandText" 36 ⟨"GradingMixes$BandText", "skip", "(C)Z"⟩) ∈ wA := inA2 127 rfl rfl
theorem k2_129 : (Cond.instanceMethod ⟨"GradingMixes$BandText", "skip", "(C)Z"⟩) ∈ wA := inA2 129 rfl rfl
theorem kp_3 : (Cond.selects "GradingMixes$BandText" ⟨"GradingMixes$BandText", "skip", "(C)Z"⟩ ⟨"GradingMixes$BandText", "skip", "(C)Z"⟩) ∈ wA := inAp 3 rfl rfl
theorem k1_175 : (Cond.fieldLink "GradingMixes$BandText" 9 "GradingMixes$BandText" "lows" "[I") ∈ wA := inA1 175 rfl rfl
theorem k1_177 : (Cond.fieldLink "GradingMixes$BandText" 15 "GradingMixes$BandText" "highs" "[I") ∈ wA := inA1 177 rfl rfl
theorem k2_118 : (Cond.methodLink "GradingMixes$BandText" 32 ⟨"GradingMixes$BandText", "parseBand", "(II)I"⟩) ∈ wA := inA2 118 rfl rfl
theorem k2_120 : (Cond.instanceMethod ⟨"GradingMixes$BandText", "parseBand", "(II)I"⟩) ∈ wA := inA2 120 rfl rfl
theorem kp_1 : (Cond.selects "GradingMixes$BandText" ⟨"GradingMixes$BandText", "parseBand", "(II)I"⟩ ⟨"GradingMixes$BandText", "parseBand", "(II)I"⟩) ∈ wA := inAp 1 rfl rfl
theorem k2_114 : (Cond.methodLink "GradingMixes" 110 ⟨"GradingMixes$BandText", "parse", "(I)I"⟩) ∈ wA := inA2 114 rfl rfl
theorem k2_115 : (Cond.instanceMethod ⟨"GradingMixes$BandText", "parse", "(I)I"⟩) ∈ wA := inA2 115 rfl rfl
theorem k2_116 : (Cond.selects "GradingMixes$BandText" ⟨"GradingMixes$BandText", "parse", "(I)I"⟩ ⟨"GradingMixes$BandText", "parse", "(I)I"⟩) ∈ wA := inA2 116 rfl rfl
theorem k2_132 : (Cond.methodLink "GradingMixes" 114 ⟨"GradingMixes$BandText", "clear", "()V"⟩) ∈ wA := inA2 132 rfl rfl
theorem k2_133 : (Cond.instanceMethod ⟨"GradingMixes$BandText", "clear", "()V"⟩) ∈ wA := inA2 133 rfl rfl
theorem k2_134 : (Cond.selects "GradingMixes$BandText" ⟨"GradingMixes$BandText", "clear", "()V"⟩ ⟨"GradingMixes$BandText", "clear", "()V"⟩) ∈ wA := inA2 134 rfl rfl
theorem k1_176 : (Cond.fieldLink "GradingMixes" 117 "GradingMixes$BandText" "lows" "[I") ∈ wA := inA1 176 rfl rfl
theorem k1_178 : (Cond.fieldLink "GradingMixes" 121 "GradingMixes$BandText" "highs" "[I") ∈ wA := inA1 178 rfl rfl
theorem k1_130 : (Cond.fieldLink "GradingMixes$Search" 50 "GradingMixes$Search" "plant" "LGradingMixes$Plant;") ∈ wA := inA1 130 rfl rfl
theorem k1_27 : (Cond.fieldLink "GradingMixes$Search" 54 "GradingMixes$Plant" "sieves" "I") ∈ wA := inA1 27 rfl rfl
theorem k1_131 : (Cond.fieldLink "GradingMixes$Search" 9 "GradingMixes$Search" "need" "[I") ∈ wA := inA1 131 rfl rfl
theorem k1_40 : (Cond.fieldLink "GradingMixes$Search" 59 "GradingMixes$Plant" "low" "[I") ∈ wA := inA1 40 rfl rfl
theorem k1_132 : (Cond.fieldLink "GradingMixes$Search" 15 "GradingMixes$Search" "allow" "[I") ∈ wA := inA1 132 rfl rfl
theorem k1_43 : (Cond.fieldLink "GradingMixes$Search" 62 "GradingMixes$Plant" "high" "[I") ∈ wA := inA1 43 rfl rfl
theorem k1_134 : (Cond.fieldLink "GradingMixes$Search" 23 "GradingMixes$Search" "lowerBefore" "[[I") ∈ wA := inA1 134 rfl rfl
theorem k1_135 : (Cond.fieldLink "GradingMixes$Search" 26 "GradingMixes$Search" "upperBefore" "[[I") ∈ wA := inA1 135 rfl rfl
theorem k1_59 : (Cond.fieldLink "GradingMixes$Search" 117 "GradingMixes$Plant" "lower" "[[I") ∈ wA := inA1 59 rfl rfl
theorem k1_62 : (Cond.fieldLink "GradingMixes$Search" 120 "GradingMixes$Plant" "upper" "[[I") ∈ wA := inA1 62 rfl rfl
theorem k2_162 : (Cond.methodLink "GradingMixes$Search" 71 ⟨"java/lang/Math", "max", "(II)I"⟩) ∈ wA := inA2 162 rfl rfl
theorem k1_136 : (Cond.fieldLink "GradingMixes$Search" 29 "GradingMixes$Search" "kept" "[Z") ∈ wA := inA1 136 rfl rfl
theorem k1_115 : (Cond.fieldLink "GradingMixes$Mix" 19 "GradingMixes$Mix" "price" "I") ∈ wA := inA1 115 rfl rfl
theorem k1_118 : (Cond.fieldLink "GradingMixes$Mix" 23 "GradingMixes$Mix" "missed" "I") ∈ wA := inA1 118 rfl rfl
theorem k1_108 : (Cond.fieldLink "GradingMixes$Mix" 9 "GradingMixes$Mix" "there" "Z") ∈ wA := inA1 108 rfl rfl
theorem k1_111 : (Cond.fieldLink "GradingMixes$Mix" 15 "GradingMixes$Mix" "shares" "[I") ∈ wA := inA1 111 rfl rfl
theorem k1_142 : (Cond.fieldLink "GradingMixes$Search" 43 "GradingMixes$Search" "mixes" "I") ∈ wA := inA1 142 rfl rfl
theorem k1_144 : (Cond.fieldLink "GradingMixes$Search" 47 "GradingMixes$Search" "keeping" "I") ∈ wA := inA1 144 rfl rfl
theorem k1_138 : (Cond.fieldLink "GradingMixes$Search" 36 "GradingMixes$Search" "best" "LGradingMixes$Mix;") ∈ wA := inA1 138 rfl rfl
theorem k1_109 : (Cond.fieldLink "GradingMixes$Search" 74 "GradingMixes$Mix" "there" "Z") ∈ wA := inA1 109 rfl rfl
theorem k1_133 : (Cond.fieldLink "GradingMixes$Search" 18 "GradingMixes$Search" "shares" "[I") ∈ wA := inA1 133 rfl rfl
theorem k2_167 : (Cond.methodLink "GradingMixes$Search" 125 ⟨"GradingMixes$Mix", "set", "([III)V"⟩) ∈ wA := inA2 167 rfl rfl
theorem k2_168 : (Cond.instanceMethod ⟨"GradingMixes$Mix", "set", "([III)V"⟩) ∈ wA := inA2 168 rfl rfl
theorem k2_169 : (Cond.selects "GradingMixes$Mix" ⟨"GradingMixes$Mix", "set", "([III)V"⟩ ⟨"GradingMixes$Mix", "set", "([III)V"⟩) ∈ wA := inA2 169 rfl rfl
theorem k1_4 : (Cond.initialized "GradingMixes$Mix") ∈ wA := inA1 4 rfl rfl
theorem k1_140 : (Cond.fieldLink "GradingMixes$Search" 40 "GradingMixes$Search" "nearest" "LGradingMixes$Mix;") ∈ wA := inA1 140 rfl rfl
theorem k1_119 : (Cond.fieldLink "GradingMixes$Search" 129 "GradingMixes$Mix" "missed" "I") ∈ wA := inA1 119 rfl rfl
theorem k1_116 : (Cond.fieldLink "GradingMixes$Search" 123 "GradingMixes$Mix" "price" "I") ∈ wA := inA1 116 rfl rfl
theorem k1_32 : (Cond.fieldLink "GradingMixes$Search" 85 "GradingMixes$Plant" "stocks" "I") ∈ wA := inA1 32 rfl rfl
theorem k1_52 : (Cond.fieldLink "GradingMixes$Search" 88 "GradingMixes$Plant" "old" "[Z") ∈ wA := inA1 52 rfl rfl
theorem k1_50 : (Cond.fieldLink "GradingMixes$Search" 91 "GradingMixes$Plant" "most" "[I") ∈ wA := inA1 50 rfl rfl
theorem k2_156 : (Cond.methodLink "GradingMixes$Search" 65 ⟨"java/lang/Math", "min", "(II)I"⟩) ∈ wA := inA2 156 rfl rfl
theorem k1_48 : (Cond.fieldLink "GradingMixes$Search" 94 "GradingMixes$Plant" "least" "[I") ∈ wA := inA1 48 rfl rfl
theorem k1_46 : (Cond.fieldLink "GradingMixes$Search" 101 "GradingMixes$Plant" "price" "[I") ∈ wA := inA1 46 rfl rfl
theorem k2_158 : (Cond.methodLink "GradingMixes$Search" 104 ⟨"GradingMixes$Search", "missOfAll", "(II)I"⟩) ∈ wA := inA2 158 rfl rfl
theorem k2_160 : (Cond.instanceMethod ⟨"GradingMixes$Search", "missOfAll", "(II)I"⟩) ∈ wA := inA2 160 rfl rfl
theorem kp_6 : (Cond.selects "GradingMixes$Search" ⟨"GradingMixes$Search", "missOfAll", "(II)I"⟩ ⟨"GradingMixes$Search", "missOfAll", "(II)I"⟩) ∈ wA := inAp 6 rfl rfl
theorem k1_3 : (Cond.initialized "GradingMixes$Search") ∈ wA := inA1 3 rfl rfl
theorem k2_163 : (Cond.methodLink "GradingMixes$Search" 107 ⟨"GradingMixes$Search", "lookAt", "(II)V"⟩) ∈ wA := inA2 163 rfl rfl
theorem k2_165 : (Cond.instanceMethod ⟨"GradingMixes$Search", "lookAt", "(II)V"⟩) ∈ wA := inA2 165 rfl rfl
theorem kp_7 : (Cond.selects "GradingMixes$Search" ⟨"GradingMixes$Search", "lookAt", "(II)V"⟩ ⟨"GradingMixes$Search", "lookAt", "(II)V"⟩) ∈ wA := inAp 7 rfl rfl
theorem k1_37 : (Cond.fieldLink "GradingMixes$Search" 111 "GradingMixes$Plant" "step" "I") ∈ wA := inA1 37 rfl rfl
theorem k2_171 : (Cond.methodLink "GradingMixes$Search" 114 ⟨"GradingMixes$Search", "putShare", "(II)V"⟩) ∈ wA := inA2 171 rfl rfl
theorem k2_173 : (Cond.instanceMethod ⟨"GradingMixes$Search", "putShare", "(II)V"⟩) ∈ wA := inA2 173 rfl rfl
theorem kp_8 : (Cond.selects "GradingMixes$Search" ⟨"GradingMixes$Search", "putShare", "(II)V"⟩ ⟨"GradingMixes$Search", "putShare", "(II)V"⟩) ∈ wA := inAp 8 rfl rfl
theorem k2_152 : (Cond.methodLink "GradingMixes$Search" 81 ⟨"GradingMixes$Search", "fillFrom", "(IIII)V"⟩) ∈ wA := inA2 152 rfl rfl
theorem k2_154 : (Cond.instanceMethod ⟨"GradingMixes$Search", "fillFrom", "(IIII)V"⟩) ∈ wA := inA2 154 rfl rfl
theorem kp_5 : (Cond.selects "GradingMixes$Search" ⟨"GradingMixes$Search", "fillFrom", "(IIII)V"⟩ ⟨"GradingMixes$Search", "fillFrom", "(IIII)V"⟩) ∈ wA := inAp 5 rfl rfl
theorem k1_34 : (Cond.fieldLink "GradingMixes$Search" 78 "GradingMixes$Plant" "cap" "I") ∈ wA := inA1 34 rfl rfl
theorem k2_9 : (Cond.fieldLink "GradingMixes" 21 "GradingMixes" "search" "LGradingMixes$Search;") ∈ wA := inA2 9 rfl rfl
theorem k2_144 : (Cond.methodLink "GradingMixes" 174 ⟨"GradingMixes$Search", "useBands", "()V"⟩) ∈ wA := inA2 144 rfl rfl
theorem k2_145 : (Cond.instanceMethod ⟨"GradingMixes$Search", "useBands", "()V"⟩) ∈ wA := inA2 145 rfl rfl
theorem k2_146 : (Cond.selects "GradingMixes$Search" ⟨"GradingMixes$Search", "useBands", "()V"⟩ ⟨"GradingMixes$Search", "useBands", "()V"⟩) ∈ wA := inA2 146 rfl rfl
theorem k2_148 : (Cond.methodLink "GradingMixes" 181 ⟨"GradingMixes$Search", "lookAtAll", "()V"⟩) ∈ wA := inA2 148 rfl rfl
theorem k2_149 : (Cond.instanceMethod ⟨"GradingMixes$Search", "lookAtAll", "()V"⟩) ∈ wA := inA2 149 rfl rfl
theorem k2_150 : (Cond.selects "GradingMixes$Search" ⟨"GradingMixes$Search", "lookAtAll", "()V"⟩ ⟨"GradingMixes$Search", "lookAtAll", "()V"⟩) ∈ wA := inA2 150 rfl rfl
theorem k1_114 : (Cond.fieldLink "GradingMixes" 146 "GradingMixes$Mix" "shares" "[I") ∈ wA := inA1 114 rfl rfl
theorem k1_117 : (Cond.fieldLink "GradingMixes" 134 "GradingMixes$Mix" "price" "I") ∈ wA := inA1 117 rfl rfl
theorem k1_120 : (Cond.fieldLink "GradingMixes" 140 "GradingMixes$Mix" "missed" "I") ∈ wA := inA1 120 rfl rfl
theorem k2_179 : (Cond.methodLink "GradingMixes" 229 ⟨"GradingMixes$Mix", "set", "([III)V"⟩) ∈ wA := inA2 179 rfl rfl
theorem k2_140 : (Cond.methodLink "GradingMixes" 124 ⟨"GradingMixes", "searchOnce", "()V"⟩) ∈ wA := inA2 140 rfl rfl
theorem k2_142 : (Cond.instanceMethod ⟨"GradingMixes", "searchOnce", "()V"⟩) ∈ wA := inA2 142 rfl rfl
theorem kp_4 : (Cond.selects "GradingMixes" ⟨"GradingMixes", "searchOnce", "()V"⟩ ⟨"GradingMixes", "searchOnce", "()V"⟩) ∈ wA := inAp 4 rfl rfl
theorem k1_139 : (Cond.fieldLink "GradingMixes" 127 "GradingMixes$Search" "best" "LGradingMixes$Mix;") ∈ wA := inA1 139 rfl rfl
theorem k2_175 : (Cond.methodLink "GradingMixes" 130 ⟨"GradingMixes", "takeInHand", "(LGradingMixes$Mix;)Z"⟩) ∈ wA := inA2 175 rfl rfl
theorem k2_177 : (Cond.instanceMethod ⟨"GradingMixes", "takeInHand", "(LGradingMixes$Mix;)Z"⟩) ∈ wA := inA2 177 rfl rfl
theorem kp_9 : (Cond.selects "GradingMixes" ⟨"GradingMixes", "takeInHand", "(LGradingMixes$Mix;)Z"⟩ ⟨"GradingMixes", "takeInHand", "(LGradingMixes$Mix;)Z"⟩) ∈ wA := inAp 9 rfl rfl
theorem k1_141 : (Cond.fieldLink "GradingMixes" 137 "GradingMixes$Search" "nearest" "LGradingMixes$Mix;") ∈ wA := inA1 141 rfl rfl
theorem k1_113 : (Cond.fieldLink "GradingMixes$Plant" 67 "GradingMixes$Mix" "shares" "[I") ∈ wA := inA1 113 rfl rfl
theorem k2_200 : (Cond.methodLink "GradingMixes$Plant" 72 ⟨"GradingMixes$Plant", "sumAt", "(I[[ILGradingMixes$Mix;)I"⟩) ∈ wA := inA2 200 rfl rfl
theorem k2_193 : (Cond.instanceMethod ⟨"GradingMixes$Plant", "sumAt", "(I[[ILGradingMixes$Mix;)I"⟩) ∈ wA := inA2 193 rfl rfl
theorem k2_194 : (Cond.selects "GradingMixes$Plant" ⟨"GradingMixes$Plant", "sumAt", "(I[[ILGradingMixes$Mix;)I"⟩ ⟨"GradingMixes$Plant", "sumAt", "(I[[ILGradingMixes$Mix;)I"⟩) ∈ wA := inA2 194 rfl rfl
theorem k1_57 : (Cond.fieldLink "GradingMixes" 149 "GradingMixes$Plant" "middle" "[[I") ∈ wA := inA1 57 rfl rfl
theorem k2_192 : (Cond.methodLink "GradingMixes" 153 ⟨"GradingMixes$Plant", "sumAt", "(I[[ILGradingMixes$Mix;)I"⟩) ∈ wA := inA2 192 rfl rfl
theorem k1_60 : (Cond.fieldLink "GradingMixes" 157 "GradingMixes$Plant" "lower" "[[I") ∈ wA := inA1 60 rfl rfl
theorem k1_63 : (Cond.fieldLink "GradingMixes" 160 "GradingMixes$Plant" "upper" "[[I") ∈ wA := inA1 63 rfl rfl
theorem k2_196 : (Cond.methodLink "GradingMixes" 163 ⟨"GradingMixes$Plant", "missAt", "(ILGradingMixes$Mix;)I"⟩) ∈ wA := inA2 196 rfl rfl
theorem k2_197 : (Cond.instanceMethod ⟨"GradingMixes$Plant", "missAt", "(ILGradingMixes$Mix;)I"⟩) ∈ wA := inA2 197 rfl rfl
theorem k2_198 : (Cond.selects "GradingMixes$Plant" ⟨"GradingMixes$Plant", "missAt", "(ILGradingMixes$Mix;)I"⟩ ⟨"GradingMixes$Plant", "missAt", "(ILGradingMixes$Mix;)I"⟩) ∈ wA := inA2 198 rfl rfl
theorem k1_143 : (Cond.fieldLink "GradingMixes" 167 "GradingMixes$Search" "mixes" "I") ∈ wA := inA1 143 rfl rfl
theorem k1_137 : (Cond.fieldLink "GradingMixes" 170 "GradingMixes$Search" "kept" "[Z") ∈ wA := inA1 137 rfl rfl
theorem k2_10 : (Cond.fieldLink "GradingMixes" 25 "GradingMixes" "widerSearch" "LGradingMixes$Search;") ∈ wA := inA2 10 rfl rfl
theorem k2_213 : (Cond.methodLink "GradingMixes" 177 ⟨"GradingMixes$Search", "widen", "(IZI)V"⟩) ∈ wA := inA2 213 rfl rfl
theorem k2_214 : (Cond.instanceMethod ⟨"GradingMixes$Search", "widen", "(IZI)V"⟩) ∈ wA := inA2 214 rfl rfl
theorem k2_215 : (Cond.selects "GradingMixes$Search" ⟨"GradingMixes$Search", "widen", "(IZI)V"⟩ ⟨"GradingMixes$Search", "widen", "(IZI)V"⟩) ∈ wA := inA2 215 rfl rfl
theorem k1_55 : (Cond.fieldLink "GradingMixes" 184 "GradingMixes$Plant" "water" "[I") ∈ wA := inA1 55 rfl rfl
theorem k1_30 : (Cond.fieldLink "GradingMixes$Batch" 22 "GradingMixes$Plant" "stocks" "I") ∈ wA := inA1 30 rfl rfl
theorem k1_201 : (Cond.fieldLink "GradingMixes$Batch" 9 "GradingMixes$Batch" "there" "Z") ∈ wA := inA1 201 rfl rfl
theorem k1_112 : (Cond.fieldLink "GradingMixes$Batch" 28 "GradingMixes$Mix" "shares" "[I") ∈ wA := inA1 112 rfl rfl
theorem k1_203 : (Cond.fieldLink "GradingMixes$Batch" 15 "GradingMixes$Batch" "dry" "[I") ∈ wA := inA1 203 rfl rfl
theorem k1_54 : (Cond.fieldLink "GradingMixes$Batch" 33 "GradingMixes$Plant" "water" "[I") ∈ wA := inA1 54 rfl rfl
theorem k1_205 : (Cond.fieldLink "GradingMixes$Batch" 19 "GradingMixes$Batch" "wet" "[I") ∈ wA := inA1 205 rfl rfl
theorem k2_225 : (Cond.constant "GradingMixes" 187 1000000) ∈ wA := inA2 225 rfl rfl
theorem k2_226 : (Cond.methodLink "GradingMixes" 188 ⟨"GradingMixes$Batch", "fill", "(ILGradingMixes$Mix;LGradingMixes$Plant;)I"⟩) ∈ wA := inA2 226 rfl rfl
theorem k2_227 : (Cond.instanceMethod ⟨"GradingMixes$Batch", "fill", "(ILGradingMixes$Mix;LGradingMixes$Plant;)I"⟩) ∈ wA := inA2 227 rfl rfl
theorem k2_228 : (Cond.selects "GradingMixes$Batch" ⟨"GradingMixes$Batch", "fill", "(ILGradingMixes$Mix;LGradingMixes$Plant;)I"⟩ ⟨"GradingMixes$Batch", "fill", "(ILGradingMixes$Mix;LGradingMixes$Plant;)I"⟩) ∈ wA := inA2 228 rfl rfl
theorem k1_6 : (Cond.initialized "GradingMixes$Batch") ∈ wA := inA1 6 rfl rfl
theorem k1_204 : (Cond.fieldLink "GradingMixes" 196 "GradingMixes$Batch" "dry" "[I") ∈ wA := inA1 204 rfl rfl
theorem k1_206 : (Cond.fieldLink "GradingMixes" 193 "GradingMixes$Batch" "wet" "[I") ∈ wA := inA1 206 rfl rfl
theorem k2_16 : (Cond.fieldLink "GradingMixes" 60 "GradingMixes" "limit" "I") ∈ wA := inA2 16 rfl rfl
theorem k1_224 : (Cond.fieldLink "GradingMixes$TestLog" 21 "GradingMixes$TestLog" "values" "[[I") ∈ wA := inA1 224 rfl rfl
theorem k3_18 : (Cond.methodLink "GradingMixes$TestLog" 36 ⟨"java/lang/Math", "abs", "(I)I"⟩) ∈ wA := inA3 18 rfl rfl
theorem k3_19 : (Cond.static ⟨"java/lang/Math", "abs", "(I)I"⟩) ∈ wA := inA3 19 rfl rfl
theorem k1_41 : (Cond.fieldLink "GradingMixes" 233 "GradingMixes$Plant" "low" "[I") ∈ wA := inA1 41 rfl rfl
theorem k1_44 : (Cond.fieldLink "GradingMixes" 236 "GradingMixes$Plant" "high" "[I") ∈ wA := inA1 44 rfl rfl
theorem k3_14 : (Cond.methodLink "GradingMixes" 242 ⟨"GradingMixes$TestLog", "jumps", "(II)Z"⟩) ∈ wA := inA3 14 rfl rfl
theorem k3_15 : (Cond.instanceMethod ⟨"GradingMixes$TestLog", "jumps", "(II)Z"⟩) ∈ wA := inA3 15 rfl rfl
theorem k3_16 : (Cond.selects "GradingMixes$TestLog" ⟨"GradingMixes$TestLog", "jumps", "(II)Z"⟩ ⟨"GradingMixes$TestLog", "jumps", "(II)Z"⟩) ∈ wA := inA3 16 rfl rfl
theorem k3_10 : (Cond.methodLink "GradingMixes" 239 ⟨"GradingMixes$TestLog", "drifts", "(II)Z"⟩) ∈ wA := inA3 10 rfl rfl
theorem k3_11 : (Cond.instanceMethod ⟨"GradingMixes$TestLog", "drifts", "(II)Z"⟩) ∈ wA := inA3 11 rfl rfl
theorem k3_12 : (Cond.selects "GradingMixes$TestLog" ⟨"GradingMixes$TestLog", "drifts", "(II)Z"⟩ ⟨"GradingMixes$TestLog", "drifts", "(II)Z"⟩) ∈ wA := inA3 12 rfl rfl
theorem k1_227 : (Cond.fieldLink "GradingMixes$TestLog" 27 "GradingMixes$TestLog" "firedSieve" "[I") ∈ wA := inA1 227 rfl rfl
theorem k1_229 : (Cond.fieldLink "GradingMixes$TestLog" 30 "GradingMixes$TestLog" "firedNumber" "[I") ∈ wA := inA1 229 rfl rfl
theorem k1_231 : (Cond.fieldLink "GradingMixes$TestLog" 33 "GradingMixes$TestLog" "firedRule" "[I") ∈ wA := inA1 231 rfl rfl
theorem k1_222 : (Cond.fieldLink "GradingMixes" 199 "GradingMixes$TestLog" "total" "I") ∈ wA := inA1 222 rfl rfl
theorem k3_2 : (Cond.methodLink "GradingMixes" 202 ⟨"GradingMixes$TestLog", "add", "(II)V"⟩) ∈ wA := inA3 2 rfl rfl
theorem k3_3 : (Cond.instanceMethod ⟨"GradingMixes$TestLog", "add", "(II)V"⟩) ∈ wA := inA3 3 rfl rfl
theorem k3_4 : (Cond.selects "GradingMixes$TestLog" ⟨"GradingMixes$TestLog", "add", "(II)V"⟩ ⟨"GradingMixes$TestLog", "add", "(II)V"⟩) ∈ wA := inA3 4 rfl rfl
theorem k3_6 : (Cond.methodLink "GradingMixes" 206 ⟨"GradingMixes", "firstRule", "(II)I"⟩) ∈ wA := inA3 6 rfl rfl
theorem k3_8 : (Cond.instanceMethod ⟨"GradingMixes", "firstRule", "(II)I"⟩) ∈ wA := inA3 8 rfl rfl
theorem kp_10 : (Cond.selects "GradingMixes" ⟨"GradingMixes", "firstRule", "(II)I"⟩ ⟨"GradingMixes", "firstRule", "(II)I"⟩) ∈ wA := inAp 10 rfl rfl
theorem k3_21 : (Cond.methodLink "GradingMixes" 210 ⟨"GradingMixes$TestLog", "addFired", "(II)V"⟩) ∈ wA := inA3 21 rfl rfl
theorem k3_22 : (Cond.instanceMethod ⟨"GradingMixes$TestLog", "addFired", "(II)V"⟩) ∈ wA := inA3 22 rfl rfl
theorem k3_23 : (Cond.selects "GradingMixes$TestLog" ⟨"GradingMixes$TestLog", "addFired", "(II)V"⟩ ⟨"GradingMixes$TestLog", "addFired", "(II)V"⟩) ∈ wA := inA3 23 rfl rfl
theorem k1_226 : (Cond.fieldLink "GradingMixes" 213 "GradingMixes$TestLog" "firedTotal" "I") ∈ wA := inA1 226 rfl rfl
theorem k1_228 : (Cond.fieldLink "GradingMixes" 216 "GradingMixes$TestLog" "firedSieve" "[I") ∈ wA := inA1 228 rfl rfl
theorem k1_230 : (Cond.fieldLink "GradingMixes" 219 "GradingMixes$TestLog" "firedNumber" "[I") ∈ wA := inA1 230 rfl rfl
theorem k1_232 : (Cond.fieldLink "GradingMixes" 222 "GradingMixes$TestLog" "firedRule" "[I") ∈ wA := inA1 232 rfl rfl
theorem k1_145 : (Cond.fieldLink "GradingMixes" 225 "GradingMixes$Search" "keeping" "I") ∈ wA := inA1 145 rfl rfl
theorem k3_39 : (Cond.fieldLink "GradingMixesModel" 87 "GradingMixesModel" "sieves" "I") ∈ wA := inA3 39 rfl rfl
theorem k3_42 : (Cond.fieldLink "GradingMixesModel" 90 "GradingMixesModel" "stocks" "I") ∈ wA := inA3 42 rfl rfl
theorem k3_57 : (Cond.fieldLink "GradingMixesModel" 93 "GradingMixesModel" "has" "Z") ∈ wA := inA3 57 rfl rfl
theorem k3_67 : (Cond.fieldLink "GradingMixesModel" 97 "GradingMixesModel" "batched" "Z") ∈ wA := inA3 67 rfl rfl
theorem k3_71 : (Cond.fieldLink "GradingMixesModel" 100 "GradingMixesModel" "tests" "I") ∈ wA := inA3 71 rfl rfl
theorem k3_155 : (Cond.methodLink "GradingMixesModel" 103 ⟨"GradingMixesModel", "isBand", "(II)Z"⟩) ∈ wA := inA3 155 rfl rfl
theorem k3_156 : (Cond.static ⟨"GradingMixesModel", "isBand", "(II)Z"⟩) ∈ wA := inA3 156 rfl rfl
theorem k1_8 : (Cond.initialized "GradingMixesModel") ∈ wA := inA1 8 rfl rfl
theorem k3_40 : (Cond.fieldLink "GradingMixesModel" 7 "GradingMixesModel" "lows" "[I") ∈ wA := inA3 40 rfl rfl
theorem k3_41 : (Cond.fieldLink "GradingMixesModel" 13 "GradingMixesModel" "highs" "[I") ∈ wA := inA3 41 rfl rfl
theorem k3_158 : (Cond.methodLink "GradingMixesModel" 107 ⟨"GradingMixesModel", "changed", "()V"⟩) ∈ wA := inA3 158 rfl rfl
theorem k3_160 : (Cond.instanceMethod ⟨"GradingMixesModel", "changed", "()V"⟩) ∈ wA := inA3 160 rfl rfl
theorem kp_11 : (Cond.selects "GradingMixesModel" ⟨"GradingMixesModel", "changed", "()V"⟩ ⟨"GradingMixesModel", "changed", "()V"⟩) ∈ wA := inAp 11 rfl rfl
theorem k3_166 : (Cond.methodLink "GradingMixesModel" 110 ⟨"GradingMixesModel", "isSieve", "(I)Z"⟩) ∈ wA := inA3 166 rfl rfl
theorem k3_168 : (Cond.instanceMethod ⟨"GradingMixesModel", "isSieve", "(I)Z"⟩) ∈ wA := inA3 168 rfl rfl
theorem kp_12 : (Cond.selects "GradingMixesModel" ⟨"GradingMixesModel", "isSieve", "(I)Z"⟩ ⟨"GradingMixesModel", "isSieve", "(I)Z"⟩) ∈ wA := inAp 12 rfl rfl
theorem k3_174 : (Cond.constant "GradingMixesModel" 114 100000) ∈ wA := inA3 174 rfl rfl
theorem k3_175 : (Cond.methodLink "GradingMixesModel" 115 ⟨"GradingMixesModel", "within", "(III)Z"⟩) ∈ wA := inA3 175 rfl rfl
theorem k3_176 : (Cond.static ⟨"GradingMixesModel", "within", "(III)Z"⟩) ∈ wA := inA3 176 rfl rfl
theorem k3_43 : (Cond.fieldLink "GradingMixesModel" 16 "GradingMixesModel" "prices" "[I") ∈ wA := inA3 43 rfl rfl
theorem k3_44 : (Cond.fieldLink "GradingMixesModel" 19 "GradingMixesModel" "leasts" "[I") ∈ wA := inA3 44 rfl rfl
theorem k3_45 : (Cond.fieldLink "GradingMixesModel" 22 "GradingMixesModel" "mosts" "[I") ∈ wA := inA3 45 rfl rfl
theorem k3_46 : (Cond.fieldLink "GradingMixesModel" 25 "GradingMixesModel" "olds" "[Z") ∈ wA := inA3 46 rfl rfl
theorem k3_182 : (Cond.methodLink "GradingMixesModel" 119 ⟨"GradingMixesModel", "isStock", "(I)Z"⟩) ∈ wA := inA3 182 rfl rfl
theorem k3_184 : (Cond.instanceMethod ⟨"GradingMixesModel", "isStock", "(I)Z"⟩) ∈ wA := inA3 184 rfl rfl
theorem kp_13 : (Cond.selects "GradingMixesModel" ⟨"GradingMixesModel", "isStock", "(I)Z"⟩ ⟨"GradingMixesModel", "isStock", "(I)Z"⟩) ∈ wA := inAp 13 rfl rfl
theorem k3_48 : (Cond.fieldLink "GradingMixesModel" 32 "GradingMixesModel" "passing" "[I") ∈ wA := inA3 48 rfl rfl
theorem k3_49 : (Cond.fieldLink "GradingMixesModel" 35 "GradingMixesModel" "offs" "[I") ∈ wA := inA3 49 rfl rfl
theorem k3_50 : (Cond.fieldLink "GradingMixesModel" 38 "GradingMixesModel" "cap" "I") ∈ wA := inA3 50 rfl rfl
theorem k3_51 : (Cond.fieldLink "GradingMixesModel" 42 "GradingMixesModel" "step" "I") ∈ wA := inA3 51 rfl rfl
theorem k3_52 : (Cond.fieldLink "GradingMixesModel" 122 "GradingMixesModel" "size" "I") ∈ wA := inA3 52 rfl rfl
theorem k3_53 : (Cond.fieldLink "GradingMixesModel" 45 "GradingMixesModel" "text" "[I") ∈ wA := inA3 53 rfl rfl
theorem k3_54 : (Cond.fieldLink "GradingMixesModel" 125 "GradingMixesModel" "at" "I") ∈ wA := inA3 54 rfl rfl
theorem k3_210 : (Cond.methodLink "GradingMixesModel" 128 ⟨"GradingMixesModel", "isDigit", "()Z"⟩) ∈ wA := inA3 210 rfl rfl
theorem k3_212 : (Cond.instanceMethod ⟨"GradingMixesModel", "isDigit", "()Z"⟩) ∈ wA := inA3 212 rfl rfl
theorem kp_16 : (Cond.selects "GradingMixesModel" ⟨"GradingMixesModel", "isDigit", "()Z"⟩ ⟨"GradingMixesModel", "isDigit", "()Z"⟩) ∈ wA := inAp 16 rfl rfl
theorem k3_206 : (Cond.methodLink "GradingMixesModel" 132 ⟨"GradingMixesModel", "number", "()I"⟩) ∈ wA := inA3 206 rfl rfl
theorem k3_208 : (Cond.instanceMethod ⟨"GradingMixesModel", "number", "()I"⟩) ∈ wA := inA3 208 rfl rfl
theorem kp_15 : (Cond.selects "GradingMixesModel" ⟨"GradingMixesModel", "number", "()I"⟩ ⟨"GradingMixesModel", "number", "()I"⟩) ∈ wA := inAp 15 rfl rfl
theorem k3_214 : (Cond.methodLink "GradingMixesModel" 136 ⟨"GradingMixesModel", "takes", "(I)Z"⟩) ∈ wA := inA3 214 rfl rfl
theorem k3_216 : (Cond.instanceMethod ⟨"GradingMixesModel", "takes", "(I)Z"⟩) ∈ wA := inA3 216 rfl rfl
theorem kp_17 : (Cond.selects "GradingMixesModel" ⟨"GradingMixesModel", "takes", "(I)Z"⟩ ⟨"GradingMixesModel", "takes", "(I)Z"⟩) ∈ wA := inAp 17 rfl rfl
theorem k3_55 : (Cond.fieldLink "GradingMixesModel" 48 "GradingMixesModel" "readLows" "[I") ∈ wA := inA3 55 rfl rfl
theorem k3_56 : (Cond.fieldLink "GradingMixesModel" 51 "GradingMixesModel" "readHighs" "[I") ∈ wA := inA3 56 rfl rfl
theorem k3_202 : (Cond.methodLink "GradingMixesModel" 139 ⟨"GradingMixesModel", "readBands", "()I"⟩) ∈ wA := inA3 202 rfl rfl
theorem k3_204 : (Cond.instanceMethod ⟨"GradingMixesModel", "readBands", "()I"⟩) ∈ wA := inA3 204 rfl rfl
theorem kp_14 : (Cond.selects "GradingMixesModel" ⟨"GradingMixesModel", "readBands", "()I"⟩ ⟨"GradingMixesModel", "readBands", "()I"⟩) ∈ wA := inAp 14 rfl rfl
theorem k4_2 : (Cond.methodLink "GradingMixesModel" 142 ⟨"GradingMixesModel", "lowerPart", "(II)I"⟩) ∈ wA := inA4 2 rfl rfl
theorem k4_4 : (Cond.instanceMethod ⟨"GradingMixesModel", "lowerPart", "(II)I"⟩) ∈ wA := inA4 4 rfl rfl
theorem kp_23 : (Cond.selects "GradingMixesModel" ⟨"GradingMixesModel", "lowerPart", "(II)I"⟩ ⟨"GradingMixesModel", "lowerPart", "(II)I"⟩) ∈ wA := inAp 23 rfl rfl
theorem k4_6 : (Cond.methodLink "GradingMixesModel" 146 ⟨"GradingMixesModel", "upperPart", "(II)I"⟩) ∈ wA := inA4 6 rfl rfl
theorem k4_8 : (Cond.instanceMethod ⟨"GradingMixesModel", "upperPart", "(II)I"⟩) ∈ wA := inA4 8 rfl rfl
theorem kp_24 : (Cond.selects "GradingMixesModel" ⟨"GradingMixesModel", "upperPart", "(II)I"⟩ ⟨"GradingMixesModel", "upperPart", "(II)I"⟩) ∈ wA := inAp 24 rfl rfl
theorem k3_238 : (Cond.methodLink "GradingMixesModel" 149 ⟨"GradingMixesModel", "endOf", "([III)I"⟩) ∈ wA := inA3 238 rfl rfl
theorem k4_0 : (Cond.instanceMethod ⟨"GradingMixesModel", "endOf", "([III)I"⟩) ∈ wA := inA4 0 rfl rfl
theorem kp_22 : (Cond.selects "GradingMixesModel" ⟨"GradingMixesModel", "endOf", "([III)I"⟩ ⟨"GradingMixesModel", "endOf", "([III)I"⟩) ∈ wA := inAp 22 rfl rfl
theorem k3_59 : (Cond.fieldLink "GradingMixesModel" 57 "GradingMixesModel" "now" "[I") ∈ wA := inA3 59 rfl rfl
theorem k3_64 : (Cond.fieldLink "GradingMixesModel" 156 "GradingMixesModel" "mixes" "I") ∈ wA := inA3 64 rfl rfl
theorem k3_65 : (Cond.fieldLink "GradingMixesModel" 159 "GradingMixesModel" "keeping" "I") ∈ wA := inA3 65 rfl rfl
theorem k4_10 : (Cond.methodLink "GradingMixesModel" 173 ⟨"GradingMixesModel", "costOf", "([I)I"⟩) ∈ wA := inA4 10 rfl rfl
theorem k4_12 : (Cond.instanceMethod ⟨"GradingMixesModel", "costOf", "([I)I"⟩) ∈ wA := inA4 12 rfl rfl
theorem kp_25 : (Cond.selects "GradingMixesModel" ⟨"GradingMixesModel", "costOf", "([I)I"⟩ ⟨"GradingMixesModel", "costOf", "([I)I"⟩) ∈ wA := inAp 25 rfl rfl
theorem k3_61 : (Cond.fieldLink "GradingMixesModel" 153 "GradingMixesModel" "found" "Z") ∈ wA := inA3 61 rfl rfl
theorem k3_62 : (Cond.fieldLink "GradingMixesModel" 177 "GradingMixesModel" "bestMiss" "I") ∈ wA := inA3 62 rfl rfl
theorem k3_63 : (Cond.fieldLink "GradingMixesModel" 180 "GradingMixesModel" "bestCost" "I") ∈ wA := inA3 63 rfl rfl
theorem k3_60 : (Cond.fieldLink "GradingMixesModel" 60 "GradingMixesModel" "best" "[I") ∈ wA := inA3 60 rfl rfl
theorem k3_234 : (Cond.methodLink "GradingMixesModel" 169 ⟨"GradingMixesModel", "missOf", "([IIII)I"⟩) ∈ wA := inA3 234 rfl rfl
theorem k3_236 : (Cond.instanceMethod ⟨"GradingMixesModel", "missOf", "([IIII)I"⟩) ∈ wA := inA3 236 rfl rfl
theorem kp_21 : (Cond.selects "GradingMixesModel" ⟨"GradingMixesModel", "missOf", "([IIII)I"⟩ ⟨"GradingMixesModel", "missOf", "([IIII)I"⟩) ∈ wA := inAp 21 rfl rfl
theorem k3_66 : (Cond.fieldLink "GradingMixesModel" 63 "GradingMixesModel" "kept" "[Z") ∈ wA := inA3 66 rfl rfl
theorem k3_226 : (Cond.methodLink "GradingMixesModel" 162 ⟨"GradingMixesModel", "isMix", "()Z"⟩) ∈ wA := inA3 226 rfl rfl
theorem k3_228 : (Cond.instanceMethod ⟨"GradingMixesModel", "isMix", "()Z"⟩) ∈ wA := inA3 228 rfl rfl
theorem kp_19 : (Cond.selects "GradingMixesModel" ⟨"GradingMixesModel", "isMix", "()Z"⟩ ⟨"GradingMixesModel", "isMix", "()Z"⟩) ∈ wA := inAp 19 rfl rfl
theorem k3_230 : (Cond.methodLink "GradingMixesModel" 165 ⟨"GradingMixesModel", "look", "(ZIII)V"⟩) ∈ wA := inA3 230 rfl rfl
theorem k3_232 : (Cond.instanceMethod ⟨"GradingMixesModel", "look", "(ZIII)V"⟩) ∈ wA := inA3 232 rfl rfl
theorem kp_20 : (Cond.selects "GradingMixesModel" ⟨"GradingMixesModel", "look", "(ZIII)V"⟩ ⟨"GradingMixesModel", "look", "(ZIII)V"⟩) ∈ wA := inAp 20 rfl rfl
theorem k3_58 : (Cond.fieldLink "GradingMixesModel" 54 "GradingMixesModel" "shares" "[I") ∈ wA := inA3 58 rfl rfl
theorem k3_222 : (Cond.methodLink "GradingMixesModel" 183 ⟨"GradingMixesModel", "goThrough", "(ZIII)V"⟩) ∈ wA := inA3 222 rfl rfl
theorem k3_224 : (Cond.instanceMethod ⟨"GradingMixesModel", "goThrough", "(ZIII)V"⟩) ∈ wA := inA3 224 rfl rfl
theorem kp_18 : (Cond.selects "GradingMixesModel" ⟨"GradingMixesModel", "goThrough", "(ZIII)V"⟩ ⟨"GradingMixesModel", "goThrough", "(ZIII)V"⟩) ∈ wA := inAp 18 rfl rfl
theorem k4_14 : (Cond.methodLink "GradingMixesModel" 186 ⟨"GradingMixesModel", "take", "()V"⟩) ∈ wA := inA4 14 rfl rfl
theorem k4_16 : (Cond.instanceMethod ⟨"GradingMixesModel", "take", "()V"⟩) ∈ wA := inA4 16 rfl rfl
theorem kp_26 : (Cond.selects "GradingMixesModel" ⟨"GradingMixesModel", "take", "()V"⟩ ⟨"GradingMixesModel", "take", "()V"⟩) ∈ wA := inAp 26 rfl rfl
theorem k3_47 : (Cond.fieldLink "GradingMixesModel" 29 "GradingMixesModel" "waters" "[I") ∈ wA := inA3 47 rfl rfl
theorem k4_50 : (Cond.constant "GradingMixesModel" 189 1000000) ∈ wA := inA4 50 rfl rfl
theorem k4_51 : (Cond.constantLong "GradingMixesModel" 190 100) ∈ wA := inA4 51 rfl rfl
theorem k3_68 : (Cond.fieldLink "GradingMixesModel" 66 "GradingMixesModel" "dry" "[I") ∈ wA := inA3 68 rfl rfl
theorem k4_52 : (Cond.constantLong "GradingMixesModel" 192 1000) ∈ wA := inA4 52 rfl rfl
theorem k3_69 : (Cond.fieldLink "GradingMixesModel" 69 "GradingMixesModel" "wetKilos" "[I") ∈ wA := inA3 69 rfl rfl
theorem k3_70 : (Cond.fieldLink "GradingMixesModel" 72 "GradingMixesModel" "limit" "I") ∈ wA := inA3 70 rfl rfl
theorem k3_72 : (Cond.fieldLink "GradingMixesModel" 75 "GradingMixesModel" "testSieve" "[I") ∈ wA := inA3 72 rfl rfl
theorem k3_73 : (Cond.fieldLink "GradingMixesModel" 78 "GradingMixesModel" "testValue" "[I") ∈ wA := inA3 73 rfl rfl
theorem k3_74 : (Cond.fieldLink "GradingMixesModel" 81 "GradingMixesModel" "testNumber" "[I") ∈ wA := inA3 74 rfl rfl
theorem k3_75 : (Cond.fieldLink "GradingMixesModel" 84 "GradingMixesModel" "testRule" "[I") ∈ wA := inA3 75 rfl rfl
theorem k4_65 : (Cond.methodLink "GradingMixesModel" 194 ⟨"GradingMixesModel", "driftsOff", "(I)Z"⟩) ∈ wA := inA4 65 rfl rfl
theorem k4_67 : (Cond.instanceMethod ⟨"GradingMixesModel", "driftsOff", "(I)Z"⟩) ∈ wA := inA4 67 rfl rfl
theorem kp_27 : (Cond.selects "GradingMixesModel" ⟨"GradingMixesModel", "driftsOff", "(I)Z"⟩ ⟨"GradingMixesModel", "driftsOff", "(I)Z"⟩) ∈ wA := inAp 27 rfl rfl
theorem k1_219 : (Cond.methodLink "GradingMixes$TestLog" 3 ⟨"java/lang/Object", "<init>", "()V"⟩) ∈ wA := inA1 219 rfl rfl
theorem k1_16 : (Cond.instanceMethod ⟨"java/lang/Object", "<init>", "()V"⟩) ∈ wA := inA1 16 rfl rfl
theorem k1_93 : (Cond.arrayClass .int) ∈ wA := inA1 93 rfl rfl
theorem k1_220 : (Cond.classLink "GradingMixes$TestLog" 19 "[[I") ∈ wA := inA1 220 rfl rfl
theorem k1_200 : (Cond.methodLink "GradingMixes$Batch" 3 ⟨"java/lang/Object", "<init>", "()V"⟩) ∈ wA := inA1 200 rfl rfl
theorem k1_107 : (Cond.methodLink "GradingMixes$Mix" 3 ⟨"java/lang/Object", "<init>", "()V"⟩) ∈ wA := inA1 107 rfl rfl
theorem k1_174 : (Cond.methodLink "GradingMixes$BandText" 3 ⟨"java/lang/Object", "<init>", "()V"⟩) ∈ wA := inA1 174 rfl rfl
theorem k1_100 : (Cond.methodLink "GradingMixes$Search" 3 ⟨"java/lang/Object", "<init>", "()V"⟩) ∈ wA := inA1 100 rfl rfl
theorem k1_101 : (Cond.classLink "GradingMixes$Search" 21 "[[I") ∈ wA := inA1 101 rfl rfl
theorem k1_94 : (Cond.arrayClass .boolean) ∈ wA := inA1 94 rfl rfl
theorem k1_102 : (Cond.classLink "GradingMixes$Search" 33 "GradingMixes$Mix") ∈ wA := inA1 102 rfl rfl
theorem k1_103 : (Cond.instantiable "GradingMixes$Mix" 4) ∈ wA := inA1 103 rfl rfl
theorem k1_105 : (Cond.instanceMethod ⟨"GradingMixes$Mix", "<init>", "()V"⟩) ∈ wA := inA1 105 rfl rfl
theorem k1_23 : (Cond.methodLink "GradingMixes$Plant" 3 ⟨"java/lang/Object", "<init>", "()V"⟩) ∈ wA := inA1 23 rfl rfl
theorem k1_33 : (Cond.fieldLink "GradingMixes$Plant" 18 "GradingMixes$Plant" "cap" "I") ∈ wA := inA1 33 rfl rfl
theorem k1_36 : (Cond.fieldLink "GradingMixes$Plant" 21 "GradingMixes$Plant" "step" "I") ∈ wA := inA1 36 rfl rfl
theorem k1_53 : (Cond.fieldLink "GradingMixes$Plant" 44 "GradingMixes$Plant" "water" "[I") ∈ wA := inA1 53 rfl rfl
theorem k1_24 : (Cond.classLink "GradingMixes$Plant" 47 "[[I") ∈ wA := inA1 24 rfl rfl
theorem k1_15 : (Cond.methodLink "GradingMixes" 1 ⟨"java/lang/Object", "<init>", "()V"⟩) ∈ wA := inA1 15 rfl rfl
theorem k1_18 : (Cond.classLink "GradingMixes" 7 "GradingMixes$Plant") ∈ wA := inA1 18 rfl rfl
theorem k1_19 : (Cond.instantiable "GradingMixes$Plant" 14) ∈ wA := inA1 19 rfl rfl
theorem k1_21 : (Cond.instanceMethod ⟨"GradingMixes$Plant", "<init>", "()V"⟩) ∈ wA := inA1 21 rfl rfl
theorem k1_95 : (Cond.classLink "GradingMixes" 16 "GradingMixes$Search") ∈ wA := inA1 95 rfl rfl
theorem k1_96 : (Cond.instantiable "GradingMixes$Search" 11) ∈ wA := inA1 96 rfl rfl
theorem k1_97 : (Cond.methodLink "GradingMixes" 18 ⟨"GradingMixes$Search", "<init>", "(LGradingMixes$Plant;)V"⟩) ∈ wA := inA1 97 rfl rfl
theorem k1_98 : (Cond.instanceMethod ⟨"GradingMixes$Search", "<init>", "(LGradingMixes$Plant;)V"⟩) ∈ wA := inA1 98 rfl rfl
theorem k1_169 : (Cond.classLink "GradingMixes" 28 "GradingMixes$BandText") ∈ wA := inA1 169 rfl rfl
theorem k1_170 : (Cond.instantiable "GradingMixes$BandText" 5) ∈ wA := inA1 170 rfl rfl
theorem k1_172 : (Cond.instanceMethod ⟨"GradingMixes$BandText", "<init>", "()V"⟩) ∈ wA := inA1 172 rfl rfl
theorem k1_193 : (Cond.classLink "GradingMixes" 35 "GradingMixes$Mix") ∈ wA := inA1 193 rfl rfl
theorem k1_195 : (Cond.classLink "GradingMixes" 42 "GradingMixes$Batch") ∈ wA := inA1 195 rfl rfl
theorem k1_196 : (Cond.instantiable "GradingMixes$Batch" 3) ∈ wA := inA1 196 rfl rfl
theorem k1_198 : (Cond.instanceMethod ⟨"GradingMixes$Batch", "<init>", "()V"⟩) ∈ wA := inA1 198 rfl rfl
theorem k1_214 : (Cond.classLink "GradingMixes" 49 "GradingMixes$TestLog") ∈ wA := inA1 214 rfl rfl
theorem k1_215 : (Cond.instantiable "GradingMixes$TestLog" 7) ∈ wA := inA1 215 rfl rfl
theorem k1_217 : (Cond.instanceMethod ⟨"GradingMixes$TestLog", "<init>", "()V"⟩) ∈ wA := inA1 217 rfl rfl
theorem k3_38 : (Cond.methodLink "GradingMixesModel" 1 ⟨"java/lang/Object", "<init>", "()V"⟩) ∈ wA := inA3 38 rfl rfl
theorem k2_36 : (Cond.methodLink "GradingMixesLaw" 13 ⟨"GradingMixes", "sieve", "(II)I"⟩) ∈ wA := inA2 36 rfl rfl
theorem k2_37 : (Cond.instanceMethod ⟨"GradingMixes", "sieve", "(II)I"⟩) ∈ wA := inA2 37 rfl rfl
theorem k2_38 : (Cond.selects "GradingMixes" ⟨"GradingMixes", "sieve", "(II)I"⟩ ⟨"GradingMixes", "sieve", "(II)I"⟩) ∈ wA := inA2 38 rfl rfl
theorem k3_151 : (Cond.methodLink "GradingMixesLaw" 17 ⟨"GradingMixesModel", "sieve", "(II)I"⟩) ∈ wA := inA3 151 rfl rfl
theorem k3_152 : (Cond.instanceMethod ⟨"GradingMixesModel", "sieve", "(II)I"⟩) ∈ wA := inA3 152 rfl rfl
theorem k3_153 : (Cond.selects "GradingMixesModel" ⟨"GradingMixesModel", "sieve", "(II)I"⟩ ⟨"GradingMixesModel", "sieve", "(II)I"⟩) ∈ wA := inA3 153 rfl rfl
theorem k2_55 : (Cond.methodLink "GradingMixesLaw" 18 ⟨"GradingMixes", "band", "(III)Z"⟩) ∈ wA := inA2 55 rfl rfl
theorem k2_56 : (Cond.instanceMethod ⟨"GradingMixes", "band", "(III)Z"⟩) ∈ wA := inA2 56 rfl rfl
theorem k2_57 : (Cond.selects "GradingMixes" ⟨"GradingMixes", "band", "(III)Z"⟩ ⟨"GradingMixes", "band", "(III)Z"⟩) ∈ wA := inA2 57 rfl rfl
theorem k3_162 : (Cond.methodLink "GradingMixesLaw" 22 ⟨"GradingMixesModel", "band", "(III)Z"⟩) ∈ wA := inA3 162 rfl rfl
theorem k3_163 : (Cond.instanceMethod ⟨"GradingMixesModel", "band", "(III)Z"⟩) ∈ wA := inA3 163 rfl rfl
theorem k3_164 : (Cond.selects "GradingMixesModel" ⟨"GradingMixesModel", "band", "(III)Z"⟩ ⟨"GradingMixesModel", "band", "(III)Z"⟩) ∈ wA := inA3 164 rfl rfl
theorem k2_63 : (Cond.methodLink "GradingMixesLaw" 23 ⟨"GradingMixes", "stock", "(IIIZ)I"⟩) ∈ wA := inA2 63 rfl rfl
theorem k2_64 : (Cond.instanceMethod ⟨"GradingMixes", "stock", "(IIIZ)I"⟩) ∈ wA := inA2 64 rfl rfl
theorem k2_65 : (Cond.selects "GradingMixes" ⟨"GradingMixes", "stock", "(IIIZ)I"⟩ ⟨"GradingMixes", "stock", "(IIIZ)I"⟩) ∈ wA := inA2 65 rfl rfl
theorem k3_170 : (Cond.methodLink "GradingMixesLaw" 27 ⟨"GradingMixesModel", "stock", "(IIIZ)I"⟩) ∈ wA := inA3 170 rfl rfl
theorem k3_171 : (Cond.instanceMethod ⟨"GradingMixesModel", "stock", "(IIIZ)I"⟩) ∈ wA := inA3 171 rfl rfl
theorem k3_172 : (Cond.selects "GradingMixesModel" ⟨"GradingMixesModel", "stock", "(IIIZ)I"⟩ ⟨"GradingMixesModel", "stock", "(IIIZ)I"⟩) ∈ wA := inA3 172 rfl rfl
theorem k2_75 : (Cond.methodLink "GradingMixesLaw" 28 ⟨"GradingMixes", "passes", "(IIII)Z"⟩) ∈ wA := inA2 75 rfl rfl
theorem k2_76 : (Cond.instanceMethod ⟨"GradingMixes", "passes", "(IIII)Z"⟩) ∈ wA := inA2 76 rfl rfl
theorem k2_77 : (Cond.selects "GradingMixes" ⟨"GradingMixes", "passes", "(IIII)Z"⟩ ⟨"GradingMixes", "passes", "(IIII)Z"⟩) ∈ wA := inA2 77 rfl rfl
theorem k3_178 : (Cond.methodLink "GradingMixesLaw" 32 ⟨"GradingMixesModel", "passes", "(IIII)Z"⟩) ∈ wA := inA3 178 rfl rfl
theorem k3_179 : (Cond.instanceMethod ⟨"GradingMixesModel", "passes", "(IIII)Z"⟩) ∈ wA := inA3 179 rfl rfl
theorem k3_180 : (Cond.selects "GradingMixesModel" ⟨"GradingMixesModel", "passes", "(IIII)Z"⟩ ⟨"GradingMixesModel", "passes", "(IIII)Z"⟩) ∈ wA := inA3 180 rfl rfl
theorem k2_93 : (Cond.methodLink "GradingMixesLaw" 33 ⟨"GradingMixes", "cap", "(I)I"⟩) ∈ wA := inA2 93 rfl rfl
theorem k2_94 : (Cond.instanceMethod ⟨"GradingMixes", "cap", "(I)I"⟩) ∈ wA := inA2 94 rfl rfl
theorem k2_95 : (Cond.selects "GradingMixes" ⟨"GradingMixes", "cap", "(I)I"⟩ ⟨"GradingMixes", "cap", "(I)I"⟩) ∈ wA := inA2 95 rfl rfl
theorem k3_186 : (Cond.methodLink "GradingMixesLaw" 37 ⟨"GradingMixesModel", "cap", "(I)I"⟩) ∈ wA := inA3 186 rfl rfl
theorem k3_187 : (Cond.instanceMethod ⟨"GradingMixesModel", "cap", "(I)I"⟩) ∈ wA := inA3 187 rfl rfl
theorem k3_188 : (Cond.selects "GradingMixesModel" ⟨"GradingMixesModel", "cap", "(I)I"⟩ ⟨"GradingMixesModel", "cap", "(I)I"⟩) ∈ wA := inA3 188 rfl rfl
theorem k2_97 : (Cond.methodLink "GradingMixesLaw" 38 ⟨"GradingMixes", "step", "(I)I"⟩) ∈ wA := inA2 97 rfl rfl
theorem k2_98 : (Cond.instanceMethod ⟨"GradingMixes", "step", "(I)I"⟩) ∈ wA := inA2 98 rfl rfl
theorem k2_99 : (Cond.selects "GradingMixes" ⟨"GradingMixes", "step", "(I)I"⟩ ⟨"GradingMixes", "step", "(I)I"⟩) ∈ wA := inA2 99 rfl rfl
theorem k3_190 : (Cond.methodLink "GradingMixesLaw" 41 ⟨"GradingMixesModel", "step", "(I)I"⟩) ∈ wA := inA3 190 rfl rfl
theorem k3_191 : (Cond.instanceMethod ⟨"GradingMixesModel", "step", "(I)I"⟩) ∈ wA := inA3 191 rfl rfl
theorem k3_192 : (Cond.selects "GradingMixesModel" ⟨"GradingMixesModel", "step", "(I)I"⟩ ⟨"GradingMixesModel", "step", "(I)I"⟩) ∈ wA := inA3 192 rfl rfl
theorem k2_101 : (Cond.methodLink "GradingMixesLaw" 42 ⟨"GradingMixes", "unit", "(I)Z"⟩) ∈ wA := inA2 101 rfl rfl
theorem k2_102 : (Cond.instanceMethod ⟨"GradingMixes", "unit", "(I)Z"⟩) ∈ wA := inA2 102 rfl rfl
theorem k2_103 : (Cond.selects "GradingMixes" ⟨"GradingMixes", "unit", "(I)Z"⟩ ⟨"GradingMixes", "unit", "(I)Z"⟩) ∈ wA := inA2 103 rfl rfl
theorem k3_194 : (Cond.methodLink "GradingMixesLaw" 46 ⟨"GradingMixesModel", "unit", "(I)Z"⟩) ∈ wA := inA3 194 rfl rfl
theorem k3_195 : (Cond.instanceMethod ⟨"GradingMixesModel", "unit", "(I)Z"⟩) ∈ wA := inA3 195 rfl rfl
theorem k3_196 : (Cond.selects "GradingMixesModel" ⟨"GradingMixesModel", "unit", "(I)Z"⟩ ⟨"GradingMixesModel", "unit", "(I)Z"⟩) ∈ wA := inA3 196 rfl rfl
theorem k2_110 : (Cond.methodLink "GradingMixesLaw" 47 ⟨"GradingMixes", "read", "()I"⟩) ∈ wA := inA2 110 rfl rfl
theorem k2_111 : (Cond.instanceMethod ⟨"GradingMixes", "read", "()I"⟩) ∈ wA := inA2 111 rfl rfl
theorem k2_112 : (Cond.selects "GradingMixes" ⟨"GradingMixes", "read", "()I"⟩ ⟨"GradingMixes", "read", "()I"⟩) ∈ wA := inA2 112 rfl rfl
theorem k3_198 : (Cond.methodLink "GradingMixesLaw" 51 ⟨"GradingMixesModel", "read", "()I"⟩) ∈ wA := inA3 198 rfl rfl
theorem k3_199 : (Cond.instanceMethod ⟨"GradingMixesModel", "read", "()I"⟩) ∈ wA := inA3 199 rfl rfl
theorem k3_200 : (Cond.selects "GradingMixesModel" ⟨"GradingMixesModel", "read", "()I"⟩ ⟨"GradingMixesModel", "read", "()I"⟩) ∈ wA := inA3 200 rfl rfl
theorem k2_136 : (Cond.methodLink "GradingMixesLaw" 52 ⟨"GradingMixes", "run", "()I"⟩) ∈ wA := inA2 136 rfl rfl
theorem k2_137 : (Cond.instanceMethod ⟨"GradingMixes", "run", "()I"⟩) ∈ wA := inA2 137 rfl rfl
theorem k2_138 : (Cond.selects "GradingMixes" ⟨"GradingMixes", "run", "()I"⟩ ⟨"GradingMixes", "run", "()I"⟩) ∈ wA := inA2 138 rfl rfl
theorem k3_218 : (Cond.methodLink "GradingMixesLaw" 55 ⟨"GradingMixesModel", "run", "()I"⟩) ∈ wA := inA3 218 rfl rfl
theorem k3_219 : (Cond.instanceMethod ⟨"GradingMixesModel", "run", "()I"⟩) ∈ wA := inA3 219 rfl rfl
theorem k3_220 : (Cond.selects "GradingMixesModel" ⟨"GradingMixesModel", "run", "()I"⟩ ⟨"GradingMixesModel", "run", "()I"⟩) ∈ wA := inA3 220 rfl rfl
theorem k2_180 : (Cond.methodLink "GradingMixesLaw" 56 ⟨"GradingMixes", "near", "()I"⟩) ∈ wA := inA2 180 rfl rfl
theorem k2_181 : (Cond.instanceMethod ⟨"GradingMixes", "near", "()I"⟩) ∈ wA := inA2 181 rfl rfl
theorem k2_182 : (Cond.selects "GradingMixes" ⟨"GradingMixes", "near", "()I"⟩ ⟨"GradingMixes", "near", "()I"⟩) ∈ wA := inA2 182 rfl rfl
theorem k4_18 : (Cond.methodLink "GradingMixesLaw" 59 ⟨"GradingMixesModel", "near", "()I"⟩) ∈ wA := inA4 18 rfl rfl
theorem k4_19 : (Cond.instanceMethod ⟨"GradingMixesModel", "near", "()I"⟩) ∈ wA := inA4 19 rfl rfl
theorem k4_20 : (Cond.selects "GradingMixesModel" ⟨"GradingMixesModel", "near", "()I"⟩ ⟨"GradingMixesModel", "near", "()I"⟩) ∈ wA := inA4 20 rfl rfl
theorem k2_184 : (Cond.methodLink "GradingMixesLaw" 60 ⟨"GradingMixes", "share", "(I)I"⟩) ∈ wA := inA2 184 rfl rfl
theorem k2_185 : (Cond.instanceMethod ⟨"GradingMixes", "share", "(I)I"⟩) ∈ wA := inA2 185 rfl rfl
theorem k2_186 : (Cond.selects "GradingMixes" ⟨"GradingMixes", "share", "(I)I"⟩ ⟨"GradingMixes", "share", "(I)I"⟩) ∈ wA := inA2 186 rfl rfl
theorem k4_22 : (Cond.methodLink "GradingMixesLaw" 63 ⟨"GradingMixesModel", "share", "(I)I"⟩) ∈ wA := inA4 22 rfl rfl
theorem k4_23 : (Cond.instanceMethod ⟨"GradingMixesModel", "share", "(I)I"⟩) ∈ wA := inA4 23 rfl rfl
theorem k4_24 : (Cond.selects "GradingMixesModel" ⟨"GradingMixesModel", "share", "(I)I"⟩ ⟨"GradingMixesModel", "share", "(I)I"⟩) ∈ wA := inA4 24 rfl rfl
theorem k2_188 : (Cond.methodLink "GradingMixesLaw" 64 ⟨"GradingMixes", "told", "(II)I"⟩) ∈ wA := inA2 188 rfl rfl
theorem k2_189 : (Cond.instanceMethod ⟨"GradingMixes", "told", "(II)I"⟩) ∈ wA := inA2 189 rfl rfl
theorem k2_190 : (Cond.selects "GradingMixes" ⟨"GradingMixes", "told", "(II)I"⟩ ⟨"GradingMixes", "told", "(II)I"⟩) ∈ wA := inA2 190 rfl rfl
theorem k4_26 : (Cond.methodLink "GradingMixesLaw" 67 ⟨"GradingMixesModel", "told", "(II)I"⟩) ∈ wA := inA4 26 rfl rfl
theorem k4_27 : (Cond.instanceMethod ⟨"GradingMixesModel", "told", "(II)I"⟩) ∈ wA := inA4 27 rfl rfl
theorem k4_28 : (Cond.selects "GradingMixesModel" ⟨"GradingMixesModel", "told", "(II)I"⟩ ⟨"GradingMixesModel", "told", "(II)I"⟩) ∈ wA := inA4 28 rfl rfl
theorem k2_201 : (Cond.methodLink "GradingMixesLaw" 68 ⟨"GradingMixes", "cost", "()I"⟩) ∈ wA := inA2 201 rfl rfl
theorem k2_202 : (Cond.instanceMethod ⟨"GradingMixes", "cost", "()I"⟩) ∈ wA := inA2 202 rfl rfl
theorem k2_203 : (Cond.selects "GradingMixes" ⟨"GradingMixes", "cost", "()I"⟩ ⟨"GradingMixes", "cost", "()I"⟩) ∈ wA := inA2 203 rfl rfl
theorem k4_30 : (Cond.methodLink "GradingMixesLaw" 71 ⟨"GradingMixesModel", "cost", "()I"⟩) ∈ wA := inA4 30 rfl rfl
theorem k4_31 : (Cond.instanceMethod ⟨"GradingMixesModel", "cost", "()I"⟩) ∈ wA := inA4 31 rfl rfl
theorem k4_32 : (Cond.selects "GradingMixesModel" ⟨"GradingMixesModel", "cost", "()I"⟩ ⟨"GradingMixesModel", "cost", "()I"⟩) ∈ wA := inA4 32 rfl rfl
theorem k2_205 : (Cond.methodLink "GradingMixesLaw" 72 ⟨"GradingMixes", "lonely", "(I)I"⟩) ∈ wA := inA2 205 rfl rfl
theorem k2_206 : (Cond.instanceMethod ⟨"GradingMixes", "lonely", "(I)I"⟩) ∈ wA := inA2 206 rfl rfl
theorem k2_207 : (Cond.selects "GradingMixes" ⟨"GradingMixes", "lonely", "(I)I"⟩ ⟨"GradingMixes", "lonely", "(I)I"⟩) ∈ wA := inA2 207 rfl rfl
theorem k4_34 : (Cond.methodLink "GradingMixesLaw" 75 ⟨"GradingMixesModel", "lonely", "(I)I"⟩) ∈ wA := inA4 34 rfl rfl
theorem k4_35 : (Cond.instanceMethod ⟨"GradingMixesModel", "lonely", "(I)I"⟩) ∈ wA := inA4 35 rfl rfl
theorem k4_36 : (Cond.selects "GradingMixesModel" ⟨"GradingMixesModel", "lonely", "(I)I"⟩ ⟨"GradingMixesModel", "lonely", "(I)I"⟩) ∈ wA := inA4 36 rfl rfl
theorem k2_209 : (Cond.methodLink "GradingMixesLaw" 76 ⟨"GradingMixes", "worth", "(IZI)I"⟩) ∈ wA := inA2 209 rfl rfl
theorem k2_210 : (Cond.instanceMethod ⟨"GradingMixes", "worth", "(IZI)I"⟩) ∈ wA := inA2 210 rfl rfl
theorem k2_211 : (Cond.selects "GradingMixes" ⟨"GradingMixes", "worth", "(IZI)I"⟩ ⟨"GradingMixes", "worth", "(IZI)I"⟩) ∈ wA := inA2 211 rfl rfl
theorem k4_38 : (Cond.methodLink "GradingMixesLaw" 80 ⟨"GradingMixesModel", "worth", "(IZI)I"⟩) ∈ wA := inA4 38 rfl rfl
theorem k4_39 : (Cond.instanceMethod ⟨"GradingMixesModel", "worth", "(IZI)I"⟩) ∈ wA := inA4 39 rfl rfl
theorem k4_40 : (Cond.selects "GradingMixesModel" ⟨"GradingMixesModel", "worth", "(IZI)I"⟩ ⟨"GradingMixesModel", "worth", "(IZI)I"⟩) ∈ wA := inA4 40 rfl rfl
theorem k2_217 : (Cond.methodLink "GradingMixesLaw" 81 ⟨"GradingMixes", "water", "(II)I"⟩) ∈ wA := inA2 217 rfl rfl
theorem k2_218 : (Cond.instanceMethod ⟨"GradingMixes", "water", "(II)I"⟩) ∈ wA := inA2 218 rfl rfl
theorem k2_219 : (Cond.selects "GradingMixes" ⟨"GradingMixes", "water", "(II)I"⟩ ⟨"GradingMixes", "water", "(II)I"⟩) ∈ wA := inA2 219 rfl rfl
theorem k4_42 : (Cond.methodLink "GradingMixesLaw" 84 ⟨"GradingMixesModel", "water", "(II)I"⟩) ∈ wA := inA4 42 rfl rfl
theorem k4_43 : (Cond.instanceMethod ⟨"GradingMixesModel", "water", "(II)I"⟩) ∈ wA := inA4 43 rfl rfl
theorem k4_44 : (Cond.selects "GradingMixesModel" ⟨"GradingMixesModel", "water", "(II)I"⟩ ⟨"GradingMixesModel", "water", "(II)I"⟩) ∈ wA := inA4 44 rfl rfl
theorem k2_221 : (Cond.methodLink "GradingMixesLaw" 85 ⟨"GradingMixes", "batch", "(I)I"⟩) ∈ wA := inA2 221 rfl rfl
theorem k2_222 : (Cond.instanceMethod ⟨"GradingMixes", "batch", "(I)I"⟩) ∈ wA := inA2 222 rfl rfl
theorem k2_223 : (Cond.selects "GradingMixes" ⟨"GradingMixes", "batch", "(I)I"⟩ ⟨"GradingMixes", "batch", "(I)I"⟩) ∈ wA := inA2 223 rfl rfl
theorem k4_46 : (Cond.methodLink "GradingMixesLaw" 88 ⟨"GradingMixesModel", "batch", "(I)I"⟩) ∈ wA := inA4 46 rfl rfl
theorem k4_47 : (Cond.instanceMethod ⟨"GradingMixesModel", "batch", "(I)I"⟩) ∈ wA := inA4 47 rfl rfl
theorem k4_48 : (Cond.selects "GradingMixesModel" ⟨"GradingMixesModel", "batch", "(I)I"⟩ ⟨"GradingMixesModel", "batch", "(I)I"⟩) ∈ wA := inA4 48 rfl rfl
theorem k2_230 : (Cond.methodLink "GradingMixesLaw" 89 ⟨"GradingMixes", "mass", "(IZ)I"⟩) ∈ wA := inA2 230 rfl rfl
theorem k2_231 : (Cond.instanceMethod ⟨"GradingMixes", "mass", "(IZ)I"⟩) ∈ wA := inA2 231 rfl rfl
theorem k2_232 : (Cond.selects "GradingMixes" ⟨"GradingMixes", "mass", "(IZ)I"⟩ ⟨"GradingMixes", "mass", "(IZ)I"⟩) ∈ wA := inA2 232 rfl rfl
theorem k4_53 : (Cond.methodLink "GradingMixesLaw" 93 ⟨"GradingMixesModel", "mass", "(IZ)I"⟩) ∈ wA := inA4 53 rfl rfl
theorem k4_54 : (Cond.instanceMethod ⟨"GradingMixesModel", "mass", "(IZ)I"⟩) ∈ wA := inA4 54 rfl rfl
theorem k4_55 : (Cond.selects "GradingMixesModel" ⟨"GradingMixesModel", "mass", "(IZ)I"⟩ ⟨"GradingMixesModel", "mass", "(IZ)I"⟩) ∈ wA := inA4 55 rfl rfl
theorem k2_234 : (Cond.methodLink "GradingMixesLaw" 94 ⟨"GradingMixes", "limit", "(I)I"⟩) ∈ wA := inA2 234 rfl rfl
theorem k2_235 : (Cond.instanceMethod ⟨"GradingMixes", "limit", "(I)I"⟩) ∈ wA := inA2 235 rfl rfl
theorem k2_236 : (Cond.selects "GradingMixes" ⟨"GradingMixes", "limit", "(I)I"⟩ ⟨"GradingMixes", "limit", "(I)I"⟩) ∈ wA := inA2 236 rfl rfl
theorem k4_57 : (Cond.methodLink "GradingMixesLaw" 97 ⟨"GradingMixesModel", "limit", "(I)I"⟩) ∈ wA := inA4 57 rfl rfl
theorem k4_58 : (Cond.instanceMethod ⟨"GradingMixesModel", "limit", "(I)I"⟩) ∈ wA := inA4 58 rfl rfl
theorem k4_59 : (Cond.selects "GradingMixesModel" ⟨"GradingMixesModel", "limit", "(I)I"⟩ ⟨"GradingMixesModel", "limit", "(I)I"⟩) ∈ wA := inA4 59 rfl rfl
theorem k2_238 : (Cond.methodLink "GradingMixesLaw" 98 ⟨"GradingMixes", "test", "(II)I"⟩) ∈ wA := inA2 238 rfl rfl
theorem k2_239 : (Cond.instanceMethod ⟨"GradingMixes", "test", "(II)I"⟩) ∈ wA := inA2 239 rfl rfl
theorem k3_0 : (Cond.selects "GradingMixes" ⟨"GradingMixes", "test", "(II)I"⟩ ⟨"GradingMixes", "test", "(II)I"⟩) ∈ wA := inA3 0 rfl rfl
theorem k4_61 : (Cond.methodLink "GradingMixesLaw" 101 ⟨"GradingMixesModel", "test", "(II)I"⟩) ∈ wA := inA4 61 rfl rfl
theorem k4_62 : (Cond.instanceMethod ⟨"GradingMixesModel", "test", "(II)I"⟩) ∈ wA := inA4 62 rfl rfl
theorem k4_63 : (Cond.selects "GradingMixesModel" ⟨"GradingMixesModel", "test", "(II)I"⟩ ⟨"GradingMixesModel", "test", "(II)I"⟩) ∈ wA := inA4 63 rfl rfl
theorem k3_25 : (Cond.methodLink "GradingMixesLaw" 102 ⟨"GradingMixes", "fired", "(II)I"⟩) ∈ wA := inA3 25 rfl rfl
theorem k3_26 : (Cond.instanceMethod ⟨"GradingMixes", "fired", "(II)I"⟩) ∈ wA := inA3 26 rfl rfl
theorem k3_27 : (Cond.selects "GradingMixes" ⟨"GradingMixes", "fired", "(II)I"⟩ ⟨"GradingMixes", "fired", "(II)I"⟩) ∈ wA := inA3 27 rfl rfl
theorem k4_69 : (Cond.methodLink "GradingMixesLaw" 105 ⟨"GradingMixesModel", "fired", "(II)I"⟩) ∈ wA := inA4 69 rfl rfl
theorem k4_70 : (Cond.instanceMethod ⟨"GradingMixesModel", "fired", "(II)I"⟩) ∈ wA := inA4 70 rfl rfl
theorem k4_71 : (Cond.selects "GradingMixesModel" ⟨"GradingMixesModel", "fired", "(II)I"⟩ ⟨"GradingMixesModel", "fired", "(II)I"⟩) ∈ wA := inA4 71 rfl rfl
theorem k3_29 : (Cond.methodLink "GradingMixesLaw" 106 ⟨"GradingMixes", "count", "(I)I"⟩) ∈ wA := inA3 29 rfl rfl
theorem k3_30 : (Cond.instanceMethod ⟨"GradingMixes", "count", "(I)I"⟩) ∈ wA := inA3 30 rfl rfl
theorem k3_31 : (Cond.selects "GradingMixes" ⟨"GradingMixes", "count", "(I)I"⟩ ⟨"GradingMixes", "count", "(I)I"⟩) ∈ wA := inA3 31 rfl rfl
theorem k4_73 : (Cond.methodLink "GradingMixesLaw" 109 ⟨"GradingMixesModel", "count", "(I)I"⟩) ∈ wA := inA4 73 rfl rfl
theorem k4_74 : (Cond.instanceMethod ⟨"GradingMixesModel", "count", "(I)I"⟩) ∈ wA := inA4 74 rfl rfl
theorem k4_75 : (Cond.selects "GradingMixesModel" ⟨"GradingMixesModel", "count", "(I)I"⟩ ⟨"GradingMixesModel", "count", "(I)I"⟩) ∈ wA := inA4 75 rfl rfl
end
section
theorem dG_init_0 : decode bG_init 0 = .ok (.aload_n 0, 1) := by decide +kernel
theorem dG_init_1 : decode bG_init 1 = .ok (.invokespecial 1, 3) := by decide +kernel
theorem dG_init_4 : decode bG_init 4 = .ok (.aload_n 0, 1) := by decide +kernel
theorem dG_init_5 : decode bG_init 5 = .ok (.new 7, 3) := by decide +kernel
theorem dG_init_8 : decode bG_init 8 = .ok (.dup, 1) := by decide +kernel
theorem dG_init_9 : decode bG_init 9 = .ok (.invokespecial 9, 3) := by decide +kernel
theorem dG_init_12 : decode bG_init 12 = .ok (.putfield 10, 3) := by decide +kernel
theorem dG_init_15 : decode bG_init 15 = .ok (.aload_n 0, 1) := by decide +kernel
theorem dG_init_16 : decode bG_init 16 = .ok (.new 16, 3) := by decide +kernel
theorem dG_init_19 : decode bG_init 19 = .ok (.dup, 1) := by decide +kernel
theorem dG_init_20 : decode bG_init 20 = .ok (.aload_n 0, 1) := by decide +kernel
theorem dG_init_21 : decode bG_init 21 = .ok (.getfield 10, 3) := by decide +kernel
theorem dG_init_24 : decode bG_init 24 = .ok (.invokespecial 18, 3) := by decide +kernel
theorem dG_init_27 : decode bG_init 27 = .ok (.putfield 21, 3) := by decide +kernel
theorem dG_init_30 : decode bG_init 30 = .ok (.aload_n 0, 1) := by decide +kernel
theorem dG_init_31 : decode bG_init 31 = .ok (.new 16, 3) := by decide +kernel
theorem dG_init_34 : decode bG_init 34 = .ok (.dup, 1) := by decide +kernel
theorem dG_init_35 : decode bG_init 35 = .ok (.aload_n 0, 1) := by decide +kernel
theorem dG_init_36 : decode bG_init 36 = .ok (.getfield 10, 3) := by decide +kernel
theorem dG_init_39 : decode bG_init 39 = .ok (.invokespecial 18, 3) := by decide +kernel
theorem dG_init_42 : decode bG_init 42 = .ok (.putfield 25, 3) := by decide +kernel
theorem dG_init_45 : decode bG_init 45 = .ok (.aload_n 0, 1) := by decide +kernel
theorem dG_init_46 : decode bG_init 46 = .ok (.new 28, 3) := by decide +kernel
theorem dG_init_49 : decode bG_init 49 = .ok (.dup, 1) := by decide +kernel
theorem dG_init_50 : decode bG_init 50 = .ok (.invokespecial 30, 3) := by decide +kernel
theorem dG_init_53 : decode bG_init 53 = .ok (.putfield 31, 3) := by decide +kernel
theorem dG_init_56 : decode bG_init 56 = .ok (.aload_n 0, 1) := by decide +kernel
theorem dG_init_57 : decode bG_init 57 = .ok (.new 35, 3) := by decide +kernel
theorem dG_init_60 : decode bG_init 60 = .ok (.dup, 1) := by decide +kernel
theorem dG_init_61 : decode bG_init 61 = .ok (.invokespecial 37, 3) := by decide +kernel
theorem dG_init_64 : decode bG_init 64 = .ok (.putfield 38, 3) := by decide +kernel
theorem dG_init_67 : decode bG_init 67 = .ok (.aload_n 0, 1) := by decide +kernel
theorem dG_init_68 : decode bG_init 68 = .ok (.new 42, 3) := by decide +kernel
theorem dG_init_71 : decode bG_init 71 = .ok (.dup, 1) := by decide +kernel
theorem dG_init_72 : decode bG_init 72 = .ok (.invokespecial 44, 3) := by decide +kernel
theorem dG_init_75 : decode bG_init 75 = .ok (.putfield 45, 3) := by decide +kernel
theorem dG_init_78 : decode bG_init 78 = .ok (.aload_n 0, 1) := by decide +kernel
theorem dG_init_79 : decode bG_init 79 = .ok (.new 49, 3) := by decide +kernel
theorem dG_init_82 : decode bG_init 82 = .ok (.dup, 1) := by decide +kernel
theorem dG_init_83 : decode bG_init 83 = .ok (.invokespecial 51, 3) := by decide +kernel
theorem dG_init_86 : decode bG_init 86 = .ok (.putfield 52, 3) := by decide +kernel
theorem dG_init_89 : decode bG_init 89 = .ok (.aload_n 0, 1) := by decide +kernel
theorem dG_init_90 : decode bG_init 90 = .ok (.iconst 0, 1) := by decide +kernel
theorem dG_init_91 : decode bG_init 91 = .ok (.putfield 56, 3) := by decide +kernel
theorem dG_init_94 : decode bG_init 94 = .ok (.aload_n 0, 1) := by decide +kernel
theorem dG_init_95 : decode bG_init 95 = .ok (.bipush 50, 2) := by decide +kernel
theorem dG_init_97 : decode bG_init 97 = .ok (.putfield 60, 3) := by decide +kernel
theorem dG_init_100 : decode bG_init 100 = .ok (.return_, 1) := by decide +kernel
theorem dG_sieve_0 : decode bG_sieve 0 = .ok (.iload_n 1, 1) := by decide +kernel
theorem dG_sieve_1 : decode bG_sieve 1 = .ok (.iload_n 2, 1) := by decide +kernel
theorem dG_sieve_2 : decode bG_sieve 2 = .ok (.invokestatic 64, 3) := by decide +kernel
theorem dG_sieve_5 : decode bG_sieve 5 = .ok (.ifCond .eq 15, 3) := by decide +kernel
theorem dG_sieve_8 : decode bG_sieve 8 = .ok (.aload_n 0, 1) := by decide +kernel
theorem dG_sieve_9 : decode bG_sieve 9 = .ok (.getfield 10, 3) := by decide +kernel
theorem dG_sieve_12 : decode bG_sieve 12 = .ok (.getfield 68, 3) := by decide +kernel
theorem dG_sieve_15 : decode bG_sieve 15 = .ok (.bipush 6, 2) := by decide +kernel
theorem dG_sieve_17 : decode bG_sieve 17 = .ok (.if_icmp .lt 5, 3) := by decide +kernel
theorem dG_sieve_20 : decode bG_sieve 20 = .ok (.iconst (-1), 1) := by decide +kernel
theorem dG_sieve_21 : decode bG_sieve 21 = .ok (.ireturn, 1) := by decide +kernel
theorem dG_sieve_22 : decode bG_sieve 22 = .ok (.aload_n 0, 1) := by decide +kernel
theorem dG_sieve_23 : decode bG_sieve 23 = .ok (.getfield 10, 3) := by decide +kernel
theorem dG_sieve_26 : decode bG_sieve 26 = .ok (.getfield 68, 3) := by decide +kernel
theorem dG_sieve_29 : decode bG_sieve 29 = .ok (.istore_n 3, 1) := by decide +kernel
theorem dG_sieve_30 : decode bG_sieve 30 = .ok (.aload_n 0, 1) := by decide +kernel
theorem dG_sieve_31 : decode bG_sieve 31 = .ok (.getfield 10, 3) := by decide +kernel
theorem dG_sieve_34 : decode bG_sieve 34 = .ok (.dup, 1) := by decide +kernel
theorem dG_sieve_35 : decode bG_sieve 35 = .ok (.getfield 68, 3) := by decide +kernel
theorem dG_sieve_38 : decode bG_sieve 38 = .ok (.iconst 1, 1) := by decide +kernel
theorem dG_sieve_39 : decode bG_sieve 39 = .ok (.iadd, 1) := by decide +kernel
theorem dG_sieve_40 : decode bG_sieve 40 = .ok (.putfield 68, 3) := by decide +kernel
theorem dG_sieve_43 : decode bG_sieve 43 = .ok (.aload_n 0, 1) := by decide +kernel
theorem dG_sieve_44 : decode bG_sieve 44 = .ok (.getfield 10, 3) := by decide +kernel
theorem dG_sieve_47 : decode bG_sieve 47 = .ok (.iload_n 3, 1) := by decide +kernel
theorem dG_sieve_48 : decode bG_sieve 48 = .ok (.iload_n 1, 1) := by decide +kernel
theorem dG_sieve_49 : decode bG_sieve 49 = .ok (.iload_n 2, 1) := by decide +kernel
theorem dG_sieve_50 : decode bG_sieve 50 = .ok (.invokevirtual 71, 3) := by decide +kernel
theorem dG_sieve_53 : decode bG_sieve 53 = .ok (.aload_n 0, 1) := by decide +kernel
theorem dG_sieve_54 : decode bG_sieve 54 = .ok (.invokevirtual 75, 3) := by decide +kernel
theorem dG_sieve_57 : decode bG_sieve 57 = .ok (.iload_n 3, 1) := by decide +kernel
theorem dG_sieve_58 : decode bG_sieve 58 = .ok (.ireturn, 1) := by decide +kernel
theorem dG_band_0 : decode bG_band 0 = .ok (.aload_n 0, 1) := by decide +kernel
theorem dG_band_1 : decode bG_band 1 = .ok (.getfield 10, 3) := by decide +kernel
theorem dG_band_4 : decode bG_band 4 = .ok (.iload_n 1, 1) := by decide +kernel
theorem dG_band_5 : decode bG_band 5 = .ok (.invokevirtual 78, 3) := by decide +kernel
theorem dG_band_8 : decode bG_band 8 = .ok (.ifCond .eq 11, 3) := by decide +kernel
theorem dG_band_11 : decode bG_band 11 = .ok (.iload_n 2, 1) := by decide +kernel
theorem dG_band_12 : decode bG_band 12 = .ok (.iload_n 3, 1) := by decide +kernel
theorem dG_band_13 : decode bG_band 13 = .ok (.invokestatic 64, 3) := by decide +kernel
theorem dG_band_16 : decode bG_band 16 = .ok (.ifCond .ne 5, 3) := by decide +kernel
theorem dG_band_19 : decode bG_band 19 = .ok (.iconst 0, 1) := by decide +kernel
theorem dG_band_20 : decode bG_band 20 = .ok (.ireturn, 1) := by decide +kernel
theorem dG_band_21 : decode bG_band 21 = .ok (.aload_n 0, 1) := by decide +kernel
theorem dG_band_22 : decode bG_band 22 = .ok (.getfield 10, 3) := by decide +kernel
theorem dG_band_25 : decode bG_band 25 = .ok (.iload_n 1, 1) := by decide +kernel
theorem dG_band_26 : decode bG_band 26 = .ok (.iload_n 2, 1) := by decide +kernel
theorem dG_band_27 : decode bG_band 27 = .ok (.iload_n 3, 1) := by decide +kernel
theorem dG_band_28 : decode bG_band 28 = .ok (.invokevirtual 71, 3) := by decide +kernel
theorem dG_band_31 : decode bG_band 31 = .ok (.aload_n 0, 1) := by decide +kernel
theorem dG_band_32 : decode bG_band 32 = .ok (.invokevirtual 75, 3) := by decide +kernel
theorem dG_band_35 : decode bG_band 35 = .ok (.iconst 1, 1) := by decide +kernel
theorem dG_band_36 : decode bG_band 36 = .ok (.ireturn, 1) := by decide +kernel
theorem dG_stock_0 : decode bG_stock 0 = .ok (.iconst 0, 1) := by decide +kernel
theorem dG_stock_1 : decode bG_stock 1 = .ok (.iload_n 2, 1) := by decide +kernel
theorem dG_stock_2 : decode bG_stock 2 = .ok (.if_icmp .gt 18, 3) := by decide +kernel
theorem dG_stock_5 : decode bG_stock 5 = .ok (.iload_n 2, 1) := by decide +kernel
theorem dG_stock_6 : decode bG_stock 6 = .ok (.iload_n 3, 1) := by decide +kernel
theorem dG_stock_7 : decode bG_stock 7 = .ok (.if_icmp .gt 13, 3) := by decide +kernel
theorem dG_stock_10 : decode bG_stock 10 = .ok (.iload_n 3, 1) := by decide +kernel
theorem dG_stock_11 : decode bG_stock 11 = .ok (.bipush 100, 2) := by decide +kernel
theorem dG_stock_13 : decode bG_stock 13 = .ok (.if_icmp .gt 7, 3) := by decide +kernel
theorem dG_stock_16 : decode bG_stock 16 = .ok (.iconst 1, 1) := by decide +kernel
theorem dG_stock_17 : decode bG_stock 17 = .ok (.goto 4, 3) := by decide +kernel
theorem dG_stock_20 : decode bG_stock 20 = .ok (.iconst 0, 1) := by decide +kernel
theorem dG_stock_21 : decode bG_stock 21 = .ok (.istore 5, 2) := by decide +kernel
theorem dG_stock_23 : decode bG_stock 23 = .ok (.iload_n 1, 1) := by decide +kernel
theorem dG_stock_24 : decode bG_stock 24 = .ok (.iconst 0, 1) := by decide +kernel
theorem dG_stock_25 : decode bG_stock 25 = .ok (.ldc 82, 2) := by decide +kernel
theorem dG_stock_27 : decode bG_stock 27 = .ok (.invokestatic 83, 3) := by decide +kernel
theorem dG_stock_30 : decode bG_stock 30 = .ok (.ifCond .eq 19, 3) := by decide +kernel
theorem dG_stock_33 : decode bG_stock 33 = .ok (.iload 5, 2) := by decide +kernel
theorem dG_stock_35 : decode bG_stock 35 = .ok (.ifCond .eq 14, 3) := by decide +kernel
theorem dG_stock_38 : decode bG_stock 38 = .ok (.aload_n 0, 1) := by decide +kernel
theorem dG_stock_39 : decode bG_stock 39 = .ok (.getfield 10, 3) := by decide +kernel
theorem dG_stock_42 : decode bG_stock 42 = .ok (.getfield 87, 3) := by decide +kernel
theorem dG_stock_45 : decode bG_stock 45 = .ok (.iconst 4, 1) := by decide +kernel
theorem dG_stock_46 : decode bG_stock 46 = .ok (.if_icmp .lt 5, 3) := by decide +kernel
theorem dG_stock_49 : decode bG_stock 49 = .ok (.iconst (-1), 1) := by decide +kernel
theorem dG_stock_50 : decode bG_stock 50 = .ok (.ireturn, 1) := by decide +kernel
theorem dG_stock_51 : decode bG_stock 51 = .ok (.aload_n 0, 1) := by decide +kernel
theorem dG_stock_52 : decode bG_stock 52 = .ok (.getfield 10, 3) := by decide +kernel
theorem dG_stock_55 : decode bG_stock 55 = .ok (.getfield 87, 3) := by decide +kernel
theorem dG_stock_58 : decode bG_stock 58 = .ok (.istore 6, 2) := by decide +kernel
theorem dG_stock_60 : decode bG_stock 60 = .ok (.aload_n 0, 1) := by decide +kernel
theorem dG_stock_61 : decode bG_stock 61 = .ok (.getfield 10, 3) := by decide +kernel
theorem dG_stock_64 : decode bG_stock 64 = .ok (.dup, 1) := by decide +kernel
theorem dG_stock_65 : decode bG_stock 65 = .ok (.getfield 87, 3) := by decide +kernel
theorem dG_stock_68 : decode bG_stock 68 = .ok (.iconst 1, 1) := by decide +kernel
theorem dG_stock_69 : decode bG_stock 69 = .ok (.iadd, 1) := by decide +kernel
theorem dG_stock_70 : decode bG_stock 70 = .ok (.putfield 87, 3) := by decide +kernel
theorem dG_stock_73 : decode bG_stock 73 = .ok (.aload_n 0, 1) := by decide +kernel
theorem dG_stock_74 : decode bG_stock 74 = .ok (.getfield 10, 3) := by decide +kernel
theorem dG_stock_77 : decode bG_stock 77 = .ok (.iload 6, 2) := by decide +kernel
theorem dG_stock_79 : decode bG_stock 79 = .ok (.iload_n 1, 1) := by decide +kernel
theorem dG_stock_80 : decode bG_stock 80 = .ok (.iload_n 2, 1) := by decide +kernel
theorem dG_stock_81 : decode bG_stock 81 = .ok (.iload_n 3, 1) := by decide +kernel
theorem dG_stock_82 : decode bG_stock 82 = .ok (.iload 4, 2) := by decide +kernel
theorem dG_stock_84 : decode bG_stock 84 = .ok (.invokevirtual 90, 3) := by decide +kernel
theorem dG_stock_87 : decode bG_stock 87 = .ok (.aload_n 0, 1) := by decide +kernel
theorem dG_stock_88 : decode bG_stock 88 = .ok (.invokevirtual 75, 3) := by decide +kernel
theorem dG_stock_91 : decode bG_stock 91 = .ok (.iload 6, 2) := by decide +kernel
theorem dG_stock_93 : decode bG_stock 93 = .ok (.ireturn, 1) := by decide +kernel
theorem dG_passes_0 : decode bG_passes 0 = .ok (.aload_n 0, 1) := by decide +kernel
theorem dG_passes_1 : decode bG_passes 1 = .ok (.getfield 10, 3) := by decide +kernel
theorem dG_passes_4 : decode bG_passes 4 = .ok (.iload_n 1, 1) := by decide +kernel
theorem dG_passes_5 : decode bG_passes 5 = .ok (.invokevirtual 94, 3) := by decide +kernel
theorem dG_passes_8 : decode bG_passes 8 = .ok (.ifCond .eq 14, 3) := by decide +kernel
theorem dG_passes_11 : decode bG_passes 11 = .ok (.aload_n 0, 1) := by decide +kernel
theorem dG_passes_12 : decode bG_passes 12 = .ok (.getfield 10, 3) := by decide +kernel
theorem dG_passes_15 : decode bG_passes 15 = .ok (.iload_n 2, 1) := by decide +kernel
theorem dG_passes_16 : decode bG_passes 16 = .ok (.invokevirtual 78, 3) := by decide +kernel
theorem dG_passes_19 : decode bG_passes 19 = .ok (.ifCond .ne 5, 3) := by decide +kernel
theorem dG_passes_22 : decode bG_passes 22 = .ok (.iconst 0, 1) := by decide +kernel
theorem dG_passes_23 : decode bG_passes 23 = .ok (.ireturn, 1) := by decide +kernel
theorem dG_passes_24 : decode bG_passes 24 = .ok (.iload_n 3, 1) := by decide +kernel
theorem dG_passes_25 : decode bG_passes 25 = .ok (.iconst 0, 1) := by decide +kernel
theorem dG_passes_26 : decode bG_passes 26 = .ok (.sipush 1000, 3) := by decide +kernel
theorem dG_passes_29 : decode bG_passes 29 = .ok (.invokestatic 83, 3) := by decide +kernel
theorem dG_passes_32 : decode bG_passes 32 = .ok (.ifCond .eq 15, 3) := by decide +kernel
theorem dG_passes_35 : decode bG_passes 35 = .ok (.iload 4, 2) := by decide +kernel
theorem dG_passes_37 : decode bG_passes 37 = .ok (.iconst 0, 1) := by decide +kernel
theorem dG_passes_38 : decode bG_passes 38 = .ok (.sipush 300, 3) := by decide +kernel
theorem dG_passes_41 : decode bG_passes 41 = .ok (.invokestatic 83, 3) := by decide +kernel
theorem dG_passes_44 : decode bG_passes 44 = .ok (.ifCond .ne 5, 3) := by decide +kernel
theorem dG_passes_47 : decode bG_passes 47 = .ok (.iconst 0, 1) := by decide +kernel
theorem dG_passes_48 : decode bG_passes 48 = .ok (.ireturn, 1) := by decide +kernel
theorem dG_passes_49 : decode bG_passes 49 = .ok (.aload_n 0, 1) := by decide +kernel
theorem dG_passes_50 : decode bG_passes 50 = .ok (.getfield 10, 3) := by decide +kernel
theorem dG_passes_53 : decode bG_passes 53 = .ok (.iload_n 1, 1) := by decide +kernel
theorem dG_passes_54 : decode bG_passes 54 = .ok (.iload_n 2, 1) := by decide +kernel
theorem dG_passes_55 : decode bG_passes 55 = .ok (.iload_n 3, 1) := by decide +kernel
theorem dG_passes_56 : decode bG_passes 56 = .ok (.iload 4, 2) := by decide +kernel
theorem dG_passes_58 : decode bG_passes 58 = .ok (.invokevirtual 97, 3) := by decide +kernel
theorem dG_passes_61 : decode bG_passes 61 = .ok (.aload_n 0, 1) := by decide +kernel
theorem dG_passes_62 : decode bG_passes 62 = .ok (.invokevirtual 75, 3) := by decide +kernel
theorem dG_passes_65 : decode bG_passes 65 = .ok (.iconst 1, 1) := by decide +kernel
theorem dG_passes_66 : decode bG_passes 66 = .ok (.ireturn, 1) := by decide +kernel
theorem dG_cap_0 : decode bG_cap 0 = .ok (.iload_n 1, 1) := by decide +kernel
theorem dG_cap_1 : decode bG_cap 1 = .ok (.iconst 0, 1) := by decide +kernel
theorem dG_cap_2 : decode bG_cap 2 = .ok (.bipush 100, 2) := by decide +kernel
theorem dG_cap_4 : decode bG_cap 4 = .ok (.invokestatic 83, 3) := by decide +kernel
theorem dG_cap_7 : decode bG_cap 7 = .ok (.ifCond .ne 5, 3) := by decide +kernel
theorem dG_cap_10 : decode bG_cap 10 = .ok (.iconst (-1), 1) := by decide +kernel
theorem dG_cap_11 : decode bG_cap 11 = .ok (.ireturn, 1) := by decide +kernel
theorem dG_cap_12 : decode bG_cap 12 = .ok (.aload_n 0, 1) := by decide +kernel
theorem dG_cap_13 : decode bG_cap 13 = .ok (.getfield 10, 3) := by decide +kernel
theorem dG_cap_16 : decode bG_cap 16 = .ok (.getfield 101, 3) := by decide +kernel
theorem dG_cap_19 : decode bG_cap 19 = .ok (.istore_n 2, 1) := by decide +kernel
theorem dG_cap_20 : decode bG_cap 20 = .ok (.aload_n 0, 1) := by decide +kernel
theorem dG_cap_21 : decode bG_cap 21 = .ok (.getfield 10, 3) := by decide +kernel
theorem dG_cap_24 : decode bG_cap 24 = .ok (.iload_n 1, 1) := by decide +kernel
theorem dG_cap_25 : decode bG_cap 25 = .ok (.putfield 101, 3) := by decide +kernel
theorem dG_cap_28 : decode bG_cap 28 = .ok (.aload_n 0, 1) := by decide +kernel
theorem dG_cap_29 : decode bG_cap 29 = .ok (.invokevirtual 75, 3) := by decide +kernel
theorem dG_cap_32 : decode bG_cap 32 = .ok (.iload_n 2, 1) := by decide +kernel
theorem dG_cap_33 : decode bG_cap 33 = .ok (.ireturn, 1) := by decide +kernel
theorem dG_step_0 : decode bG_step 0 = .ok (.iload_n 1, 1) := by decide +kernel
theorem dG_step_1 : decode bG_step 1 = .ok (.iconst 1, 1) := by decide +kernel
theorem dG_step_2 : decode bG_step 2 = .ok (.if_icmp .lt 10, 3) := by decide +kernel
theorem dG_step_5 : decode bG_step 5 = .ok (.bipush 100, 2) := by decide +kernel
theorem dG_step_7 : decode bG_step 7 = .ok (.iload_n 1, 1) := by decide +kernel
theorem dG_step_8 : decode bG_step 8 = .ok (.irem, 1) := by decide +kernel
theorem dG_step_9 : decode bG_step 9 = .ok (.ifCond .eq 5, 3) := by decide +kernel
theorem dG_step_12 : decode bG_step 12 = .ok (.iconst (-1), 1) := by decide +kernel
theorem dG_step_13 : decode bG_step 13 = .ok (.ireturn, 1) := by decide +kernel
theorem dG_step_14 : decode bG_step 14 = .ok (.aload_n 0, 1) := by decide +kernel
theorem dG_step_15 : decode bG_step 15 = .ok (.getfield 10, 3) := by decide +kernel
theorem dG_step_18 : decode bG_step 18 = .ok (.getfield 104, 3) := by decide +kernel
theorem dG_step_21 : decode bG_step 21 = .ok (.istore_n 2, 1) := by decide +kernel
theorem dG_step_22 : decode bG_step 22 = .ok (.aload_n 0, 1) := by decide +kernel
theorem dG_step_23 : decode bG_step 23 = .ok (.getfield 10, 3) := by decide +kernel
theorem dG_step_26 : decode bG_step 26 = .ok (.iload_n 1, 1) := by decide +kernel
theorem dG_step_27 : decode bG_step 27 = .ok (.putfield 104, 3) := by decide +kernel
theorem dG_step_30 : decode bG_step 30 = .ok (.aload_n 0, 1) := by decide +kernel
theorem dG_step_31 : decode bG_step 31 = .ok (.invokevirtual 75, 3) := by decide +kernel
theorem dG_step_34 : decode bG_step 34 = .ok (.iload_n 2, 1) := by decide +kernel
theorem dG_step_35 : decode bG_step 35 = .ok (.ireturn, 1) := by decide +kernel
theorem dG_unit_0 : decode bG_unit 0 = .ok (.aload_n 0, 1) := by decide +kernel
theorem dG_unit_1 : decode bG_unit 1 = .ok (.getfield 31, 3) := by decide +kernel
theorem dG_unit_4 : decode bG_unit 4 = .ok (.iload_n 1, 1) := by decide +kernel
theorem dG_unit_5 : decode bG_unit 5 = .ok (.invokevirtual 107, 3) := by decide +kernel
theorem dG_unit_8 : decode bG_unit 8 = .ok (.ireturn, 1) := by decide +kernel
theorem dG_read_0 : decode bG_read 0 = .ok (.aload_n 0, 1) := by decide +kernel
theorem dG_read_1 : decode bG_read 1 = .ok (.getfield 31, 3) := by decide +kernel
theorem dG_read_4 : decode bG_read 4 = .ok (.aload_n 0, 1) := by decide +kernel
theorem dG_read_5 : decode bG_read 5 = .ok (.getfield 10, 3) := by decide +kernel
theorem dG_read_8 : decode bG_read 8 = .ok (.getfield 68, 3) := by decide +kernel
theorem dG_read_11 : decode bG_read 11 = .ok (.invokevirtual 110, 3) := by decide +kernel
theorem dG_read_14 : decode bG_read 14 = .ok (.istore_n 1, 1) := by decide +kernel
theorem dG_read_15 : decode bG_read 15 = .ok (.aload_n 0, 1) := by decide +kernel
theorem dG_read_16 : decode bG_read 16 = .ok (.getfield 31, 3) := by decide +kernel
theorem dG_read_19 : decode bG_read 19 = .ok (.invokevirtual 114, 3) := by decide +kernel
theorem dG_read_22 : decode bG_read 22 = .ok (.iload_n 1, 1) := by decide +kernel
theorem dG_read_23 : decode bG_read 23 = .ok (.ifCond .ge 5, 3) := by decide +kernel
theorem dG_read_26 : decode bG_read 26 = .ok (.iload_n 1, 1) := by decide +kernel
theorem dG_read_27 : decode bG_read 27 = .ok (.ireturn, 1) := by decide +kernel
theorem dG_read_28 : decode bG_read 28 = .ok (.iconst 0, 1) := by decide +kernel
theorem dG_read_29 : decode bG_read 29 = .ok (.istore_n 2, 1) := by decide +kernel
theorem dG_read_30 : decode bG_read 30 = .ok (.iload_n 2, 1) := by decide +kernel
theorem dG_read_31 : decode bG_read 31 = .ok (.iload_n 1, 1) := by decide +kernel
theorem dG_read_32 : decode bG_read 32 = .ok (.if_icmp .ge 41, 3) := by decide +kernel
theorem dG_read_35 : decode bG_read 35 = .ok (.iload_n 2, 1) := by decide +kernel
theorem dG_read_36 : decode bG_read 36 = .ok (.bipush 6, 2) := by decide +kernel
theorem dG_read_38 : decode bG_read 38 = .ok (.if_icmp .ge 35, 3) := by decide +kernel
theorem dG_read_41 : decode bG_read 41 = .ok (.aload_n 0, 1) := by decide +kernel
theorem dG_read_42 : decode bG_read 42 = .ok (.getfield 10, 3) := by decide +kernel
theorem dG_read_45 : decode bG_read 45 = .ok (.iload_n 2, 1) := by decide +kernel
theorem dG_read_46 : decode bG_read 46 = .ok (.aload_n 0, 1) := by decide +kernel
theorem dG_read_47 : decode bG_read 47 = .ok (.getfield 31, 3) := by decide +kernel
theorem dG_read_50 : decode bG_read 50 = .ok (.getfield 117, 3) := by decide +kernel
theorem dG_read_53 : decode bG_read 53 = .ok (.iload_n 2, 1) := by decide +kernel
theorem dG_read_54 : decode bG_read 54 = .ok (.iaload, 1) := by decide +kernel
theorem dG_read_55 : decode bG_read 55 = .ok (.aload_n 0, 1) := by decide +kernel
theorem dG_read_56 : decode bG_read 56 = .ok (.getfield 31, 3) := by decide +kernel
theorem dG_read_59 : decode bG_read 59 = .ok (.getfield 121, 3) := by decide +kernel
theorem dG_read_62 : decode bG_read 62 = .ok (.iload_n 2, 1) := by decide +kernel
theorem dG_read_63 : decode bG_read 63 = .ok (.iaload, 1) := by decide +kernel
theorem dG_read_64 : decode bG_read 64 = .ok (.invokevirtual 71, 3) := by decide +kernel
theorem dG_read_67 : decode bG_read 67 = .ok (.iinc 2 1, 3) := by decide +kernel
theorem dG_read_70 : decode bG_read 70 = .ok (.goto (-40), 3) := by decide +kernel
theorem dG_read_73 : decode bG_read 73 = .ok (.aload_n 0, 1) := by decide +kernel
theorem dG_read_74 : decode bG_read 74 = .ok (.invokevirtual 75, 3) := by decide +kernel
theorem dG_read_77 : decode bG_read 77 = .ok (.iload_n 1, 1) := by decide +kernel
theorem dG_read_78 : decode bG_read 78 = .ok (.ireturn, 1) := by decide +kernel
theorem dG_run_0 : decode bG_run 0 = .ok (.aload_n 0, 1) := by decide +kernel
theorem dG_run_1 : decode bG_run 1 = .ok (.invokevirtual 124, 3) := by decide +kernel
theorem dG_run_4 : decode bG_run 4 = .ok (.aload_n 0, 1) := by decide +kernel
theorem dG_run_5 : decode bG_run 5 = .ok (.aload_n 0, 1) := by decide +kernel
theorem dG_run_6 : decode bG_run 6 = .ok (.getfield 21, 3) := by decide +kernel
theorem dG_run_9 : decode bG_run 9 = .ok (.getfield 127, 3) := by decide +kernel
theorem dG_run_12 : decode bG_run 12 = .ok (.invokevirtual 130, 3) := by decide +kernel
theorem dG_run_15 : decode bG_run 15 = .ok (.ifCond .eq 13, 3) := by decide +kernel
theorem dG_run_18 : decode bG_run 18 = .ok (.aload_n 0, 1) := by decide +kernel
theorem dG_run_19 : decode bG_run 19 = .ok (.getfield 38, 3) := by decide +kernel
theorem dG_run_22 : decode bG_run 22 = .ok (.getfield 134, 3) := by decide +kernel
theorem dG_run_25 : decode bG_run 25 = .ok (.goto 4, 3) := by decide +kernel
theorem dG_run_28 : decode bG_run 28 = .ok (.iconst (-1), 1) := by decide +kernel
theorem dG_run_29 : decode bG_run 29 = .ok (.ireturn, 1) := by decide +kernel
theorem dG_near_0 : decode bG_near 0 = .ok (.aload_n 0, 1) := by decide +kernel
theorem dG_near_1 : decode bG_near 1 = .ok (.invokevirtual 124, 3) := by decide +kernel
theorem dG_near_4 : decode bG_near 4 = .ok (.aload_n 0, 1) := by decide +kernel
theorem dG_near_5 : decode bG_near 5 = .ok (.aload_n 0, 1) := by decide +kernel
theorem dG_near_6 : decode bG_near 6 = .ok (.getfield 21, 3) := by decide +kernel
theorem dG_near_9 : decode bG_near 9 = .ok (.getfield 137, 3) := by decide +kernel
theorem dG_near_12 : decode bG_near 12 = .ok (.invokevirtual 130, 3) := by decide +kernel
theorem dG_near_15 : decode bG_near 15 = .ok (.ifCond .eq 13, 3) := by decide +kernel
theorem dG_near_18 : decode bG_near 18 = .ok (.aload_n 0, 1) := by decide +kernel
theorem dG_near_19 : decode bG_near 19 = .ok (.getfield 38, 3) := by decide +kernel
theorem dG_near_22 : decode bG_near 22 = .ok (.getfield 140, 3) := by decide +kernel
theorem dG_near_25 : decode bG_near 25 = .ok (.goto 4, 3) := by decide +kernel
theorem dG_near_28 : decode bG_near 28 = .ok (.iconst (-1), 1) := by decide +kernel
theorem dG_near_29 : decode bG_near 29 = .ok (.ireturn, 1) := by decide +kernel
theorem dG_share_0 : decode bG_share 0 = .ok (.aload_n 0, 1) := by decide +kernel
theorem dG_share_1 : decode bG_share 1 = .ok (.getfield 38, 3) := by decide +kernel
theorem dG_share_4 : decode bG_share 4 = .ok (.getfield 143, 3) := by decide +kernel
theorem dG_share_7 : decode bG_share 7 = .ok (.ifCond .eq 14, 3) := by decide +kernel
theorem dG_share_10 : decode bG_share 10 = .ok (.aload_n 0, 1) := by decide +kernel
theorem dG_share_11 : decode bG_share 11 = .ok (.getfield 10, 3) := by decide +kernel
theorem dG_share_14 : decode bG_share 14 = .ok (.iload_n 1, 1) := by decide +kernel
theorem dG_share_15 : decode bG_share 15 = .ok (.invokevirtual 94, 3) := by decide +kernel
theorem dG_share_18 : decode bG_share 18 = .ok (.ifCond .ne 5, 3) := by decide +kernel
theorem dG_share_21 : decode bG_share 21 = .ok (.iconst (-1), 1) := by decide +kernel
theorem dG_share_22 : decode bG_share 22 = .ok (.ireturn, 1) := by decide +kernel
theorem dG_share_23 : decode bG_share 23 = .ok (.aload_n 0, 1) := by decide +kernel
theorem dG_share_24 : decode bG_share 24 = .ok (.getfield 38, 3) := by decide +kernel
theorem dG_share_27 : decode bG_share 27 = .ok (.getfield 146, 3) := by decide +kernel
theorem dG_share_30 : decode bG_share 30 = .ok (.iload_n 1, 1) := by decide +kernel
theorem dG_share_31 : decode bG_share 31 = .ok (.iaload, 1) := by decide +kernel
theorem dG_share_32 : decode bG_share 32 = .ok (.ireturn, 1) := by decide +kernel
theorem dG_told_0 : decode bG_told 0 = .ok (.aload_n 0, 1) := by decide +kernel
theorem dG_told_1 : decode bG_told 1 = .ok (.getfield 38, 3) := by decide +kernel
theorem dG_told_4 : decode bG_told 4 = .ok (.getfield 143, 3) := by decide +kernel
theorem dG_told_7 : decode bG_told 7 = .ok (.ifCond .eq 14, 3) := by decide +kernel
theorem dG_told_10 : decode bG_told 10 = .ok (.aload_n 0, 1) := by decide +kernel
theorem dG_told_11 : decode bG_told 11 = .ok (.getfield 10, 3) := by decide +kernel
theorem dG_told_14 : decode bG_told 14 = .ok (.iload_n 1, 1) := by decide +kernel
theorem dG_told_15 : decode bG_told 15 = .ok (.invokevirtual 78, 3) := by decide +kernel
theorem dG_told_18 : decode bG_told 18 = .ok (.ifCond .ne 5, 3) := by decide +kernel
theorem dG_told_21 : decode bG_told 21 = .ok (.iconst (-1), 1) := by decide +kernel
theorem dG_told_22 : decode bG_told 22 = .ok (.ireturn, 1) := by decide +kernel
theorem dG_told_23 : decode bG_told 23 = .ok (.iload_n 2, 1) := by decide +kernel
theorem dG_told_24 : decode bG_told 24 = .ok (.tableswitch 105 0 3 #[32, 52, 72, 92], 32) := by decide +kernel
theorem dG_told_56 : decode bG_told 56 = .ok (.aload_n 0, 1) := by decide +kernel
theorem dG_told_57 : decode bG_told 57 = .ok (.getfield 10, 3) := by decide +kernel
theorem dG_told_60 : decode bG_told 60 = .ok (.iload_n 1, 1) := by decide +kernel
theorem dG_told_61 : decode bG_told 61 = .ok (.aload_n 0, 1) := by decide +kernel
theorem dG_told_62 : decode bG_told 62 = .ok (.getfield 10, 3) := by decide +kernel
theorem dG_told_65 : decode bG_told 65 = .ok (.getfield 149, 3) := by decide +kernel
theorem dG_told_68 : decode bG_told 68 = .ok (.aload_n 0, 1) := by decide +kernel
theorem dG_told_69 : decode bG_told 69 = .ok (.getfield 38, 3) := by decide +kernel
theorem dG_told_72 : decode bG_told 72 = .ok (.invokevirtual 153, 3) := by decide +kernel
theorem dG_told_75 : decode bG_told 75 = .ok (.ireturn, 1) := by decide +kernel
theorem dG_told_76 : decode bG_told 76 = .ok (.aload_n 0, 1) := by decide +kernel
theorem dG_told_77 : decode bG_told 77 = .ok (.getfield 10, 3) := by decide +kernel
theorem dG_told_80 : decode bG_told 80 = .ok (.iload_n 1, 1) := by decide +kernel
theorem dG_told_81 : decode bG_told 81 = .ok (.aload_n 0, 1) := by decide +kernel
theorem dG_told_82 : decode bG_told 82 = .ok (.getfield 10, 3) := by decide +kernel
theorem dG_told_85 : decode bG_told 85 = .ok (.getfield 157, 3) := by decide +kernel
theorem dG_told_88 : decode bG_told 88 = .ok (.aload_n 0, 1) := by decide +kernel
theorem dG_told_89 : decode bG_told 89 = .ok (.getfield 38, 3) := by decide +kernel
theorem dG_told_92 : decode bG_told 92 = .ok (.invokevirtual 153, 3) := by decide +kernel
theorem dG_told_95 : decode bG_told 95 = .ok (.ireturn, 1) := by decide +kernel
theorem dG_told_96 : decode bG_told 96 = .ok (.aload_n 0, 1) := by decide +kernel
theorem dG_told_97 : decode bG_told 97 = .ok (.getfield 10, 3) := by decide +kernel
theorem dG_told_100 : decode bG_told 100 = .ok (.iload_n 1, 1) := by decide +kernel
theorem dG_told_101 : decode bG_told 101 = .ok (.aload_n 0, 1) := by decide +kernel
theorem dG_told_102 : decode bG_told 102 = .ok (.getfield 10, 3) := by decide +kernel
theorem dG_told_105 : decode bG_told 105 = .ok (.getfield 160, 3) := by decide +kernel
theorem dG_told_108 : decode bG_told 108 = .ok (.aload_n 0, 1) := by decide +kernel
theorem dG_told_109 : decode bG_told 109 = .ok (.getfield 38, 3) := by decide +kernel
theorem dG_told_112 : decode bG_told 112 = .ok (.invokevirtual 153, 3) := by decide +kernel
theorem dG_told_115 : decode bG_told 115 = .ok (.ireturn, 1) := by decide +kernel
theorem dG_told_116 : decode bG_told 116 = .ok (.aload_n 0, 1) := by decide +kernel
theorem dG_told_117 : decode bG_told 117 = .ok (.getfield 10, 3) := by decide +kernel
theorem dG_told_120 : decode bG_told 120 = .ok (.iload_n 1, 1) := by decide +kernel
theorem dG_told_121 : decode bG_told 121 = .ok (.aload_n 0, 1) := by decide +kernel
theorem dG_told_122 : decode bG_told 122 = .ok (.getfield 38, 3) := by decide +kernel
theorem dG_told_125 : decode bG_told 125 = .ok (.invokevirtual 163, 3) := by decide +kernel
theorem dG_told_128 : decode bG_told 128 = .ok (.ireturn, 1) := by decide +kernel
theorem dG_told_129 : decode bG_told 129 = .ok (.iconst (-1), 1) := by decide +kernel
theorem dG_told_130 : decode bG_told 130 = .ok (.ireturn, 1) := by decide +kernel
theorem dG_cost_0 : decode bG_cost 0 = .ok (.aload_n 0, 1) := by decide +kernel
theorem dG_cost_1 : decode bG_cost 1 = .ok (.getfield 38, 3) := by decide +kernel
theorem dG_cost_4 : decode bG_cost 4 = .ok (.getfield 143, 3) := by decide +kernel
theorem dG_cost_7 : decode bG_cost 7 = .ok (.ifCond .eq 13, 3) := by decide +kernel
theorem dG_cost_10 : decode bG_cost 10 = .ok (.aload_n 0, 1) := by decide +kernel
theorem dG_cost_11 : decode bG_cost 11 = .ok (.getfield 38, 3) := by decide +kernel
theorem dG_cost_14 : decode bG_cost 14 = .ok (.getfield 134, 3) := by decide +kernel
theorem dG_cost_17 : decode bG_cost 17 = .ok (.goto 4, 3) := by decide +kernel
theorem dG_cost_20 : decode bG_cost 20 = .ok (.iconst (-1), 1) := by decide +kernel
theorem dG_cost_21 : decode bG_cost 21 = .ok (.ireturn, 1) := by decide +kernel
theorem dG_lonely_0 : decode bG_lonely 0 = .ok (.aload_n 0, 1) := by decide +kernel
theorem dG_lonely_1 : decode bG_lonely 1 = .ok (.invokevirtual 124, 3) := by decide +kernel
theorem dG_lonely_4 : decode bG_lonely 4 = .ok (.aload_n 0, 1) := by decide +kernel
theorem dG_lonely_5 : decode bG_lonely 5 = .ok (.getfield 21, 3) := by decide +kernel
theorem dG_lonely_8 : decode bG_lonely 8 = .ok (.getfield 167, 3) := by decide +kernel
theorem dG_lonely_11 : decode bG_lonely 11 = .ok (.ifCond .ne 5, 3) := by decide +kernel
theorem dG_lonely_14 : decode bG_lonely 14 = .ok (.iconst (-1), 1) := by decide +kernel
theorem dG_lonely_15 : decode bG_lonely 15 = .ok (.ireturn, 1) := by decide +kernel
theorem dG_lonely_16 : decode bG_lonely 16 = .ok (.iconst 0, 1) := by decide +kernel
theorem dG_lonely_17 : decode bG_lonely 17 = .ok (.istore_n 2, 1) := by decide +kernel
theorem dG_lonely_18 : decode bG_lonely 18 = .ok (.iconst 0, 1) := by decide +kernel
theorem dG_lonely_19 : decode bG_lonely 19 = .ok (.istore_n 3, 1) := by decide +kernel
theorem dG_lonely_20 : decode bG_lonely 20 = .ok (.iload_n 3, 1) := by decide +kernel
theorem dG_lonely_21 : decode bG_lonely 21 = .ok (.aload_n 0, 1) := by decide +kernel
theorem dG_lonely_22 : decode bG_lonely 22 = .ok (.getfield 10, 3) := by decide +kernel
theorem dG_lonely_25 : decode bG_lonely 25 = .ok (.getfield 68, 3) := by decide +kernel
theorem dG_lonely_28 : decode bG_lonely 28 = .ok (.if_icmp .ge 31, 3) := by decide +kernel
theorem dG_lonely_31 : decode bG_lonely 31 = .ok (.aload_n 0, 1) := by decide +kernel
theorem dG_lonely_32 : decode bG_lonely 32 = .ok (.getfield 21, 3) := by decide +kernel
theorem dG_lonely_35 : decode bG_lonely 35 = .ok (.getfield 170, 3) := by decide +kernel
theorem dG_lonely_38 : decode bG_lonely 38 = .ok (.iload_n 3, 1) := by decide +kernel
theorem dG_lonely_39 : decode bG_lonely 39 = .ok (.baload, 1) := by decide +kernel
theorem dG_lonely_40 : decode bG_lonely 40 = .ok (.ifCond .ne 13, 3) := by decide +kernel
theorem dG_lonely_43 : decode bG_lonely 43 = .ok (.iload_n 2, 1) := by decide +kernel
theorem dG_lonely_44 : decode bG_lonely 44 = .ok (.iload_n 1, 1) := by decide +kernel
theorem dG_lonely_45 : decode bG_lonely 45 = .ok (.if_icmp .ne 5, 3) := by decide +kernel
theorem dG_lonely_48 : decode bG_lonely 48 = .ok (.iload_n 3, 1) := by decide +kernel
theorem dG_lonely_49 : decode bG_lonely 49 = .ok (.ireturn, 1) := by decide +kernel
theorem dG_lonely_50 : decode bG_lonely 50 = .ok (.iinc 2 1, 3) := by decide +kernel
theorem dG_lonely_53 : decode bG_lonely 53 = .ok (.iinc 3 1, 3) := by decide +kernel
theorem dG_lonely_56 : decode bG_lonely 56 = .ok (.goto (-36), 3) := by decide +kernel
theorem dG_lonely_59 : decode bG_lonely 59 = .ok (.iconst (-1), 1) := by decide +kernel
theorem dG_lonely_60 : decode bG_lonely 60 = .ok (.ireturn, 1) := by decide +kernel
theorem dG_worth_0 : decode bG_worth 0 = .ok (.aload_n 0, 1) := by decide +kernel
theorem dG_worth_1 : decode bG_worth 1 = .ok (.getfield 10, 3) := by decide +kernel
theorem dG_worth_4 : decode bG_worth 4 = .ok (.iload_n 1, 1) := by decide +kernel
theorem dG_worth_5 : decode bG_worth 5 = .ok (.invokevirtual 78, 3) := by decide +kernel
theorem dG_worth_8 : decode bG_worth 8 = .ok (.ifCond .eq 14, 3) := by decide +kernel
theorem dG_worth_11 : decode bG_worth 11 = .ok (.iload_n 3, 1) := by decide +kernel
theorem dG_worth_12 : decode bG_worth 12 = .ok (.iconst 0, 1) := by decide +kernel
theorem dG_worth_13 : decode bG_worth 13 = .ok (.sipush 1000, 3) := by decide +kernel
theorem dG_worth_16 : decode bG_worth 16 = .ok (.invokestatic 83, 3) := by decide +kernel
theorem dG_worth_19 : decode bG_worth 19 = .ok (.ifCond .ne 5, 3) := by decide +kernel
theorem dG_worth_22 : decode bG_worth 22 = .ok (.iconst (-1), 1) := by decide +kernel
theorem dG_worth_23 : decode bG_worth 23 = .ok (.ireturn, 1) := by decide +kernel
theorem dG_worth_24 : decode bG_worth 24 = .ok (.aload_n 0, 1) := by decide +kernel
theorem dG_worth_25 : decode bG_worth 25 = .ok (.invokevirtual 124, 3) := by decide +kernel
theorem dG_worth_28 : decode bG_worth 28 = .ok (.aload_n 0, 1) := by decide +kernel
theorem dG_worth_29 : decode bG_worth 29 = .ok (.getfield 21, 3) := by decide +kernel
theorem dG_worth_32 : decode bG_worth 32 = .ok (.getfield 127, 3) := by decide +kernel
theorem dG_worth_35 : decode bG_worth 35 = .ok (.getfield 143, 3) := by decide +kernel
theorem dG_worth_38 : decode bG_worth 38 = .ok (.ifCond .ne 5, 3) := by decide +kernel
theorem dG_worth_41 : decode bG_worth 41 = .ok (.iconst (-1), 1) := by decide +kernel
theorem dG_worth_42 : decode bG_worth 42 = .ok (.ireturn, 1) := by decide +kernel
theorem dG_worth_43 : decode bG_worth 43 = .ok (.aload_n 0, 1) := by decide +kernel
theorem dG_worth_44 : decode bG_worth 44 = .ok (.getfield 25, 3) := by decide +kernel
theorem dG_worth_47 : decode bG_worth 47 = .ok (.invokevirtual 174, 3) := by decide +kernel
theorem dG_worth_50 : decode bG_worth 50 = .ok (.aload_n 0, 1) := by decide +kernel
theorem dG_worth_51 : decode bG_worth 51 = .ok (.getfield 25, 3) := by decide +kernel
theorem dG_worth_54 : decode bG_worth 54 = .ok (.iload_n 1, 1) := by decide +kernel
theorem dG_worth_55 : decode bG_worth 55 = .ok (.iload_n 2, 1) := by decide +kernel
theorem dG_worth_56 : decode bG_worth 56 = .ok (.iload_n 3, 1) := by decide +kernel
theorem dG_worth_57 : decode bG_worth 57 = .ok (.invokevirtual 177, 3) := by decide +kernel
theorem dG_worth_60 : decode bG_worth 60 = .ok (.aload_n 0, 1) := by decide +kernel
theorem dG_worth_61 : decode bG_worth 61 = .ok (.getfield 25, 3) := by decide +kernel
theorem dG_worth_64 : decode bG_worth 64 = .ok (.invokevirtual 181, 3) := by decide +kernel
theorem dG_worth_67 : decode bG_worth 67 = .ok (.aload_n 0, 1) := by decide +kernel
theorem dG_worth_68 : decode bG_worth 68 = .ok (.getfield 21, 3) := by decide +kernel
theorem dG_worth_71 : decode bG_worth 71 = .ok (.getfield 127, 3) := by decide +kernel
theorem dG_worth_74 : decode bG_worth 74 = .ok (.getfield 134, 3) := by decide +kernel
theorem dG_worth_77 : decode bG_worth 77 = .ok (.aload_n 0, 1) := by decide +kernel
theorem dG_worth_78 : decode bG_worth 78 = .ok (.getfield 25, 3) := by decide +kernel
theorem dG_worth_81 : decode bG_worth 81 = .ok (.getfield 127, 3) := by decide +kernel
theorem dG_worth_84 : decode bG_worth 84 = .ok (.getfield 134, 3) := by decide +kernel
theorem dG_worth_87 : decode bG_worth 87 = .ok (.isub, 1) := by decide +kernel
theorem dG_worth_88 : decode bG_worth 88 = .ok (.ireturn, 1) := by decide +kernel
theorem dG_water_0 : decode bG_water 0 = .ok (.aload_n 0, 1) := by decide +kernel
theorem dG_water_1 : decode bG_water 1 = .ok (.getfield 10, 3) := by decide +kernel
theorem dG_water_4 : decode bG_water 4 = .ok (.iload_n 1, 1) := by decide +kernel
theorem dG_water_5 : decode bG_water 5 = .ok (.invokevirtual 94, 3) := by decide +kernel
theorem dG_water_8 : decode bG_water 8 = .ok (.ifCond .eq 14, 3) := by decide +kernel
theorem dG_water_11 : decode bG_water 11 = .ok (.iload_n 2, 1) := by decide +kernel
theorem dG_water_12 : decode bG_water 12 = .ok (.iconst 0, 1) := by decide +kernel
theorem dG_water_13 : decode bG_water 13 = .ok (.sipush 300, 3) := by decide +kernel
theorem dG_water_16 : decode bG_water 16 = .ok (.invokestatic 83, 3) := by decide +kernel
theorem dG_water_19 : decode bG_water 19 = .ok (.ifCond .ne 5, 3) := by decide +kernel
theorem dG_water_22 : decode bG_water 22 = .ok (.iconst (-1), 1) := by decide +kernel
theorem dG_water_23 : decode bG_water 23 = .ok (.ireturn, 1) := by decide +kernel
theorem dG_water_24 : decode bG_water 24 = .ok (.aload_n 0, 1) := by decide +kernel
theorem dG_water_25 : decode bG_water 25 = .ok (.getfield 10, 3) := by decide +kernel
theorem dG_water_28 : decode bG_water 28 = .ok (.getfield 184, 3) := by decide +kernel
theorem dG_water_31 : decode bG_water 31 = .ok (.iload_n 1, 1) := by decide +kernel
theorem dG_water_32 : decode bG_water 32 = .ok (.iaload, 1) := by decide +kernel
theorem dG_water_33 : decode bG_water 33 = .ok (.istore_n 3, 1) := by decide +kernel
theorem dG_water_34 : decode bG_water 34 = .ok (.aload_n 0, 1) := by decide +kernel
theorem dG_water_35 : decode bG_water 35 = .ok (.getfield 10, 3) := by decide +kernel
theorem dG_water_38 : decode bG_water 38 = .ok (.getfield 184, 3) := by decide +kernel
theorem dG_water_41 : decode bG_water 41 = .ok (.iload_n 1, 1) := by decide +kernel
theorem dG_water_42 : decode bG_water 42 = .ok (.iload_n 2, 1) := by decide +kernel
theorem dG_water_43 : decode bG_water 43 = .ok (.iastore, 1) := by decide +kernel
theorem dG_water_44 : decode bG_water 44 = .ok (.iload_n 3, 1) := by decide +kernel
theorem dG_water_45 : decode bG_water 45 = .ok (.ireturn, 1) := by decide +kernel
theorem dG_batch_0 : decode bG_batch 0 = .ok (.aload_n 0, 1) := by decide +kernel
theorem dG_batch_1 : decode bG_batch 1 = .ok (.getfield 38, 3) := by decide +kernel
theorem dG_batch_4 : decode bG_batch 4 = .ok (.getfield 143, 3) := by decide +kernel
theorem dG_batch_7 : decode bG_batch 7 = .ok (.ifCond .eq 13, 3) := by decide +kernel
theorem dG_batch_10 : decode bG_batch 10 = .ok (.iload_n 1, 1) := by decide +kernel
theorem dG_batch_11 : decode bG_batch 11 = .ok (.iconst 0, 1) := by decide +kernel
theorem dG_batch_12 : decode bG_batch 12 = .ok (.ldc 187, 2) := by decide +kernel
theorem dG_batch_14 : decode bG_batch 14 = .ok (.invokestatic 83, 3) := by decide +kernel
theorem dG_batch_17 : decode bG_batch 17 = .ok (.ifCond .ne 5, 3) := by decide +kernel
theorem dG_batch_20 : decode bG_batch 20 = .ok (.iconst (-1), 1) := by decide +kernel
theorem dG_batch_21 : decode bG_batch 21 = .ok (.ireturn, 1) := by decide +kernel
theorem dG_batch_22 : decode bG_batch 22 = .ok (.aload_n 0, 1) := by decide +kernel
theorem dG_batch_23 : decode bG_batch 23 = .ok (.getfield 45, 3) := by decide +kernel
theorem dG_batch_26 : decode bG_batch 26 = .ok (.iload_n 1, 1) := by decide +kernel
theorem dG_batch_27 : decode bG_batch 27 = .ok (.aload_n 0, 1) := by decide +kernel
theorem dG_batch_28 : decode bG_batch 28 = .ok (.getfield 38, 3) := by decide +kernel
theorem dG_batch_31 : decode bG_batch 31 = .ok (.aload_n 0, 1) := by decide +kernel
theorem dG_batch_32 : decode bG_batch 32 = .ok (.getfield 10, 3) := by decide +kernel
theorem dG_batch_35 : decode bG_batch 35 = .ok (.invokevirtual 188, 3) := by decide +kernel
theorem dG_batch_38 : decode bG_batch 38 = .ok (.ireturn, 1) := by decide +kernel
theorem dG_mass_0 : decode bG_mass 0 = .ok (.aload_n 0, 1) := by decide +kernel
theorem dG_mass_1 : decode bG_mass 1 = .ok (.getfield 45, 3) := by decide +kernel
theorem dG_mass_4 : decode bG_mass 4 = .ok (.getfield 192, 3) := by decide +kernel
theorem dG_mass_7 : decode bG_mass 7 = .ok (.ifCond .eq 14, 3) := by decide +kernel
theorem dG_mass_10 : decode bG_mass 10 = .ok (.aload_n 0, 1) := by decide +kernel
theorem dG_mass_11 : decode bG_mass 11 = .ok (.getfield 10, 3) := by decide +kernel
theorem dG_mass_14 : decode bG_mass 14 = .ok (.iload_n 1, 1) := by decide +kernel
theorem dG_mass_15 : decode bG_mass 15 = .ok (.invokevirtual 94, 3) := by decide +kernel
theorem dG_mass_18 : decode bG_mass 18 = .ok (.ifCond .ne 5, 3) := by decide +kernel
theorem dG_mass_21 : decode bG_mass 21 = .ok (.iconst (-1), 1) := by decide +kernel
theorem dG_mass_22 : decode bG_mass 22 = .ok (.ireturn, 1) := by decide +kernel
theorem dG_mass_23 : decode bG_mass 23 = .ok (.iload_n 2, 1) := by decide +kernel
theorem dG_mass_24 : decode bG_mass 24 = .ok (.ifCond .eq 15, 3) := by decide +kernel
theorem dG_mass_27 : decode bG_mass 27 = .ok (.aload_n 0, 1) := by decide +kernel
theorem dG_mass_28 : decode bG_mass 28 = .ok (.getfield 45, 3) := by decide +kernel
theorem dG_mass_31 : decode bG_mass 31 = .ok (.getfield 193, 3) := by decide +kernel
theorem dG_mass_34 : decode bG_mass 34 = .ok (.iload_n 1, 1) := by decide +kernel
theorem dG_mass_35 : decode bG_mass 35 = .ok (.iaload, 1) := by decide +kernel
theorem dG_mass_36 : decode bG_mass 36 = .ok (.goto 12, 3) := by decide +kernel
theorem dG_mass_39 : decode bG_mass 39 = .ok (.aload_n 0, 1) := by decide +kernel
theorem dG_mass_40 : decode bG_mass 40 = .ok (.getfield 45, 3) := by decide +kernel
theorem dG_mass_43 : decode bG_mass 43 = .ok (.getfield 196, 3) := by decide +kernel
theorem dG_mass_46 : decode bG_mass 46 = .ok (.iload_n 1, 1) := by decide +kernel
theorem dG_mass_47 : decode bG_mass 47 = .ok (.iaload, 1) := by decide +kernel
theorem dG_mass_48 : decode bG_mass 48 = .ok (.ireturn, 1) := by decide +kernel
theorem dG_limit_0 : decode bG_limit 0 = .ok (.iload_n 1, 1) := by decide +kernel
theorem dG_limit_1 : decode bG_limit 1 = .ok (.iconst 1, 1) := by decide +kernel
theorem dG_limit_2 : decode bG_limit 2 = .ok (.sipush 1000, 3) := by decide +kernel
theorem dG_limit_5 : decode bG_limit 5 = .ok (.invokestatic 83, 3) := by decide +kernel
theorem dG_limit_8 : decode bG_limit 8 = .ok (.ifCond .ne 5, 3) := by decide +kernel
theorem dG_limit_11 : decode bG_limit 11 = .ok (.iconst (-1), 1) := by decide +kernel
theorem dG_limit_12 : decode bG_limit 12 = .ok (.ireturn, 1) := by decide +kernel
theorem dG_limit_13 : decode bG_limit 13 = .ok (.aload_n 0, 1) := by decide +kernel
theorem dG_limit_14 : decode bG_limit 14 = .ok (.getfield 60, 3) := by decide +kernel
theorem dG_limit_17 : decode bG_limit 17 = .ok (.istore_n 2, 1) := by decide +kernel
theorem dG_limit_18 : decode bG_limit 18 = .ok (.aload_n 0, 1) := by decide +kernel
theorem dG_limit_19 : decode bG_limit 19 = .ok (.iload_n 1, 1) := by decide +kernel
theorem dG_limit_20 : decode bG_limit 20 = .ok (.putfield 60, 3) := by decide +kernel
theorem dG_limit_23 : decode bG_limit 23 = .ok (.iload_n 2, 1) := by decide +kernel
theorem dG_limit_24 : decode bG_limit 24 = .ok (.ireturn, 1) := by decide +kernel
theorem dG_test_0 : decode bG_test 0 = .ok (.aload_n 0, 1) := by decide +kernel
theorem dG_test_1 : decode bG_test 1 = .ok (.getfield 10, 3) := by decide +kernel
theorem dG_test_4 : decode bG_test 4 = .ok (.iload_n 1, 1) := by decide +kernel
theorem dG_test_5 : decode bG_test 5 = .ok (.invokevirtual 78, 3) := by decide +kernel
theorem dG_test_8 : decode bG_test 8 = .ok (.ifCond .eq 26, 3) := by decide +kernel
theorem dG_test_11 : decode bG_test 11 = .ok (.iload_n 2, 1) := by decide +kernel
theorem dG_test_12 : decode bG_test 12 = .ok (.iconst 0, 1) := by decide +kernel
theorem dG_test_13 : decode bG_test 13 = .ok (.sipush 1000, 3) := by decide +kernel
theorem dG_test_16 : decode bG_test 16 = .ok (.invokestatic 83, 3) := by decide +kernel
theorem dG_test_19 : decode bG_test 19 = .ok (.ifCond .eq 15, 3) := by decide +kernel
theorem dG_test_22 : decode bG_test 22 = .ok (.aload_n 0, 1) := by decide +kernel
theorem dG_test_23 : decode bG_test 23 = .ok (.getfield 52, 3) := by decide +kernel
theorem dG_test_26 : decode bG_test 26 = .ok (.getfield 199, 3) := by decide +kernel
theorem dG_test_29 : decode bG_test 29 = .ok (.bipush 100, 2) := by decide +kernel
theorem dG_test_31 : decode bG_test 31 = .ok (.if_icmp .lt 5, 3) := by decide +kernel
theorem dG_test_34 : decode bG_test 34 = .ok (.iconst (-1), 1) := by decide +kernel
theorem dG_test_35 : decode bG_test 35 = .ok (.ireturn, 1) := by decide +kernel
theorem dG_test_36 : decode bG_test 36 = .ok (.aload_n 0, 1) := by decide +kernel
theorem dG_test_37 : decode bG_test 37 = .ok (.getfield 52, 3) := by decide +kernel
theorem dG_test_40 : decode bG_test 40 = .ok (.iload_n 1, 1) := by decide +kernel
theorem dG_test_41 : decode bG_test 41 = .ok (.iload_n 2, 1) := by decide +kernel
theorem dG_test_42 : decode bG_test 42 = .ok (.invokevirtual 202, 3) := by decide +kernel
theorem dG_test_45 : decode bG_test 45 = .ok (.aload_n 0, 1) := by decide +kernel
theorem dG_test_46 : decode bG_test 46 = .ok (.iload_n 1, 1) := by decide +kernel
theorem dG_test_47 : decode bG_test 47 = .ok (.iload_n 2, 1) := by decide +kernel
theorem dG_test_48 : decode bG_test 48 = .ok (.invokevirtual 206, 3) := by decide +kernel
theorem dG_test_51 : decode bG_test 51 = .ok (.istore_n 3, 1) := by decide +kernel
theorem dG_test_52 : decode bG_test 52 = .ok (.iload_n 3, 1) := by decide +kernel
theorem dG_test_53 : decode bG_test 53 = .ok (.ifCond .eq 12, 3) := by decide +kernel
theorem dG_test_56 : decode bG_test 56 = .ok (.aload_n 0, 1) := by decide +kernel
theorem dG_test_57 : decode bG_test 57 = .ok (.getfield 52, 3) := by decide +kernel
theorem dG_test_60 : decode bG_test 60 = .ok (.iload_n 1, 1) := by decide +kernel
theorem dG_test_61 : decode bG_test 61 = .ok (.iload_n 3, 1) := by decide +kernel
theorem dG_test_62 : decode bG_test 62 = .ok (.invokevirtual 210, 3) := by decide +kernel
theorem dG_test_65 : decode bG_test 65 = .ok (.iload_n 3, 1) := by decide +kernel
theorem dG_test_66 : decode bG_test 66 = .ok (.ireturn, 1) := by decide +kernel
theorem dG_fired_0 : decode bG_fired 0 = .ok (.iload_n 1, 1) := by decide +kernel
theorem dG_fired_1 : decode bG_fired 1 = .ok (.ifCond .lt 14, 3) := by decide +kernel
theorem dG_fired_4 : decode bG_fired 4 = .ok (.iload_n 1, 1) := by decide +kernel
theorem dG_fired_5 : decode bG_fired 5 = .ok (.aload_n 0, 1) := by decide +kernel
theorem dG_fired_6 : decode bG_fired 6 = .ok (.getfield 52, 3) := by decide +kernel
theorem dG_fired_9 : decode bG_fired 9 = .ok (.getfield 213, 3) := by decide +kernel
theorem dG_fired_12 : decode bG_fired 12 = .ok (.if_icmp .lt 5, 3) := by decide +kernel
theorem dG_fired_15 : decode bG_fired 15 = .ok (.iconst (-1), 1) := by decide +kernel
theorem dG_fired_16 : decode bG_fired 16 = .ok (.ireturn, 1) := by decide +kernel
theorem dG_fired_17 : decode bG_fired 17 = .ok (.iload_n 2, 1) := by decide +kernel
theorem dG_fired_18 : decode bG_fired 18 = .ok (.tableswitch 56 0 2 #[26, 36, 46], 26) := by decide +kernel
theorem dG_fired_44 : decode bG_fired 44 = .ok (.aload_n 0, 1) := by decide +kernel
theorem dG_fired_45 : decode bG_fired 45 = .ok (.getfield 52, 3) := by decide +kernel
theorem dG_fired_48 : decode bG_fired 48 = .ok (.getfield 216, 3) := by decide +kernel
theorem dG_fired_51 : decode bG_fired 51 = .ok (.iload_n 1, 1) := by decide +kernel
theorem dG_fired_52 : decode bG_fired 52 = .ok (.iaload, 1) := by decide +kernel
theorem dG_fired_53 : decode bG_fired 53 = .ok (.ireturn, 1) := by decide +kernel
theorem dG_fired_54 : decode bG_fired 54 = .ok (.aload_n 0, 1) := by decide +kernel
theorem dG_fired_55 : decode bG_fired 55 = .ok (.getfield 52, 3) := by decide +kernel
theorem dG_fired_58 : decode bG_fired 58 = .ok (.getfield 219, 3) := by decide +kernel
theorem dG_fired_61 : decode bG_fired 61 = .ok (.iload_n 1, 1) := by decide +kernel
theorem dG_fired_62 : decode bG_fired 62 = .ok (.iaload, 1) := by decide +kernel
theorem dG_fired_63 : decode bG_fired 63 = .ok (.ireturn, 1) := by decide +kernel
theorem dG_fired_64 : decode bG_fired 64 = .ok (.aload_n 0, 1) := by decide +kernel
theorem dG_fired_65 : decode bG_fired 65 = .ok (.getfield 52, 3) := by decide +kernel
theorem dG_fired_68 : decode bG_fired 68 = .ok (.getfield 222, 3) := by decide +kernel
theorem dG_fired_71 : decode bG_fired 71 = .ok (.iload_n 1, 1) := by decide +kernel
theorem dG_fired_72 : decode bG_fired 72 = .ok (.iaload, 1) := by decide +kernel
theorem dG_fired_73 : decode bG_fired 73 = .ok (.ireturn, 1) := by decide +kernel
theorem dG_fired_74 : decode bG_fired 74 = .ok (.iconst (-1), 1) := by decide +kernel
theorem dG_fired_75 : decode bG_fired 75 = .ok (.ireturn, 1) := by decide +kernel
theorem dG_count_0 : decode bG_count 0 = .ok (.iload_n 1, 1) := by decide +kernel
theorem dG_count_1 : decode bG_count 1 = .ok (.tableswitch 95 0 5 #[39, 47, 55, 63, 71, 83], 39) := by decide +kernel
theorem dG_count_40 : decode bG_count 40 = .ok (.aload_n 0, 1) := by decide +kernel
theorem dG_count_41 : decode bG_count 41 = .ok (.getfield 10, 3) := by decide +kernel
theorem dG_count_44 : decode bG_count 44 = .ok (.getfield 68, 3) := by decide +kernel
theorem dG_count_47 : decode bG_count 47 = .ok (.ireturn, 1) := by decide +kernel
theorem dG_count_48 : decode bG_count 48 = .ok (.aload_n 0, 1) := by decide +kernel
theorem dG_count_49 : decode bG_count 49 = .ok (.getfield 10, 3) := by decide +kernel
theorem dG_count_52 : decode bG_count 52 = .ok (.getfield 87, 3) := by decide +kernel
theorem dG_count_55 : decode bG_count 55 = .ok (.ireturn, 1) := by decide +kernel
theorem dG_count_56 : decode bG_count 56 = .ok (.aload_n 0, 1) := by decide +kernel
theorem dG_count_57 : decode bG_count 57 = .ok (.getfield 52, 3) := by decide +kernel
theorem dG_count_60 : decode bG_count 60 = .ok (.getfield 199, 3) := by decide +kernel
theorem dG_count_63 : decode bG_count 63 = .ok (.ireturn, 1) := by decide +kernel
theorem dG_count_64 : decode bG_count 64 = .ok (.aload_n 0, 1) := by decide +kernel
theorem dG_count_65 : decode bG_count 65 = .ok (.getfield 52, 3) := by decide +kernel
theorem dG_count_68 : decode bG_count 68 = .ok (.getfield 213, 3) := by decide +kernel
theorem dG_count_71 : decode bG_count 71 = .ok (.ireturn, 1) := by decide +kernel
theorem dG_count_72 : decode bG_count 72 = .ok (.aload_n 0, 1) := by decide +kernel
theorem dG_count_73 : decode bG_count 73 = .ok (.invokevirtual 124, 3) := by decide +kernel
theorem dG_count_76 : decode bG_count 76 = .ok (.aload_n 0, 1) := by decide +kernel
theorem dG_count_77 : decode bG_count 77 = .ok (.getfield 21, 3) := by decide +kernel
theorem dG_count_80 : decode bG_count 80 = .ok (.getfield 167, 3) := by decide +kernel
theorem dG_count_83 : decode bG_count 83 = .ok (.ireturn, 1) := by decide +kernel
theorem dG_count_84 : decode bG_count 84 = .ok (.aload_n 0, 1) := by decide +kernel
theorem dG_count_85 : decode bG_count 85 = .ok (.invokevirtual 124, 3) := by decide +kernel
theorem dG_count_88 : decode bG_count 88 = .ok (.aload_n 0, 1) := by decide +kernel
theorem dG_count_89 : decode bG_count 89 = .ok (.getfield 21, 3) := by decide +kernel
theorem dG_count_92 : decode bG_count 92 = .ok (.getfield 225, 3) := by decide +kernel
theorem dG_count_95 : decode bG_count 95 = .ok (.ireturn, 1) := by decide +kernel
theorem dG_count_96 : decode bG_count 96 = .ok (.iconst (-1), 1) := by decide +kernel
theorem dG_count_97 : decode bG_count 97 = .ok (.ireturn, 1) := by decide +kernel
theorem dG_within_0 : decode bG_within 0 = .ok (.iload_n 1, 1) := by decide +kernel
theorem dG_within_1 : decode bG_within 1 = .ok (.iload_n 0, 1) := by decide +kernel
theorem dG_within_2 : decode bG_within 2 = .ok (.if_icmp .gt 12, 3) := by decide +kernel
theorem dG_within_5 : decode bG_within 5 = .ok (.iload_n 0, 1) := by decide +kernel
theorem dG_within_6 : decode bG_within 6 = .ok (.iload_n 2, 1) := by decide +kernel
theorem dG_within_7 : decode bG_within 7 = .ok (.if_icmp .gt 7, 3) := by decide +kernel
theorem dG_within_10 : decode bG_within 10 = .ok (.iconst 1, 1) := by decide +kernel
theorem dG_within_11 : decode bG_within 11 = .ok (.goto 4, 3) := by decide +kernel
theorem dG_within_14 : decode bG_within 14 = .ok (.iconst 0, 1) := by decide +kernel
theorem dG_within_15 : decode bG_within 15 = .ok (.ireturn, 1) := by decide +kernel
theorem dG_mayBeBand_0 : decode bG_mayBeBand 0 = .ok (.iconst 0, 1) := by decide +kernel
theorem dG_mayBeBand_1 : decode bG_mayBeBand 1 = .ok (.iload_n 0, 1) := by decide +kernel
theorem dG_mayBeBand_2 : decode bG_mayBeBand 2 = .ok (.if_icmp .gt 19, 3) := by decide +kernel
theorem dG_mayBeBand_5 : decode bG_mayBeBand 5 = .ok (.iload_n 0, 1) := by decide +kernel
theorem dG_mayBeBand_6 : decode bG_mayBeBand 6 = .ok (.iload_n 1, 1) := by decide +kernel
theorem dG_mayBeBand_7 : decode bG_mayBeBand 7 = .ok (.if_icmp .gt 14, 3) := by decide +kernel
theorem dG_mayBeBand_10 : decode bG_mayBeBand 10 = .ok (.iload_n 1, 1) := by decide +kernel
theorem dG_mayBeBand_11 : decode bG_mayBeBand 11 = .ok (.sipush 1000, 3) := by decide +kernel
theorem dG_mayBeBand_14 : decode bG_mayBeBand 14 = .ok (.if_icmp .gt 7, 3) := by decide +kernel
theorem dG_mayBeBand_17 : decode bG_mayBeBand 17 = .ok (.iconst 1, 1) := by decide +kernel
theorem dG_mayBeBand_18 : decode bG_mayBeBand 18 = .ok (.goto 4, 3) := by decide +kernel
theorem dG_mayBeBand_21 : decode bG_mayBeBand 21 = .ok (.iconst 0, 1) := by decide +kernel
theorem dG_mayBeBand_22 : decode bG_mayBeBand 22 = .ok (.ireturn, 1) := by decide +kernel
theorem dG_forget_0 : decode bG_forget 0 = .ok (.aload_n 0, 1) := by decide +kernel
theorem dG_forget_1 : decode bG_forget 1 = .ok (.getfield 38, 3) := by decide +kernel
theorem dG_forget_4 : decode bG_forget 4 = .ok (.iconst 0, 1) := by decide +kernel
theorem dG_forget_5 : decode bG_forget 5 = .ok (.putfield 143, 3) := by decide +kernel
theorem dG_forget_8 : decode bG_forget 8 = .ok (.aload_n 0, 1) := by decide +kernel
theorem dG_forget_9 : decode bG_forget 9 = .ok (.getfield 45, 3) := by decide +kernel
theorem dG_forget_12 : decode bG_forget 12 = .ok (.iconst 0, 1) := by decide +kernel
theorem dG_forget_13 : decode bG_forget 13 = .ok (.putfield 192, 3) := by decide +kernel
theorem dG_forget_16 : decode bG_forget 16 = .ok (.aload_n 0, 1) := by decide +kernel
theorem dG_forget_17 : decode bG_forget 17 = .ok (.getfield 52, 3) := by decide +kernel
theorem dG_forget_20 : decode bG_forget 20 = .ok (.invokevirtual 228, 3) := by decide +kernel
theorem dG_forget_23 : decode bG_forget 23 = .ok (.aload_n 0, 1) := by decide +kernel
theorem dG_forget_24 : decode bG_forget 24 = .ok (.iconst 0, 1) := by decide +kernel
theorem dG_forget_25 : decode bG_forget 25 = .ok (.putfield 56, 3) := by decide +kernel
theorem dG_forget_28 : decode bG_forget 28 = .ok (.return_, 1) := by decide +kernel
theorem dG_searchOnce_0 : decode bG_searchOnce 0 = .ok (.aload_n 0, 1) := by decide +kernel
theorem dG_searchOnce_1 : decode bG_searchOnce 1 = .ok (.getfield 56, 3) := by decide +kernel
theorem dG_searchOnce_4 : decode bG_searchOnce 4 = .ok (.ifCond .ne 22, 3) := by decide +kernel
theorem dG_searchOnce_7 : decode bG_searchOnce 7 = .ok (.aload_n 0, 1) := by decide +kernel
theorem dG_searchOnce_8 : decode bG_searchOnce 8 = .ok (.getfield 21, 3) := by decide +kernel
theorem dG_searchOnce_11 : decode bG_searchOnce 11 = .ok (.invokevirtual 174, 3) := by decide +kernel
theorem dG_searchOnce_14 : decode bG_searchOnce 14 = .ok (.aload_n 0, 1) := by decide +kernel
theorem dG_searchOnce_15 : decode bG_searchOnce 15 = .ok (.getfield 21, 3) := by decide +kernel
theorem dG_searchOnce_18 : decode bG_searchOnce 18 = .ok (.invokevirtual 181, 3) := by decide +kernel
theorem dG_searchOnce_21 : decode bG_searchOnce 21 = .ok (.aload_n 0, 1) := by decide +kernel
theorem dG_searchOnce_22 : decode bG_searchOnce 22 = .ok (.iconst 1, 1) := by decide +kernel
theorem dG_searchOnce_23 : decode bG_searchOnce 23 = .ok (.putfield 56, 3) := by decide +kernel
theorem dG_searchOnce_26 : decode bG_searchOnce 26 = .ok (.return_, 1) := by decide +kernel
theorem dG_takeInHand_0 : decode bG_takeInHand 0 = .ok (.aload_n 1, 1) := by decide +kernel
theorem dG_takeInHand_1 : decode bG_takeInHand 1 = .ok (.getfield 143, 3) := by decide +kernel
theorem dG_takeInHand_4 : decode bG_takeInHand 4 = .ok (.ifCond .ne 5, 3) := by decide +kernel
theorem dG_takeInHand_7 : decode bG_takeInHand 7 = .ok (.iconst 0, 1) := by decide +kernel
theorem dG_takeInHand_8 : decode bG_takeInHand 8 = .ok (.ireturn, 1) := by decide +kernel
theorem dG_takeInHand_9 : decode bG_takeInHand 9 = .ok (.aload_n 0, 1) := by decide +kernel
theorem dG_takeInHand_10 : decode bG_takeInHand 10 = .ok (.getfield 38, 3) := by decide +kernel
theorem dG_takeInHand_13 : decode bG_takeInHand 13 = .ok (.aload_n 1, 1) := by decide +kernel
theorem dG_takeInHand_14 : decode bG_takeInHand 14 = .ok (.getfield 146, 3) := by decide +kernel
theorem dG_takeInHand_17 : decode bG_takeInHand 17 = .ok (.aload_n 1, 1) := by decide +kernel
theorem dG_takeInHand_18 : decode bG_takeInHand 18 = .ok (.getfield 134, 3) := by decide +kernel
theorem dG_takeInHand_21 : decode bG_takeInHand 21 = .ok (.aload_n 1, 1) := by decide +kernel
theorem dG_takeInHand_22 : decode bG_takeInHand 22 = .ok (.getfield 140, 3) := by decide +kernel
theorem dG_takeInHand_25 : decode bG_takeInHand 25 = .ok (.invokevirtual 229, 3) := by decide +kernel
theorem dG_takeInHand_28 : decode bG_takeInHand 28 = .ok (.aload_n 0, 1) := by decide +kernel
theorem dG_takeInHand_29 : decode bG_takeInHand 29 = .ok (.getfield 45, 3) := by decide +kernel
theorem dG_takeInHand_32 : decode bG_takeInHand 32 = .ok (.iconst 0, 1) := by decide +kernel
theorem dG_takeInHand_33 : decode bG_takeInHand 33 = .ok (.putfield 192, 3) := by decide +kernel
theorem dG_takeInHand_36 : decode bG_takeInHand 36 = .ok (.iconst 1, 1) := by decide +kernel
theorem dG_takeInHand_37 : decode bG_takeInHand 37 = .ok (.ireturn, 1) := by decide +kernel
theorem dG_firstRule_0 : decode bG_firstRule 0 = .ok (.iload_n 2, 1) := by decide +kernel
theorem dG_firstRule_1 : decode bG_firstRule 1 = .ok (.aload_n 0, 1) := by decide +kernel
theorem dG_firstRule_2 : decode bG_firstRule 2 = .ok (.getfield 10, 3) := by decide +kernel
theorem dG_firstRule_5 : decode bG_firstRule 5 = .ok (.getfield 233, 3) := by decide +kernel
theorem dG_firstRule_8 : decode bG_firstRule 8 = .ok (.iload_n 1, 1) := by decide +kernel
theorem dG_firstRule_9 : decode bG_firstRule 9 = .ok (.iaload, 1) := by decide +kernel
theorem dG_firstRule_10 : decode bG_firstRule 10 = .ok (.aload_n 0, 1) := by decide +kernel
theorem dG_firstRule_11 : decode bG_firstRule 11 = .ok (.getfield 10, 3) := by decide +kernel
theorem dG_firstRule_14 : decode bG_firstRule 14 = .ok (.getfield 236, 3) := by decide +kernel
theorem dG_firstRule_17 : decode bG_firstRule 17 = .ok (.iload_n 1, 1) := by decide +kernel
theorem dG_firstRule_18 : decode bG_firstRule 18 = .ok (.iaload, 1) := by decide +kernel
theorem dG_firstRule_19 : decode bG_firstRule 19 = .ok (.invokestatic 83, 3) := by decide +kernel
theorem dG_firstRule_22 : decode bG_firstRule 22 = .ok (.ifCond .ne 5, 3) := by decide +kernel
theorem dG_firstRule_25 : decode bG_firstRule 25 = .ok (.iconst 1, 1) := by decide +kernel
theorem dG_firstRule_26 : decode bG_firstRule 26 = .ok (.ireturn, 1) := by decide +kernel
theorem dG_firstRule_27 : decode bG_firstRule 27 = .ok (.aload_n 0, 1) := by decide +kernel
theorem dG_firstRule_28 : decode bG_firstRule 28 = .ok (.getfield 38, 3) := by decide +kernel
theorem dG_firstRule_31 : decode bG_firstRule 31 = .ok (.getfield 143, 3) := by decide +kernel
theorem dG_firstRule_34 : decode bG_firstRule 34 = .ok (.ifCond .eq 38, 3) := by decide +kernel
theorem dG_firstRule_37 : decode bG_firstRule 37 = .ok (.aload_n 0, 1) := by decide +kernel
theorem dG_firstRule_38 : decode bG_firstRule 38 = .ok (.getfield 52, 3) := by decide +kernel
theorem dG_firstRule_41 : decode bG_firstRule 41 = .ok (.iload_n 1, 1) := by decide +kernel
theorem dG_firstRule_42 : decode bG_firstRule 42 = .ok (.aload_n 0, 1) := by decide +kernel
theorem dG_firstRule_43 : decode bG_firstRule 43 = .ok (.getfield 10, 3) := by decide +kernel
theorem dG_firstRule_46 : decode bG_firstRule 46 = .ok (.iload_n 1, 1) := by decide +kernel
theorem dG_firstRule_47 : decode bG_firstRule 47 = .ok (.aload_n 0, 1) := by decide +kernel
theorem dG_firstRule_48 : decode bG_firstRule 48 = .ok (.getfield 10, 3) := by decide +kernel
theorem dG_firstRule_51 : decode bG_firstRule 51 = .ok (.getfield 149, 3) := by decide +kernel
theorem dG_firstRule_54 : decode bG_firstRule 54 = .ok (.aload_n 0, 1) := by decide +kernel
theorem dG_firstRule_55 : decode bG_firstRule 55 = .ok (.getfield 38, 3) := by decide +kernel
theorem dG_firstRule_58 : decode bG_firstRule 58 = .ok (.invokevirtual 153, 3) := by decide +kernel
theorem dG_firstRule_61 : decode bG_firstRule 61 = .ok (.bipush 100, 2) := by decide +kernel
theorem dG_firstRule_63 : decode bG_firstRule 63 = .ok (.idiv, 1) := by decide +kernel
theorem dG_firstRule_64 : decode bG_firstRule 64 = .ok (.invokevirtual 239, 3) := by decide +kernel
theorem dG_firstRule_67 : decode bG_firstRule 67 = .ok (.ifCond .eq 5, 3) := by decide +kernel
theorem dG_firstRule_70 : decode bG_firstRule 70 = .ok (.iconst 2, 1) := by decide +kernel
theorem dG_firstRule_71 : decode bG_firstRule 71 = .ok (.ireturn, 1) := by decide +kernel
theorem dG_firstRule_72 : decode bG_firstRule 72 = .ok (.aload_n 0, 1) := by decide +kernel
theorem dG_firstRule_73 : decode bG_firstRule 73 = .ok (.getfield 52, 3) := by decide +kernel
theorem dG_firstRule_76 : decode bG_firstRule 76 = .ok (.iload_n 1, 1) := by decide +kernel
theorem dG_firstRule_77 : decode bG_firstRule 77 = .ok (.aload_n 0, 1) := by decide +kernel
theorem dG_firstRule_78 : decode bG_firstRule 78 = .ok (.getfield 60, 3) := by decide +kernel
theorem dG_firstRule_81 : decode bG_firstRule 81 = .ok (.invokevirtual 242, 3) := by decide +kernel
theorem dG_firstRule_84 : decode bG_firstRule 84 = .ok (.ifCond .eq 7, 3) := by decide +kernel
theorem dG_firstRule_87 : decode bG_firstRule 87 = .ok (.iconst 3, 1) := by decide +kernel
theorem dG_firstRule_88 : decode bG_firstRule 88 = .ok (.goto 4, 3) := by decide +kernel
theorem dG_firstRule_91 : decode bG_firstRule 91 = .ok (.iconst 0, 1) := by decide +kernel
theorem dG_firstRule_92 : decode bG_firstRule 92 = .ok (.ireturn, 1) := by decide +kernel
theorem dP_init_0 : decode bP_init 0 = .ok (.aload_n 0, 1) := by decide +kernel
theorem dP_init_1 : decode bP_init 1 = .ok (.invokespecial 3, 3) := by decide +kernel
theorem dP_init_4 : decode bP_init 4 = .ok (.aload_n 0, 1) := by decide +kernel
theorem dP_init_5 : decode bP_init 5 = .ok (.iconst 0, 1) := by decide +kernel
theorem dP_init_6 : decode bP_init 6 = .ok (.putfield 9, 3) := by decide +kernel
theorem dP_init_9 : decode bP_init 9 = .ok (.aload_n 0, 1) := by decide +kernel
theorem dP_init_10 : decode bP_init 10 = .ok (.iconst 0, 1) := by decide +kernel
theorem dP_init_11 : decode bP_init 11 = .ok (.putfield 15, 3) := by decide +kernel
theorem dP_init_14 : decode bP_init 14 = .ok (.aload_n 0, 1) := by decide +kernel
theorem dP_init_15 : decode bP_init 15 = .ok (.bipush 100, 2) := by decide +kernel
theorem dP_init_17 : decode bP_init 17 = .ok (.putfield 18, 3) := by decide +kernel
theorem dP_init_20 : decode bP_init 20 = .ok (.aload_n 0, 1) := by decide +kernel
theorem dP_init_21 : decode bP_init 21 = .ok (.iconst 5, 1) := by decide +kernel
theorem dP_init_22 : decode bP_init 22 = .ok (.putfield 21, 3) := by decide +kernel
theorem dP_init_25 : decode bP_init 25 = .ok (.aload_n 0, 1) := by decide +kernel
theorem dP_init_26 : decode bP_init 26 = .ok (.bipush 6, 2) := by decide +kernel
theorem dP_init_28 : decode bP_init 28 = .ok (.newarray .int, 2) := by decide +kernel
theorem dP_init_30 : decode bP_init 30 = .ok (.putfield 24, 3) := by decide +kernel
theorem dP_init_33 : decode bP_init 33 = .ok (.aload_n 0, 1) := by decide +kernel
theorem dP_init_34 : decode bP_init 34 = .ok (.bipush 6, 2) := by decide +kernel
theorem dP_init_36 : decode bP_init 36 = .ok (.newarray .int, 2) := by decide +kernel
theorem dP_init_38 : decode bP_init 38 = .ok (.putfield 28, 3) := by decide +kernel
theorem dP_init_41 : decode bP_init 41 = .ok (.aload_n 0, 1) := by decide +kernel
theorem dP_init_42 : decode bP_init 42 = .ok (.iconst 4, 1) := by decide +kernel
theorem dP_init_43 : decode bP_init 43 = .ok (.newarray .int, 2) := by decide +kernel
theorem dP_init_45 : decode bP_init 45 = .ok (.putfield 31, 3) := by decide +kernel
theorem dP_init_48 : decode bP_init 48 = .ok (.aload_n 0, 1) := by decide +kernel
theorem dP_init_49 : decode bP_init 49 = .ok (.iconst 4, 1) := by decide +kernel
theorem dP_init_50 : decode bP_init 50 = .ok (.newarray .int, 2) := by decide +kernel
theorem dP_init_52 : decode bP_init 52 = .ok (.putfield 34, 3) := by decide +kernel
theorem dP_init_55 : decode bP_init 55 = .ok (.aload_n 0, 1) := by decide +kernel
theorem dP_init_56 : decode bP_init 56 = .ok (.iconst 4, 1) := by decide +kernel
theorem dP_init_57 : decode bP_init 57 = .ok (.newarray .int, 2) := by decide +kernel
theorem dP_init_59 : decode bP_init 59 = .ok (.putfield 37, 3) := by decide +kernel
theorem dP_init_62 : decode bP_init 62 = .ok (.aload_n 0, 1) := by decide +kernel
theorem dP_init_63 : decode bP_init 63 = .ok (.iconst 4, 1) := by decide +kernel
theorem dP_init_64 : decode bP_init 64 = .ok (.newarray .boolean, 2) := by decide +kernel
theorem dP_init_66 : decode bP_init 66 = .ok (.putfield 40, 3) := by decide +kernel
theorem dP_init_69 : decode bP_init 69 = .ok (.aload_n 0, 1) := by decide +kernel
theorem dP_init_70 : decode bP_init 70 = .ok (.iconst 4, 1) := by decide +kernel
theorem dP_init_71 : decode bP_init 71 = .ok (.newarray .int, 2) := by decide +kernel
theorem dP_init_73 : decode bP_init 73 = .ok (.putfield 44, 3) := by decide +kernel
theorem dP_init_76 : decode bP_init 76 = .ok (.aload_n 0, 1) := by decide +kernel
theorem dP_init_77 : decode bP_init 77 = .ok (.iconst 4, 1) := by decide +kernel
theorem dP_init_78 : decode bP_init 78 = .ok (.bipush 6, 2) := by decide +kernel
theorem dP_init_80 : decode bP_init 80 = .ok (.multianewarray 47 2, 4) := by decide +kernel
theorem dP_init_84 : decode bP_init 84 = .ok (.putfield 49, 3) := by decide +kernel
theorem dP_init_87 : decode bP_init 87 = .ok (.aload_n 0, 1) := by decide +kernel
theorem dP_init_88 : decode bP_init 88 = .ok (.iconst 4, 1) := by decide +kernel
theorem dP_init_89 : decode bP_init 89 = .ok (.bipush 6, 2) := by decide +kernel
theorem dP_init_91 : decode bP_init 91 = .ok (.multianewarray 47 2, 4) := by decide +kernel
theorem dP_init_95 : decode bP_init 95 = .ok (.putfield 52, 3) := by decide +kernel
theorem dP_init_98 : decode bP_init 98 = .ok (.aload_n 0, 1) := by decide +kernel
theorem dP_init_99 : decode bP_init 99 = .ok (.iconst 4, 1) := by decide +kernel
theorem dP_init_100 : decode bP_init 100 = .ok (.bipush 6, 2) := by decide +kernel
theorem dP_init_102 : decode bP_init 102 = .ok (.multianewarray 47 2, 4) := by decide +kernel
theorem dP_init_106 : decode bP_init 106 = .ok (.putfield 55, 3) := by decide +kernel
theorem dP_init_109 : decode bP_init 109 = .ok (.return_, 1) := by decide +kernel
theorem dP_hasSieve_0 : decode bP_hasSieve 0 = .ok (.iconst 0, 1) := by decide +kernel
theorem dP_hasSieve_1 : decode bP_hasSieve 1 = .ok (.iload_n 1, 1) := by decide +kernel
theorem dP_hasSieve_2 : decode bP_hasSieve 2 = .ok (.if_icmp .gt 15, 3) := by decide +kernel
theorem dP_hasSieve_5 : decode bP_hasSieve 5 = .ok (.iload_n 1, 1) := by decide +kernel
theorem dP_hasSieve_6 : decode bP_hasSieve 6 = .ok (.aload_n 0, 1) := by decide +kernel
theorem dP_hasSieve_7 : decode bP_hasSieve 7 = .ok (.getfield 9, 3) := by decide +kernel
theorem dP_hasSieve_10 : decode bP_hasSieve 10 = .ok (.if_icmp .ge 7, 3) := by decide +kernel
theorem dP_hasSieve_13 : decode bP_hasSieve 13 = .ok (.iconst 1, 1) := by decide +kernel
theorem dP_hasSieve_14 : decode bP_hasSieve 14 = .ok (.goto 4, 3) := by decide +kernel
theorem dP_hasSieve_17 : decode bP_hasSieve 17 = .ok (.iconst 0, 1) := by decide +kernel
theorem dP_hasSieve_18 : decode bP_hasSieve 18 = .ok (.ireturn, 1) := by decide +kernel
theorem dP_hasStock_0 : decode bP_hasStock 0 = .ok (.iconst 0, 1) := by decide +kernel
theorem dP_hasStock_1 : decode bP_hasStock 1 = .ok (.iload_n 1, 1) := by decide +kernel
theorem dP_hasStock_2 : decode bP_hasStock 2 = .ok (.if_icmp .gt 15, 3) := by decide +kernel
theorem dP_hasStock_5 : decode bP_hasStock 5 = .ok (.iload_n 1, 1) := by decide +kernel
theorem dP_hasStock_6 : decode bP_hasStock 6 = .ok (.aload_n 0, 1) := by decide +kernel
theorem dP_hasStock_7 : decode bP_hasStock 7 = .ok (.getfield 15, 3) := by decide +kernel
theorem dP_hasStock_10 : decode bP_hasStock 10 = .ok (.if_icmp .ge 7, 3) := by decide +kernel
theorem dP_hasStock_13 : decode bP_hasStock 13 = .ok (.iconst 1, 1) := by decide +kernel
theorem dP_hasStock_14 : decode bP_hasStock 14 = .ok (.goto 4, 3) := by decide +kernel
theorem dP_hasStock_17 : decode bP_hasStock 17 = .ok (.iconst 0, 1) := by decide +kernel
theorem dP_hasStock_18 : decode bP_hasStock 18 = .ok (.ireturn, 1) := by decide +kernel
theorem dP_setBand_0 : decode bP_setBand 0 = .ok (.aload_n 0, 1) := by decide +kernel
theorem dP_setBand_1 : decode bP_setBand 1 = .ok (.getfield 24, 3) := by decide +kernel
theorem dP_setBand_4 : decode bP_setBand 4 = .ok (.iload_n 1, 1) := by decide +kernel
theorem dP_setBand_5 : decode bP_setBand 5 = .ok (.iload_n 2, 1) := by decide +kernel
theorem dP_setBand_6 : decode bP_setBand 6 = .ok (.iastore, 1) := by decide +kernel
theorem dP_setBand_7 : decode bP_setBand 7 = .ok (.aload_n 0, 1) := by decide +kernel
theorem dP_setBand_8 : decode bP_setBand 8 = .ok (.getfield 28, 3) := by decide +kernel
theorem dP_setBand_11 : decode bP_setBand 11 = .ok (.iload_n 1, 1) := by decide +kernel
theorem dP_setBand_12 : decode bP_setBand 12 = .ok (.iload_n 3, 1) := by decide +kernel
theorem dP_setBand_13 : decode bP_setBand 13 = .ok (.iastore, 1) := by decide +kernel
theorem dP_setBand_14 : decode bP_setBand 14 = .ok (.return_, 1) := by decide +kernel
theorem dP_setStock_0 : decode bP_setStock 0 = .ok (.aload_n 0, 1) := by decide +kernel
theorem dP_setStock_1 : decode bP_setStock 1 = .ok (.getfield 31, 3) := by decide +kernel
theorem dP_setStock_4 : decode bP_setStock 4 = .ok (.iload_n 1, 1) := by decide +kernel
theorem dP_setStock_5 : decode bP_setStock 5 = .ok (.iload_n 2, 1) := by decide +kernel
theorem dP_setStock_6 : decode bP_setStock 6 = .ok (.iastore, 1) := by decide +kernel
theorem dP_setStock_7 : decode bP_setStock 7 = .ok (.aload_n 0, 1) := by decide +kernel
theorem dP_setStock_8 : decode bP_setStock 8 = .ok (.getfield 34, 3) := by decide +kernel
theorem dP_setStock_11 : decode bP_setStock 11 = .ok (.iload_n 1, 1) := by decide +kernel
theorem dP_setStock_12 : decode bP_setStock 12 = .ok (.iload_n 3, 1) := by decide +kernel
theorem dP_setStock_13 : decode bP_setStock 13 = .ok (.iastore, 1) := by decide +kernel
theorem dP_setStock_14 : decode bP_setStock 14 = .ok (.aload_n 0, 1) := by decide +kernel
theorem dP_setStock_15 : decode bP_setStock 15 = .ok (.getfield 37, 3) := by decide +kernel
theorem dP_setStock_18 : decode bP_setStock 18 = .ok (.iload_n 1, 1) := by decide +kernel
theorem dP_setStock_19 : decode bP_setStock 19 = .ok (.iload 4, 2) := by decide +kernel
theorem dP_setStock_21 : decode bP_setStock 21 = .ok (.iastore, 1) := by decide +kernel
theorem dP_setStock_22 : decode bP_setStock 22 = .ok (.aload_n 0, 1) := by decide +kernel
theorem dP_setStock_23 : decode bP_setStock 23 = .ok (.getfield 40, 3) := by decide +kernel
theorem dP_setStock_26 : decode bP_setStock 26 = .ok (.iload_n 1, 1) := by decide +kernel
theorem dP_setStock_27 : decode bP_setStock 27 = .ok (.iload 5, 2) := by decide +kernel
theorem dP_setStock_29 : decode bP_setStock 29 = .ok (.bastore, 1) := by decide +kernel
theorem dP_setStock_30 : decode bP_setStock 30 = .ok (.return_, 1) := by decide +kernel
theorem dP_setPassing_0 : decode bP_setPassing 0 = .ok (.aload_n 0, 1) := by decide +kernel
theorem dP_setPassing_1 : decode bP_setPassing 1 = .ok (.getfield 49, 3) := by decide +kernel
theorem dP_setPassing_4 : decode bP_setPassing 4 = .ok (.iload_n 1, 1) := by decide +kernel
theorem dP_setPassing_5 : decode bP_setPassing 5 = .ok (.aaload, 1) := by decide +kernel
theorem dP_setPassing_6 : decode bP_setPassing 6 = .ok (.iload_n 2, 1) := by decide +kernel
theorem dP_setPassing_7 : decode bP_setPassing 7 = .ok (.iload_n 3, 1) := by decide +kernel
theorem dP_setPassing_8 : decode bP_setPassing 8 = .ok (.iastore, 1) := by decide +kernel
theorem dP_setPassing_9 : decode bP_setPassing 9 = .ok (.aload_n 0, 1) := by decide +kernel
theorem dP_setPassing_10 : decode bP_setPassing 10 = .ok (.getfield 52, 3) := by decide +kernel
theorem dP_setPassing_13 : decode bP_setPassing 13 = .ok (.iload_n 1, 1) := by decide +kernel
theorem dP_setPassing_14 : decode bP_setPassing 14 = .ok (.aaload, 1) := by decide +kernel
theorem dP_setPassing_15 : decode bP_setPassing 15 = .ok (.iload_n 2, 1) := by decide +kernel
theorem dP_setPassing_16 : decode bP_setPassing 16 = .ok (.iconst 0, 1) := by decide +kernel
theorem dP_setPassing_17 : decode bP_setPassing 17 = .ok (.iload_n 3, 1) := by decide +kernel
theorem dP_setPassing_18 : decode bP_setPassing 18 = .ok (.iload 4, 2) := by decide +kernel
theorem dP_setPassing_20 : decode bP_setPassing 20 = .ok (.isub, 1) := by decide +kernel
theorem dP_setPassing_21 : decode bP_setPassing 21 = .ok (.invokestatic 58, 3) := by decide +kernel
theorem dP_setPassing_24 : decode bP_setPassing 24 = .ok (.iastore, 1) := by decide +kernel
theorem dP_setPassing_25 : decode bP_setPassing 25 = .ok (.aload_n 0, 1) := by decide +kernel
theorem dP_setPassing_26 : decode bP_setPassing 26 = .ok (.getfield 55, 3) := by decide +kernel
theorem dP_setPassing_29 : decode bP_setPassing 29 = .ok (.iload_n 1, 1) := by decide +kernel
theorem dP_setPassing_30 : decode bP_setPassing 30 = .ok (.aaload, 1) := by decide +kernel
theorem dP_setPassing_31 : decode bP_setPassing 31 = .ok (.iload_n 2, 1) := by decide +kernel
theorem dP_setPassing_32 : decode bP_setPassing 32 = .ok (.sipush 1000, 3) := by decide +kernel
theorem dP_setPassing_35 : decode bP_setPassing 35 = .ok (.iload_n 3, 1) := by decide +kernel
theorem dP_setPassing_36 : decode bP_setPassing 36 = .ok (.iload 4, 2) := by decide +kernel
theorem dP_setPassing_38 : decode bP_setPassing 38 = .ok (.iadd, 1) := by decide +kernel
theorem dP_setPassing_39 : decode bP_setPassing 39 = .ok (.invokestatic 64, 3) := by decide +kernel
theorem dP_setPassing_42 : decode bP_setPassing 42 = .ok (.iastore, 1) := by decide +kernel
theorem dP_setPassing_43 : decode bP_setPassing 43 = .ok (.return_, 1) := by decide +kernel
theorem dP_sumAt_0 : decode bP_sumAt 0 = .ok (.iconst 0, 1) := by decide +kernel
theorem dP_sumAt_1 : decode bP_sumAt 1 = .ok (.istore 4, 2) := by decide +kernel
theorem dP_sumAt_3 : decode bP_sumAt 3 = .ok (.iconst 0, 1) := by decide +kernel
theorem dP_sumAt_4 : decode bP_sumAt 4 = .ok (.istore 5, 2) := by decide +kernel
theorem dP_sumAt_6 : decode bP_sumAt 6 = .ok (.iload 5, 2) := by decide +kernel
theorem dP_sumAt_8 : decode bP_sumAt 8 = .ok (.aload_n 0, 1) := by decide +kernel
theorem dP_sumAt_9 : decode bP_sumAt 9 = .ok (.getfield 15, 3) := by decide +kernel
theorem dP_sumAt_12 : decode bP_sumAt 12 = .ok (.if_icmp .ge 28, 3) := by decide +kernel
theorem dP_sumAt_15 : decode bP_sumAt 15 = .ok (.iload 4, 2) := by decide +kernel
theorem dP_sumAt_17 : decode bP_sumAt 17 = .ok (.aload_n 3, 1) := by decide +kernel
theorem dP_sumAt_18 : decode bP_sumAt 18 = .ok (.getfield 67, 3) := by decide +kernel
theorem dP_sumAt_21 : decode bP_sumAt 21 = .ok (.iload 5, 2) := by decide +kernel
theorem dP_sumAt_23 : decode bP_sumAt 23 = .ok (.iaload, 1) := by decide +kernel
theorem dP_sumAt_24 : decode bP_sumAt 24 = .ok (.aload_n 2, 1) := by decide +kernel
theorem dP_sumAt_25 : decode bP_sumAt 25 = .ok (.iload 5, 2) := by decide +kernel
theorem dP_sumAt_27 : decode bP_sumAt 27 = .ok (.aaload, 1) := by decide +kernel
theorem dP_sumAt_28 : decode bP_sumAt 28 = .ok (.iload_n 1, 1) := by decide +kernel
theorem dP_sumAt_29 : decode bP_sumAt 29 = .ok (.iaload, 1) := by decide +kernel
theorem dP_sumAt_30 : decode bP_sumAt 30 = .ok (.imul, 1) := by decide +kernel
theorem dP_sumAt_31 : decode bP_sumAt 31 = .ok (.iadd, 1) := by decide +kernel
theorem dP_sumAt_32 : decode bP_sumAt 32 = .ok (.istore 4, 2) := by decide +kernel
theorem dP_sumAt_34 : decode bP_sumAt 34 = .ok (.iinc 5 1, 3) := by decide +kernel
theorem dP_sumAt_37 : decode bP_sumAt 37 = .ok (.goto (-31), 3) := by decide +kernel
theorem dP_sumAt_40 : decode bP_sumAt 40 = .ok (.iload 4, 2) := by decide +kernel
theorem dP_sumAt_42 : decode bP_sumAt 42 = .ok (.ireturn, 1) := by decide +kernel
theorem dP_missAt_0 : decode bP_missAt 0 = .ok (.bipush 100, 2) := by decide +kernel
theorem dP_missAt_2 : decode bP_missAt 2 = .ok (.aload_n 0, 1) := by decide +kernel
theorem dP_missAt_3 : decode bP_missAt 3 = .ok (.getfield 24, 3) := by decide +kernel
theorem dP_missAt_6 : decode bP_missAt 6 = .ok (.iload_n 1, 1) := by decide +kernel
theorem dP_missAt_7 : decode bP_missAt 7 = .ok (.iaload, 1) := by decide +kernel
theorem dP_missAt_8 : decode bP_missAt 8 = .ok (.imul, 1) := by decide +kernel
theorem dP_missAt_9 : decode bP_missAt 9 = .ok (.aload_n 0, 1) := by decide +kernel
theorem dP_missAt_10 : decode bP_missAt 10 = .ok (.iload_n 1, 1) := by decide +kernel
theorem dP_missAt_11 : decode bP_missAt 11 = .ok (.aload_n 0, 1) := by decide +kernel
theorem dP_missAt_12 : decode bP_missAt 12 = .ok (.getfield 52, 3) := by decide +kernel
theorem dP_missAt_15 : decode bP_missAt 15 = .ok (.aload_n 2, 1) := by decide +kernel
theorem dP_missAt_16 : decode bP_missAt 16 = .ok (.invokevirtual 72, 3) := by decide +kernel
theorem dP_missAt_19 : decode bP_missAt 19 = .ok (.isub, 1) := by decide +kernel
theorem dP_missAt_20 : decode bP_missAt 20 = .ok (.istore_n 3, 1) := by decide +kernel
theorem dP_missAt_21 : decode bP_missAt 21 = .ok (.aload_n 0, 1) := by decide +kernel
theorem dP_missAt_22 : decode bP_missAt 22 = .ok (.iload_n 1, 1) := by decide +kernel
theorem dP_missAt_23 : decode bP_missAt 23 = .ok (.aload_n 0, 1) := by decide +kernel
theorem dP_missAt_24 : decode bP_missAt 24 = .ok (.getfield 55, 3) := by decide +kernel
theorem dP_missAt_27 : decode bP_missAt 27 = .ok (.aload_n 2, 1) := by decide +kernel
theorem dP_missAt_28 : decode bP_missAt 28 = .ok (.invokevirtual 72, 3) := by decide +kernel
theorem dP_missAt_31 : decode bP_missAt 31 = .ok (.bipush 100, 2) := by decide +kernel
theorem dP_missAt_33 : decode bP_missAt 33 = .ok (.aload_n 0, 1) := by decide +kernel
theorem dP_missAt_34 : decode bP_missAt 34 = .ok (.getfield 28, 3) := by decide +kernel
theorem dP_missAt_37 : decode bP_missAt 37 = .ok (.iload_n 1, 1) := by decide +kernel
theorem dP_missAt_38 : decode bP_missAt 38 = .ok (.iaload, 1) := by decide +kernel
theorem dP_missAt_39 : decode bP_missAt 39 = .ok (.imul, 1) := by decide +kernel
theorem dP_missAt_40 : decode bP_missAt 40 = .ok (.isub, 1) := by decide +kernel
theorem dP_missAt_41 : decode bP_missAt 41 = .ok (.istore 4, 2) := by decide +kernel
theorem dP_missAt_43 : decode bP_missAt 43 = .ok (.iconst 0, 1) := by decide +kernel
theorem dP_missAt_44 : decode bP_missAt 44 = .ok (.iload_n 3, 1) := by decide +kernel
theorem dP_missAt_45 : decode bP_missAt 45 = .ok (.invokestatic 58, 3) := by decide +kernel
theorem dP_missAt_48 : decode bP_missAt 48 = .ok (.iconst 0, 1) := by decide +kernel
theorem dP_missAt_49 : decode bP_missAt 49 = .ok (.iload 4, 2) := by decide +kernel
theorem dP_missAt_51 : decode bP_missAt 51 = .ok (.invokestatic 58, 3) := by decide +kernel
theorem dP_missAt_54 : decode bP_missAt 54 = .ok (.iadd, 1) := by decide +kernel
theorem dP_missAt_55 : decode bP_missAt 55 = .ok (.ireturn, 1) := by decide +kernel
theorem dS_init_0 : decode bS_init 0 = .ok (.aload_n 0, 1) := by decide +kernel
theorem dS_init_1 : decode bS_init 1 = .ok (.invokespecial 3, 3) := by decide +kernel
theorem dS_init_4 : decode bS_init 4 = .ok (.aload_n 0, 1) := by decide +kernel
theorem dS_init_5 : decode bS_init 5 = .ok (.bipush 6, 2) := by decide +kernel
theorem dS_init_7 : decode bS_init 7 = .ok (.newarray .int, 2) := by decide +kernel
theorem dS_init_9 : decode bS_init 9 = .ok (.putfield 9, 3) := by decide +kernel
theorem dS_init_12 : decode bS_init 12 = .ok (.aload_n 0, 1) := by decide +kernel
theorem dS_init_13 : decode bS_init 13 = .ok (.bipush 6, 2) := by decide +kernel
theorem dS_init_15 : decode bS_init 15 = .ok (.newarray .int, 2) := by decide +kernel
theorem dS_init_17 : decode bS_init 17 = .ok (.putfield 15, 3) := by decide +kernel
theorem dS_init_20 : decode bS_init 20 = .ok (.aload_n 0, 1) := by decide +kernel
theorem dS_init_21 : decode bS_init 21 = .ok (.iconst 4, 1) := by decide +kernel
theorem dS_init_22 : decode bS_init 22 = .ok (.newarray .int, 2) := by decide +kernel
theorem dS_init_24 : decode bS_init 24 = .ok (.putfield 18, 3) := by decide +kernel
theorem dS_init_27 : decode bS_init 27 = .ok (.aload_n 0, 1) := by decide +kernel
theorem dS_init_28 : decode bS_init 28 = .ok (.iconst 4, 1) := by decide +kernel
theorem dS_init_29 : decode bS_init 29 = .ok (.bipush 6, 2) := by decide +kernel
theorem dS_init_31 : decode bS_init 31 = .ok (.multianewarray 21 2, 4) := by decide +kernel
theorem dS_init_35 : decode bS_init 35 = .ok (.putfield 23, 3) := by decide +kernel
theorem dS_init_38 : decode bS_init 38 = .ok (.aload_n 0, 1) := by decide +kernel
theorem dS_init_39 : decode bS_init 39 = .ok (.iconst 4, 1) := by decide +kernel
theorem dS_init_40 : decode bS_init 40 = .ok (.bipush 6, 2) := by decide +kernel
theorem dS_init_42 : decode bS_init 42 = .ok (.multianewarray 21 2, 4) := by decide +kernel
theorem dS_init_46 : decode bS_init 46 = .ok (.putfield 26, 3) := by decide +kernel
theorem dS_init_49 : decode bS_init 49 = .ok (.aload_n 0, 1) := by decide +kernel
theorem dS_init_50 : decode bS_init 50 = .ok (.bipush 6, 2) := by decide +kernel
theorem dS_init_52 : decode bS_init 52 = .ok (.newarray .boolean, 2) := by decide +kernel
theorem dS_init_54 : decode bS_init 54 = .ok (.putfield 29, 3) := by decide +kernel
theorem dS_init_57 : decode bS_init 57 = .ok (.aload_n 0, 1) := by decide +kernel
theorem dS_init_58 : decode bS_init 58 = .ok (.new 33, 3) := by decide +kernel
theorem dS_init_61 : decode bS_init 61 = .ok (.dup, 1) := by decide +kernel
theorem dS_init_62 : decode bS_init 62 = .ok (.invokespecial 35, 3) := by decide +kernel
theorem dS_init_65 : decode bS_init 65 = .ok (.putfield 36, 3) := by decide +kernel
theorem dS_init_68 : decode bS_init 68 = .ok (.aload_n 0, 1) := by decide +kernel
theorem dS_init_69 : decode bS_init 69 = .ok (.new 33, 3) := by decide +kernel
theorem dS_init_72 : decode bS_init 72 = .ok (.dup, 1) := by decide +kernel
theorem dS_init_73 : decode bS_init 73 = .ok (.invokespecial 35, 3) := by decide +kernel
theorem dS_init_76 : decode bS_init 76 = .ok (.putfield 40, 3) := by decide +kernel
theorem dS_init_79 : decode bS_init 79 = .ok (.aload_n 0, 1) := by decide +kernel
theorem dS_init_80 : decode bS_init 80 = .ok (.iconst 0, 1) := by decide +kernel
theorem dS_init_81 : decode bS_init 81 = .ok (.putfield 43, 3) := by decide +kernel
theorem dS_init_84 : decode bS_init 84 = .ok (.aload_n 0, 1) := by decide +kernel
theorem dS_init_85 : decode bS_init 85 = .ok (.iconst 0, 1) := by decide +kernel
theorem dS_init_86 : decode bS_init 86 = .ok (.putfield 47, 3) := by decide +kernel
theorem dS_init_89 : decode bS_init 89 = .ok (.aload_n 0, 1) := by decide +kernel
theorem dS_init_90 : decode bS_init 90 = .ok (.aload_n 1, 1) := by decide +kernel
theorem dS_init_91 : decode bS_init 91 = .ok (.putfield 50, 3) := by decide +kernel
theorem dS_init_94 : decode bS_init 94 = .ok (.return_, 1) := by decide +kernel
theorem dS_useBands_0 : decode bS_useBands 0 = .ok (.iconst 0, 1) := by decide +kernel
theorem dS_useBands_1 : decode bS_useBands 1 = .ok (.istore_n 1, 1) := by decide +kernel
theorem dS_useBands_2 : decode bS_useBands 2 = .ok (.iload_n 1, 1) := by decide +kernel
theorem dS_useBands_3 : decode bS_useBands 3 = .ok (.aload_n 0, 1) := by decide +kernel
theorem dS_useBands_4 : decode bS_useBands 4 = .ok (.getfield 50, 3) := by decide +kernel
theorem dS_useBands_7 : decode bS_useBands 7 = .ok (.getfield 54, 3) := by decide +kernel
theorem dS_useBands_10 : decode bS_useBands 10 = .ok (.if_icmp .ge 45, 3) := by decide +kernel
theorem dS_useBands_13 : decode bS_useBands 13 = .ok (.aload_n 0, 1) := by decide +kernel
theorem dS_useBands_14 : decode bS_useBands 14 = .ok (.getfield 9, 3) := by decide +kernel
theorem dS_useBands_17 : decode bS_useBands 17 = .ok (.iload_n 1, 1) := by decide +kernel
theorem dS_useBands_18 : decode bS_useBands 18 = .ok (.bipush 100, 2) := by decide +kernel
theorem dS_useBands_20 : decode bS_useBands 20 = .ok (.aload_n 0, 1) := by decide +kernel
theorem dS_useBands_21 : decode bS_useBands 21 = .ok (.getfield 50, 3) := by decide +kernel
theorem dS_useBands_24 : decode bS_useBands 24 = .ok (.getfield 59, 3) := by decide +kernel
theorem dS_useBands_27 : decode bS_useBands 27 = .ok (.iload_n 1, 1) := by decide +kernel
theorem dS_useBands_28 : decode bS_useBands 28 = .ok (.iaload, 1) := by decide +kernel
theorem dS_useBands_29 : decode bS_useBands 29 = .ok (.imul, 1) := by decide +kernel
theorem dS_useBands_30 : decode bS_useBands 30 = .ok (.iastore, 1) := by decide +kernel
theorem dS_useBands_31 : decode bS_useBands 31 = .ok (.aload_n 0, 1) := by decide +kernel
theorem dS_useBands_32 : decode bS_useBands 32 = .ok (.getfield 15, 3) := by decide +kernel
theorem dS_useBands_35 : decode bS_useBands 35 = .ok (.iload_n 1, 1) := by decide +kernel
theorem dS_useBands_36 : decode bS_useBands 36 = .ok (.bipush 100, 2) := by decide +kernel
theorem dS_useBands_38 : decode bS_useBands 38 = .ok (.aload_n 0, 1) := by decide +kernel
theorem dS_useBands_39 : decode bS_useBands 39 = .ok (.getfield 50, 3) := by decide +kernel
theorem dS_useBands_42 : decode bS_useBands 42 = .ok (.getfield 62, 3) := by decide +kernel
theorem dS_useBands_45 : decode bS_useBands 45 = .ok (.iload_n 1, 1) := by decide +kernel
theorem dS_useBands_46 : decode bS_useBands 46 = .ok (.iaload, 1) := by decide +kernel
theorem dS_useBands_47 : decode bS_useBands 47 = .ok (.imul, 1) := by decide +kernel
theorem dS_useBands_48 : decode bS_useBands 48 = .ok (.iastore, 1) := by decide +kernel
theorem dS_useBands_49 : decode bS_useBands 49 = .ok (.iinc 1 1, 3) := by decide +kernel
theorem dS_useBands_52 : decode bS_useBands 52 = .ok (.goto (-50), 3) := by decide +kernel
theorem dS_useBands_55 : decode bS_useBands 55 = .ok (.return_, 1) := by decide +kernel
theorem dS_widen_0 : decode bS_widen 0 = .ok (.iload_n 2, 1) := by decide +kernel
theorem dS_widen_1 : decode bS_widen 1 = .ok (.ifCond .eq 32, 3) := by decide +kernel
theorem dS_widen_4 : decode bS_widen 4 = .ok (.aload_n 0, 1) := by decide +kernel
theorem dS_widen_5 : decode bS_widen 5 = .ok (.getfield 15, 3) := by decide +kernel
theorem dS_widen_8 : decode bS_widen 8 = .ok (.iload_n 1, 1) := by decide +kernel
theorem dS_widen_9 : decode bS_widen 9 = .ok (.bipush 100, 2) := by decide +kernel
theorem dS_widen_11 : decode bS_widen 11 = .ok (.sipush 1000, 3) := by decide +kernel
theorem dS_widen_14 : decode bS_widen 14 = .ok (.aload_n 0, 1) := by decide +kernel
theorem dS_widen_15 : decode bS_widen 15 = .ok (.getfield 50, 3) := by decide +kernel
theorem dS_widen_18 : decode bS_widen 18 = .ok (.getfield 62, 3) := by decide +kernel
theorem dS_widen_21 : decode bS_widen 21 = .ok (.iload_n 1, 1) := by decide +kernel
theorem dS_widen_22 : decode bS_widen 22 = .ok (.iaload, 1) := by decide +kernel
theorem dS_widen_23 : decode bS_widen 23 = .ok (.iload_n 3, 1) := by decide +kernel
theorem dS_widen_24 : decode bS_widen 24 = .ok (.iadd, 1) := by decide +kernel
theorem dS_widen_25 : decode bS_widen 25 = .ok (.invokestatic 65, 3) := by decide +kernel
theorem dS_widen_28 : decode bS_widen 28 = .ok (.imul, 1) := by decide +kernel
theorem dS_widen_29 : decode bS_widen 29 = .ok (.iastore, 1) := by decide +kernel
theorem dS_widen_30 : decode bS_widen 30 = .ok (.goto 27, 3) := by decide +kernel
theorem dS_widen_33 : decode bS_widen 33 = .ok (.aload_n 0, 1) := by decide +kernel
theorem dS_widen_34 : decode bS_widen 34 = .ok (.getfield 9, 3) := by decide +kernel
theorem dS_widen_37 : decode bS_widen 37 = .ok (.iload_n 1, 1) := by decide +kernel
theorem dS_widen_38 : decode bS_widen 38 = .ok (.bipush 100, 2) := by decide +kernel
theorem dS_widen_40 : decode bS_widen 40 = .ok (.iconst 0, 1) := by decide +kernel
theorem dS_widen_41 : decode bS_widen 41 = .ok (.aload_n 0, 1) := by decide +kernel
theorem dS_widen_42 : decode bS_widen 42 = .ok (.getfield 50, 3) := by decide +kernel
theorem dS_widen_45 : decode bS_widen 45 = .ok (.getfield 59, 3) := by decide +kernel
theorem dS_widen_48 : decode bS_widen 48 = .ok (.iload_n 1, 1) := by decide +kernel
theorem dS_widen_49 : decode bS_widen 49 = .ok (.iaload, 1) := by decide +kernel
theorem dS_widen_50 : decode bS_widen 50 = .ok (.iload_n 3, 1) := by decide +kernel
theorem dS_widen_51 : decode bS_widen 51 = .ok (.isub, 1) := by decide +kernel
theorem dS_widen_52 : decode bS_widen 52 = .ok (.invokestatic 71, 3) := by decide +kernel
theorem dS_widen_55 : decode bS_widen 55 = .ok (.imul, 1) := by decide +kernel
theorem dS_widen_56 : decode bS_widen 56 = .ok (.iastore, 1) := by decide +kernel
theorem dS_widen_57 : decode bS_widen 57 = .ok (.return_, 1) := by decide +kernel
theorem dS_lookAtAll_0 : decode bS_lookAtAll 0 = .ok (.aload_n 0, 1) := by decide +kernel
theorem dS_lookAtAll_1 : decode bS_lookAtAll 1 = .ok (.iconst 0, 1) := by decide +kernel
theorem dS_lookAtAll_2 : decode bS_lookAtAll 2 = .ok (.putfield 43, 3) := by decide +kernel
theorem dS_lookAtAll_5 : decode bS_lookAtAll 5 = .ok (.aload_n 0, 1) := by decide +kernel
theorem dS_lookAtAll_6 : decode bS_lookAtAll 6 = .ok (.iconst 0, 1) := by decide +kernel
theorem dS_lookAtAll_7 : decode bS_lookAtAll 7 = .ok (.putfield 47, 3) := by decide +kernel
theorem dS_lookAtAll_10 : decode bS_lookAtAll 10 = .ok (.aload_n 0, 1) := by decide +kernel
theorem dS_lookAtAll_11 : decode bS_lookAtAll 11 = .ok (.getfield 36, 3) := by decide +kernel
theorem dS_lookAtAll_14 : decode bS_lookAtAll 14 = .ok (.iconst 0, 1) := by decide +kernel
theorem dS_lookAtAll_15 : decode bS_lookAtAll 15 = .ok (.putfield 74, 3) := by decide +kernel
theorem dS_lookAtAll_18 : decode bS_lookAtAll 18 = .ok (.aload_n 0, 1) := by decide +kernel
theorem dS_lookAtAll_19 : decode bS_lookAtAll 19 = .ok (.getfield 40, 3) := by decide +kernel
theorem dS_lookAtAll_22 : decode bS_lookAtAll 22 = .ok (.iconst 0, 1) := by decide +kernel
theorem dS_lookAtAll_23 : decode bS_lookAtAll 23 = .ok (.putfield 74, 3) := by decide +kernel
theorem dS_lookAtAll_26 : decode bS_lookAtAll 26 = .ok (.iconst 0, 1) := by decide +kernel
theorem dS_lookAtAll_27 : decode bS_lookAtAll 27 = .ok (.istore_n 1, 1) := by decide +kernel
theorem dS_lookAtAll_28 : decode bS_lookAtAll 28 = .ok (.iload_n 1, 1) := by decide +kernel
theorem dS_lookAtAll_29 : decode bS_lookAtAll 29 = .ok (.bipush 6, 2) := by decide +kernel
theorem dS_lookAtAll_31 : decode bS_lookAtAll 31 = .ok (.if_icmp .ge 16, 3) := by decide +kernel
theorem dS_lookAtAll_34 : decode bS_lookAtAll 34 = .ok (.aload_n 0, 1) := by decide +kernel
theorem dS_lookAtAll_35 : decode bS_lookAtAll 35 = .ok (.getfield 29, 3) := by decide +kernel
theorem dS_lookAtAll_38 : decode bS_lookAtAll 38 = .ok (.iload_n 1, 1) := by decide +kernel
theorem dS_lookAtAll_39 : decode bS_lookAtAll 39 = .ok (.iconst 0, 1) := by decide +kernel
theorem dS_lookAtAll_40 : decode bS_lookAtAll 40 = .ok (.bastore, 1) := by decide +kernel
theorem dS_lookAtAll_41 : decode bS_lookAtAll 41 = .ok (.iinc 1 1, 3) := by decide +kernel
theorem dS_lookAtAll_44 : decode bS_lookAtAll 44 = .ok (.goto (-16), 3) := by decide +kernel
theorem dS_lookAtAll_47 : decode bS_lookAtAll 47 = .ok (.aload_n 0, 1) := by decide +kernel
theorem dS_lookAtAll_48 : decode bS_lookAtAll 48 = .ok (.iconst 0, 1) := by decide +kernel
theorem dS_lookAtAll_49 : decode bS_lookAtAll 49 = .ok (.bipush 100, 2) := by decide +kernel
theorem dS_lookAtAll_51 : decode bS_lookAtAll 51 = .ok (.aload_n 0, 1) := by decide +kernel
theorem dS_lookAtAll_52 : decode bS_lookAtAll 52 = .ok (.getfield 50, 3) := by decide +kernel
theorem dS_lookAtAll_55 : decode bS_lookAtAll 55 = .ok (.getfield 78, 3) := by decide +kernel
theorem dS_lookAtAll_58 : decode bS_lookAtAll 58 = .ok (.iconst 0, 1) := by decide +kernel
theorem dS_lookAtAll_59 : decode bS_lookAtAll 59 = .ok (.invokevirtual 81, 3) := by decide +kernel
theorem dS_lookAtAll_62 : decode bS_lookAtAll 62 = .ok (.return_, 1) := by decide +kernel
theorem dS_fillFrom_0 : decode bS_fillFrom 0 = .ok (.iload_n 1, 1) := by decide +kernel
theorem dS_fillFrom_1 : decode bS_fillFrom 1 = .ok (.ifCond .lt 14, 3) := by decide +kernel
theorem dS_fillFrom_4 : decode bS_fillFrom 4 = .ok (.iload_n 1, 1) := by decide +kernel
theorem dS_fillFrom_5 : decode bS_fillFrom 5 = .ok (.aload_n 0, 1) := by decide +kernel
theorem dS_fillFrom_6 : decode bS_fillFrom 6 = .ok (.getfield 50, 3) := by decide +kernel
theorem dS_fillFrom_9 : decode bS_fillFrom 9 = .ok (.getfield 85, 3) := by decide +kernel
theorem dS_fillFrom_12 : decode bS_fillFrom 12 = .ok (.if_icmp .lt 4, 3) := by decide +kernel
theorem dS_fillFrom_15 : decode bS_fillFrom 15 = .ok (.return_, 1) := by decide +kernel
theorem dS_fillFrom_16 : decode bS_fillFrom 16 = .ok (.aload_n 0, 1) := by decide +kernel
theorem dS_fillFrom_17 : decode bS_fillFrom 17 = .ok (.getfield 50, 3) := by decide +kernel
theorem dS_fillFrom_20 : decode bS_fillFrom 20 = .ok (.getfield 88, 3) := by decide +kernel
theorem dS_fillFrom_23 : decode bS_fillFrom 23 = .ok (.iload_n 1, 1) := by decide +kernel
theorem dS_fillFrom_24 : decode bS_fillFrom 24 = .ok (.baload, 1) := by decide +kernel
theorem dS_fillFrom_25 : decode bS_fillFrom 25 = .ok (.ifCond .eq 11, 3) := by decide +kernel
theorem dS_fillFrom_28 : decode bS_fillFrom 28 = .ok (.iload_n 2, 1) := by decide +kernel
theorem dS_fillFrom_29 : decode bS_fillFrom 29 = .ok (.iload_n 3, 1) := by decide +kernel
theorem dS_fillFrom_30 : decode bS_fillFrom 30 = .ok (.invokestatic 65, 3) := by decide +kernel
theorem dS_fillFrom_33 : decode bS_fillFrom 33 = .ok (.goto 4, 3) := by decide +kernel
theorem dS_fillFrom_36 : decode bS_fillFrom 36 = .ok (.iload_n 2, 1) := by decide +kernel
theorem dS_fillFrom_37 : decode bS_fillFrom 37 = .ok (.istore 5, 2) := by decide +kernel
theorem dS_fillFrom_39 : decode bS_fillFrom 39 = .ok (.iload 5, 2) := by decide +kernel
theorem dS_fillFrom_41 : decode bS_fillFrom 41 = .ok (.aload_n 0, 1) := by decide +kernel
theorem dS_fillFrom_42 : decode bS_fillFrom 42 = .ok (.getfield 50, 3) := by decide +kernel
theorem dS_fillFrom_45 : decode bS_fillFrom 45 = .ok (.getfield 91, 3) := by decide +kernel
theorem dS_fillFrom_48 : decode bS_fillFrom 48 = .ok (.iload_n 1, 1) := by decide +kernel
theorem dS_fillFrom_49 : decode bS_fillFrom 49 = .ok (.iaload, 1) := by decide +kernel
theorem dS_fillFrom_50 : decode bS_fillFrom 50 = .ok (.invokestatic 65, 3) := by decide +kernel
theorem dS_fillFrom_53 : decode bS_fillFrom 53 = .ok (.istore 6, 2) := by decide +kernel
theorem dS_fillFrom_55 : decode bS_fillFrom 55 = .ok (.iload_n 1, 1) := by decide +kernel
theorem dS_fillFrom_56 : decode bS_fillFrom 56 = .ok (.aload_n 0, 1) := by decide +kernel
theorem dS_fillFrom_57 : decode bS_fillFrom 57 = .ok (.getfield 50, 3) := by decide +kernel
theorem dS_fillFrom_60 : decode bS_fillFrom 60 = .ok (.getfield 85, 3) := by decide +kernel
theorem dS_fillFrom_63 : decode bS_fillFrom 63 = .ok (.iconst 1, 1) := by decide +kernel
theorem dS_fillFrom_64 : decode bS_fillFrom 64 = .ok (.isub, 1) := by decide +kernel
theorem dS_fillFrom_65 : decode bS_fillFrom 65 = .ok (.if_icmp .ne 53, 3) := by decide +kernel
theorem dS_fillFrom_68 : decode bS_fillFrom 68 = .ok (.iload_n 2, 1) := by decide +kernel
theorem dS_fillFrom_69 : decode bS_fillFrom 69 = .ok (.aload_n 0, 1) := by decide +kernel
theorem dS_fillFrom_70 : decode bS_fillFrom 70 = .ok (.getfield 50, 3) := by decide +kernel
theorem dS_fillFrom_73 : decode bS_fillFrom 73 = .ok (.getfield 94, 3) := by decide +kernel
theorem dS_fillFrom_76 : decode bS_fillFrom 76 = .ok (.iload_n 1, 1) := by decide +kernel
theorem dS_fillFrom_77 : decode bS_fillFrom 77 = .ok (.iaload, 1) := by decide +kernel
theorem dS_fillFrom_78 : decode bS_fillFrom 78 = .ok (.iload 6, 2) := by decide +kernel
theorem dS_fillFrom_80 : decode bS_fillFrom 80 = .ok (.invokestatic 97, 3) := by decide +kernel
theorem dS_fillFrom_83 : decode bS_fillFrom 83 = .ok (.ifCond .eq 34, 3) := by decide +kernel
theorem dS_fillFrom_86 : decode bS_fillFrom 86 = .ok (.aload_n 0, 1) := by decide +kernel
theorem dS_fillFrom_87 : decode bS_fillFrom 87 = .ok (.getfield 18, 3) := by decide +kernel
theorem dS_fillFrom_90 : decode bS_fillFrom 90 = .ok (.iload_n 1, 1) := by decide +kernel
theorem dS_fillFrom_91 : decode bS_fillFrom 91 = .ok (.iload_n 2, 1) := by decide +kernel
theorem dS_fillFrom_92 : decode bS_fillFrom 92 = .ok (.iastore, 1) := by decide +kernel
theorem dS_fillFrom_93 : decode bS_fillFrom 93 = .ok (.aload_n 0, 1) := by decide +kernel
theorem dS_fillFrom_94 : decode bS_fillFrom 94 = .ok (.iload 4, 2) := by decide +kernel
theorem dS_fillFrom_96 : decode bS_fillFrom 96 = .ok (.iload_n 2, 1) := by decide +kernel
theorem dS_fillFrom_97 : decode bS_fillFrom 97 = .ok (.aload_n 0, 1) := by decide +kernel
theorem dS_fillFrom_98 : decode bS_fillFrom 98 = .ok (.getfield 50, 3) := by decide +kernel
theorem dS_fillFrom_101 : decode bS_fillFrom 101 = .ok (.getfield 101, 3) := by decide +kernel
theorem dS_fillFrom_104 : decode bS_fillFrom 104 = .ok (.iload_n 1, 1) := by decide +kernel
theorem dS_fillFrom_105 : decode bS_fillFrom 105 = .ok (.iaload, 1) := by decide +kernel
theorem dS_fillFrom_106 : decode bS_fillFrom 106 = .ok (.imul, 1) := by decide +kernel
theorem dS_fillFrom_107 : decode bS_fillFrom 107 = .ok (.iadd, 1) := by decide +kernel
theorem dS_fillFrom_108 : decode bS_fillFrom 108 = .ok (.aload_n 0, 1) := by decide +kernel
theorem dS_fillFrom_109 : decode bS_fillFrom 109 = .ok (.iload_n 1, 1) := by decide +kernel
theorem dS_fillFrom_110 : decode bS_fillFrom 110 = .ok (.iload_n 2, 1) := by decide +kernel
theorem dS_fillFrom_111 : decode bS_fillFrom 111 = .ok (.invokevirtual 104, 3) := by decide +kernel
theorem dS_fillFrom_114 : decode bS_fillFrom 114 = .ok (.invokevirtual 107, 3) := by decide +kernel
theorem dS_fillFrom_117 : decode bS_fillFrom 117 = .ok (.return_, 1) := by decide +kernel
theorem dS_fillFrom_118 : decode bS_fillFrom 118 = .ok (.iconst 0, 1) := by decide +kernel
theorem dS_fillFrom_119 : decode bS_fillFrom 119 = .ok (.istore 7, 2) := by decide +kernel
theorem dS_fillFrom_121 : decode bS_fillFrom 121 = .ok (.iload 7, 2) := by decide +kernel
theorem dS_fillFrom_123 : decode bS_fillFrom 123 = .ok (.bipush 100, 2) := by decide +kernel
theorem dS_fillFrom_125 : decode bS_fillFrom 125 = .ok (.if_icmp .gt 102, 3) := by decide +kernel
theorem dS_fillFrom_128 : decode bS_fillFrom 128 = .ok (.iload 7, 2) := by decide +kernel
theorem dS_fillFrom_130 : decode bS_fillFrom 130 = .ok (.aload_n 0, 1) := by decide +kernel
theorem dS_fillFrom_131 : decode bS_fillFrom 131 = .ok (.getfield 50, 3) := by decide +kernel
theorem dS_fillFrom_134 : decode bS_fillFrom 134 = .ok (.getfield 111, 3) := by decide +kernel
theorem dS_fillFrom_137 : decode bS_fillFrom 137 = .ok (.imul, 1) := by decide +kernel
theorem dS_fillFrom_138 : decode bS_fillFrom 138 = .ok (.istore 8, 2) := by decide +kernel
theorem dS_fillFrom_140 : decode bS_fillFrom 140 = .ok (.iload 8, 2) := by decide +kernel
theorem dS_fillFrom_142 : decode bS_fillFrom 142 = .ok (.iload 6, 2) := by decide +kernel
theorem dS_fillFrom_144 : decode bS_fillFrom 144 = .ok (.if_icmp .le 6, 3) := by decide +kernel
theorem dS_fillFrom_147 : decode bS_fillFrom 147 = .ok (.goto 80, 3) := by decide +kernel
theorem dS_fillFrom_150 : decode bS_fillFrom 150 = .ok (.iload 8, 2) := by decide +kernel
theorem dS_fillFrom_152 : decode bS_fillFrom 152 = .ok (.aload_n 0, 1) := by decide +kernel
theorem dS_fillFrom_153 : decode bS_fillFrom 153 = .ok (.getfield 50, 3) := by decide +kernel
theorem dS_fillFrom_156 : decode bS_fillFrom 156 = .ok (.getfield 94, 3) := by decide +kernel
theorem dS_fillFrom_159 : decode bS_fillFrom 159 = .ok (.iload_n 1, 1) := by decide +kernel
theorem dS_fillFrom_160 : decode bS_fillFrom 160 = .ok (.iaload, 1) := by decide +kernel
theorem dS_fillFrom_161 : decode bS_fillFrom 161 = .ok (.if_icmp .lt 60, 3) := by decide +kernel
theorem dS_fillFrom_164 : decode bS_fillFrom 164 = .ok (.aload_n 0, 1) := by decide +kernel
theorem dS_fillFrom_165 : decode bS_fillFrom 165 = .ok (.iload_n 1, 1) := by decide +kernel
theorem dS_fillFrom_166 : decode bS_fillFrom 166 = .ok (.iload 8, 2) := by decide +kernel
theorem dS_fillFrom_168 : decode bS_fillFrom 168 = .ok (.invokevirtual 114, 3) := by decide +kernel
theorem dS_fillFrom_171 : decode bS_fillFrom 171 = .ok (.aload_n 0, 1) := by decide +kernel
theorem dS_fillFrom_172 : decode bS_fillFrom 172 = .ok (.getfield 50, 3) := by decide +kernel
theorem dS_fillFrom_175 : decode bS_fillFrom 175 = .ok (.getfield 88, 3) := by decide +kernel
theorem dS_fillFrom_178 : decode bS_fillFrom 178 = .ok (.iload_n 1, 1) := by decide +kernel
theorem dS_fillFrom_179 : decode bS_fillFrom 179 = .ok (.baload, 1) := by decide +kernel
theorem dS_fillFrom_180 : decode bS_fillFrom 180 = .ok (.ifCond .eq 10, 3) := by decide +kernel
theorem dS_fillFrom_183 : decode bS_fillFrom 183 = .ok (.iload_n 3, 1) := by decide +kernel
theorem dS_fillFrom_184 : decode bS_fillFrom 184 = .ok (.iload 8, 2) := by decide +kernel
theorem dS_fillFrom_186 : decode bS_fillFrom 186 = .ok (.isub, 1) := by decide +kernel
theorem dS_fillFrom_187 : decode bS_fillFrom 187 = .ok (.goto 4, 3) := by decide +kernel
theorem dS_fillFrom_190 : decode bS_fillFrom 190 = .ok (.iload_n 3, 1) := by decide +kernel
theorem dS_fillFrom_191 : decode bS_fillFrom 191 = .ok (.istore 9, 2) := by decide +kernel
theorem dS_fillFrom_193 : decode bS_fillFrom 193 = .ok (.aload_n 0, 1) := by decide +kernel
theorem dS_fillFrom_194 : decode bS_fillFrom 194 = .ok (.iload_n 1, 1) := by decide +kernel
theorem dS_fillFrom_195 : decode bS_fillFrom 195 = .ok (.iconst 1, 1) := by decide +kernel
theorem dS_fillFrom_196 : decode bS_fillFrom 196 = .ok (.iadd, 1) := by decide +kernel
theorem dS_fillFrom_197 : decode bS_fillFrom 197 = .ok (.iload_n 2, 1) := by decide +kernel
theorem dS_fillFrom_198 : decode bS_fillFrom 198 = .ok (.iload 8, 2) := by decide +kernel
theorem dS_fillFrom_200 : decode bS_fillFrom 200 = .ok (.isub, 1) := by decide +kernel
theorem dS_fillFrom_201 : decode bS_fillFrom 201 = .ok (.iload 9, 2) := by decide +kernel
theorem dS_fillFrom_203 : decode bS_fillFrom 203 = .ok (.iload 4, 2) := by decide +kernel
theorem dS_fillFrom_205 : decode bS_fillFrom 205 = .ok (.iload 8, 2) := by decide +kernel
theorem dS_fillFrom_207 : decode bS_fillFrom 207 = .ok (.aload_n 0, 1) := by decide +kernel
theorem dS_fillFrom_208 : decode bS_fillFrom 208 = .ok (.getfield 50, 3) := by decide +kernel
theorem dS_fillFrom_211 : decode bS_fillFrom 211 = .ok (.getfield 101, 3) := by decide +kernel
theorem dS_fillFrom_214 : decode bS_fillFrom 214 = .ok (.iload_n 1, 1) := by decide +kernel
theorem dS_fillFrom_215 : decode bS_fillFrom 215 = .ok (.iaload, 1) := by decide +kernel
theorem dS_fillFrom_216 : decode bS_fillFrom 216 = .ok (.imul, 1) := by decide +kernel
theorem dS_fillFrom_217 : decode bS_fillFrom 217 = .ok (.iadd, 1) := by decide +kernel
theorem dS_fillFrom_218 : decode bS_fillFrom 218 = .ok (.invokevirtual 81, 3) := by decide +kernel
theorem dS_fillFrom_221 : decode bS_fillFrom 221 = .ok (.iinc 7 1, 3) := by decide +kernel
theorem dS_fillFrom_224 : decode bS_fillFrom 224 = .ok (.goto (-103), 3) := by decide +kernel
theorem dS_fillFrom_227 : decode bS_fillFrom 227 = .ok (.return_, 1) := by decide +kernel
theorem dS_putShare_0 : decode bS_putShare 0 = .ok (.aload_n 0, 1) := by decide +kernel
theorem dS_putShare_1 : decode bS_putShare 1 = .ok (.getfield 18, 3) := by decide +kernel
theorem dS_putShare_4 : decode bS_putShare 4 = .ok (.iload_n 1, 1) := by decide +kernel
theorem dS_putShare_5 : decode bS_putShare 5 = .ok (.iload_n 2, 1) := by decide +kernel
theorem dS_putShare_6 : decode bS_putShare 6 = .ok (.iastore, 1) := by decide +kernel
theorem dS_putShare_7 : decode bS_putShare 7 = .ok (.iconst 0, 1) := by decide +kernel
theorem dS_putShare_8 : decode bS_putShare 8 = .ok (.istore_n 3, 1) := by decide +kernel
theorem dS_putShare_9 : decode bS_putShare 9 = .ok (.iload_n 3, 1) := by decide +kernel
theorem dS_putShare_10 : decode bS_putShare 10 = .ok (.aload_n 0, 1) := by decide +kernel
theorem dS_putShare_11 : decode bS_putShare 11 = .ok (.getfield 50, 3) := by decide +kernel
theorem dS_putShare_14 : decode bS_putShare 14 = .ok (.getfield 54, 3) := by decide +kernel
theorem dS_putShare_17 : decode bS_putShare 17 = .ok (.if_icmp .ge 73, 3) := by decide +kernel
theorem dS_putShare_20 : decode bS_putShare 20 = .ok (.aload_n 0, 1) := by decide +kernel
theorem dS_putShare_21 : decode bS_putShare 21 = .ok (.getfield 23, 3) := by decide +kernel
theorem dS_putShare_24 : decode bS_putShare 24 = .ok (.iload_n 1, 1) := by decide +kernel
theorem dS_putShare_25 : decode bS_putShare 25 = .ok (.iconst 1, 1) := by decide +kernel
theorem dS_putShare_26 : decode bS_putShare 26 = .ok (.iadd, 1) := by decide +kernel
theorem dS_putShare_27 : decode bS_putShare 27 = .ok (.aaload, 1) := by decide +kernel
theorem dS_putShare_28 : decode bS_putShare 28 = .ok (.iload_n 3, 1) := by decide +kernel
theorem dS_putShare_29 : decode bS_putShare 29 = .ok (.aload_n 0, 1) := by decide +kernel
theorem dS_putShare_30 : decode bS_putShare 30 = .ok (.getfield 23, 3) := by decide +kernel
theorem dS_putShare_33 : decode bS_putShare 33 = .ok (.iload_n 1, 1) := by decide +kernel
theorem dS_putShare_34 : decode bS_putShare 34 = .ok (.aaload, 1) := by decide +kernel
theorem dS_putShare_35 : decode bS_putShare 35 = .ok (.iload_n 3, 1) := by decide +kernel
theorem dS_putShare_36 : decode bS_putShare 36 = .ok (.iaload, 1) := by decide +kernel
theorem dS_putShare_37 : decode bS_putShare 37 = .ok (.iload_n 2, 1) := by decide +kernel
theorem dS_putShare_38 : decode bS_putShare 38 = .ok (.aload_n 0, 1) := by decide +kernel
theorem dS_putShare_39 : decode bS_putShare 39 = .ok (.getfield 50, 3) := by decide +kernel
theorem dS_putShare_42 : decode bS_putShare 42 = .ok (.getfield 117, 3) := by decide +kernel
theorem dS_putShare_45 : decode bS_putShare 45 = .ok (.iload_n 1, 1) := by decide +kernel
theorem dS_putShare_46 : decode bS_putShare 46 = .ok (.aaload, 1) := by decide +kernel
theorem dS_putShare_47 : decode bS_putShare 47 = .ok (.iload_n 3, 1) := by decide +kernel
theorem dS_putShare_48 : decode bS_putShare 48 = .ok (.iaload, 1) := by decide +kernel
theorem dS_putShare_49 : decode bS_putShare 49 = .ok (.imul, 1) := by decide +kernel
theorem dS_putShare_50 : decode bS_putShare 50 = .ok (.iadd, 1) := by decide +kernel
theorem dS_putShare_51 : decode bS_putShare 51 = .ok (.iastore, 1) := by decide +kernel
theorem dS_putShare_52 : decode bS_putShare 52 = .ok (.aload_n 0, 1) := by decide +kernel
theorem dS_putShare_53 : decode bS_putShare 53 = .ok (.getfield 26, 3) := by decide +kernel
theorem dS_putShare_56 : decode bS_putShare 56 = .ok (.iload_n 1, 1) := by decide +kernel
theorem dS_putShare_57 : decode bS_putShare 57 = .ok (.iconst 1, 1) := by decide +kernel
theorem dS_putShare_58 : decode bS_putShare 58 = .ok (.iadd, 1) := by decide +kernel
theorem dS_putShare_59 : decode bS_putShare 59 = .ok (.aaload, 1) := by decide +kernel
theorem dS_putShare_60 : decode bS_putShare 60 = .ok (.iload_n 3, 1) := by decide +kernel
theorem dS_putShare_61 : decode bS_putShare 61 = .ok (.aload_n 0, 1) := by decide +kernel
theorem dS_putShare_62 : decode bS_putShare 62 = .ok (.getfield 26, 3) := by decide +kernel
theorem dS_putShare_65 : decode bS_putShare 65 = .ok (.iload_n 1, 1) := by decide +kernel
theorem dS_putShare_66 : decode bS_putShare 66 = .ok (.aaload, 1) := by decide +kernel
theorem dS_putShare_67 : decode bS_putShare 67 = .ok (.iload_n 3, 1) := by decide +kernel
theorem dS_putShare_68 : decode bS_putShare 68 = .ok (.iaload, 1) := by decide +kernel
theorem dS_putShare_69 : decode bS_putShare 69 = .ok (.iload_n 2, 1) := by decide +kernel
theorem dS_putShare_70 : decode bS_putShare 70 = .ok (.aload_n 0, 1) := by decide +kernel
theorem dS_putShare_71 : decode bS_putShare 71 = .ok (.getfield 50, 3) := by decide +kernel
theorem dS_putShare_74 : decode bS_putShare 74 = .ok (.getfield 120, 3) := by decide +kernel
theorem dS_putShare_77 : decode bS_putShare 77 = .ok (.iload_n 1, 1) := by decide +kernel
theorem dS_putShare_78 : decode bS_putShare 78 = .ok (.aaload, 1) := by decide +kernel
theorem dS_putShare_79 : decode bS_putShare 79 = .ok (.iload_n 3, 1) := by decide +kernel
theorem dS_putShare_80 : decode bS_putShare 80 = .ok (.iaload, 1) := by decide +kernel
theorem dS_putShare_81 : decode bS_putShare 81 = .ok (.imul, 1) := by decide +kernel
theorem dS_putShare_82 : decode bS_putShare 82 = .ok (.iadd, 1) := by decide +kernel
theorem dS_putShare_83 : decode bS_putShare 83 = .ok (.iastore, 1) := by decide +kernel
theorem dS_putShare_84 : decode bS_putShare 84 = .ok (.iinc 3 1, 3) := by decide +kernel
theorem dS_putShare_87 : decode bS_putShare 87 = .ok (.goto (-78), 3) := by decide +kernel
theorem dS_putShare_90 : decode bS_putShare 90 = .ok (.return_, 1) := by decide +kernel
theorem dS_missOfAll_0 : decode bS_missOfAll 0 = .ok (.aload_n 0, 1) := by decide +kernel
theorem dS_missOfAll_1 : decode bS_missOfAll 1 = .ok (.getfield 23, 3) := by decide +kernel
theorem dS_missOfAll_4 : decode bS_missOfAll 4 = .ok (.iload_n 1, 1) := by decide +kernel
theorem dS_missOfAll_5 : decode bS_missOfAll 5 = .ok (.aaload, 1) := by decide +kernel
theorem dS_missOfAll_6 : decode bS_missOfAll 6 = .ok (.astore_n 3, 1) := by decide +kernel
theorem dS_missOfAll_7 : decode bS_missOfAll 7 = .ok (.aload_n 0, 1) := by decide +kernel
theorem dS_missOfAll_8 : decode bS_missOfAll 8 = .ok (.getfield 26, 3) := by decide +kernel
theorem dS_missOfAll_11 : decode bS_missOfAll 11 = .ok (.iload_n 1, 1) := by decide +kernel
theorem dS_missOfAll_12 : decode bS_missOfAll 12 = .ok (.aaload, 1) := by decide +kernel
theorem dS_missOfAll_13 : decode bS_missOfAll 13 = .ok (.astore 4, 2) := by decide +kernel
theorem dS_missOfAll_15 : decode bS_missOfAll 15 = .ok (.aload_n 0, 1) := by decide +kernel
theorem dS_missOfAll_16 : decode bS_missOfAll 16 = .ok (.getfield 50, 3) := by decide +kernel
theorem dS_missOfAll_19 : decode bS_missOfAll 19 = .ok (.getfield 117, 3) := by decide +kernel
theorem dS_missOfAll_22 : decode bS_missOfAll 22 = .ok (.iload_n 1, 1) := by decide +kernel
theorem dS_missOfAll_23 : decode bS_missOfAll 23 = .ok (.aaload, 1) := by decide +kernel
theorem dS_missOfAll_24 : decode bS_missOfAll 24 = .ok (.astore 5, 2) := by decide +kernel
theorem dS_missOfAll_26 : decode bS_missOfAll 26 = .ok (.aload_n 0, 1) := by decide +kernel
theorem dS_missOfAll_27 : decode bS_missOfAll 27 = .ok (.getfield 50, 3) := by decide +kernel
theorem dS_missOfAll_30 : decode bS_missOfAll 30 = .ok (.getfield 120, 3) := by decide +kernel
theorem dS_missOfAll_33 : decode bS_missOfAll 33 = .ok (.iload_n 1, 1) := by decide +kernel
theorem dS_missOfAll_34 : decode bS_missOfAll 34 = .ok (.aaload, 1) := by decide +kernel
theorem dS_missOfAll_35 : decode bS_missOfAll 35 = .ok (.astore 6, 2) := by decide +kernel
theorem dS_missOfAll_37 : decode bS_missOfAll 37 = .ok (.iconst 0, 1) := by decide +kernel
theorem dS_missOfAll_38 : decode bS_missOfAll 38 = .ok (.istore 7, 2) := by decide +kernel
theorem dS_missOfAll_40 : decode bS_missOfAll 40 = .ok (.iconst 0, 1) := by decide +kernel
theorem dS_missOfAll_41 : decode bS_missOfAll 41 = .ok (.istore 8, 2) := by decide +kernel
theorem dS_missOfAll_43 : decode bS_missOfAll 43 = .ok (.iload 8, 2) := by decide +kernel
theorem dS_missOfAll_45 : decode bS_missOfAll 45 = .ok (.aload_n 0, 1) := by decide +kernel
theorem dS_missOfAll_46 : decode bS_missOfAll 46 = .ok (.getfield 50, 3) := by decide +kernel
theorem dS_missOfAll_49 : decode bS_missOfAll 49 = .ok (.getfield 54, 3) := by decide +kernel
theorem dS_missOfAll_52 : decode bS_missOfAll 52 = .ok (.if_icmp .ge 89, 3) := by decide +kernel
theorem dS_missOfAll_55 : decode bS_missOfAll 55 = .ok (.aload_n 0, 1) := by decide +kernel
theorem dS_missOfAll_56 : decode bS_missOfAll 56 = .ok (.getfield 9, 3) := by decide +kernel
theorem dS_missOfAll_59 : decode bS_missOfAll 59 = .ok (.iload 8, 2) := by decide +kernel
theorem dS_missOfAll_61 : decode bS_missOfAll 61 = .ok (.iaload, 1) := by decide +kernel
theorem dS_missOfAll_62 : decode bS_missOfAll 62 = .ok (.aload_n 3, 1) := by decide +kernel
theorem dS_missOfAll_63 : decode bS_missOfAll 63 = .ok (.iload 8, 2) := by decide +kernel
theorem dS_missOfAll_65 : decode bS_missOfAll 65 = .ok (.iaload, 1) := by decide +kernel
theorem dS_missOfAll_66 : decode bS_missOfAll 66 = .ok (.isub, 1) := by decide +kernel
theorem dS_missOfAll_67 : decode bS_missOfAll 67 = .ok (.iload_n 2, 1) := by decide +kernel
theorem dS_missOfAll_68 : decode bS_missOfAll 68 = .ok (.aload 5, 2) := by decide +kernel
theorem dS_missOfAll_70 : decode bS_missOfAll 70 = .ok (.iload 8, 2) := by decide +kernel
theorem dS_missOfAll_72 : decode bS_missOfAll 72 = .ok (.iaload, 1) := by decide +kernel
theorem dS_missOfAll_73 : decode bS_missOfAll 73 = .ok (.imul, 1) := by decide +kernel
theorem dS_missOfAll_74 : decode bS_missOfAll 74 = .ok (.isub, 1) := by decide +kernel
theorem dS_missOfAll_75 : decode bS_missOfAll 75 = .ok (.istore 9, 2) := by decide +kernel
theorem dS_missOfAll_77 : decode bS_missOfAll 77 = .ok (.aload 4, 2) := by decide +kernel
theorem dS_missOfAll_79 : decode bS_missOfAll 79 = .ok (.iload 8, 2) := by decide +kernel
theorem dS_missOfAll_81 : decode bS_missOfAll 81 = .ok (.iaload, 1) := by decide +kernel
theorem dS_missOfAll_82 : decode bS_missOfAll 82 = .ok (.iload_n 2, 1) := by decide +kernel
theorem dS_missOfAll_83 : decode bS_missOfAll 83 = .ok (.aload 6, 2) := by decide +kernel
theorem dS_missOfAll_85 : decode bS_missOfAll 85 = .ok (.iload 8, 2) := by decide +kernel
theorem dS_missOfAll_87 : decode bS_missOfAll 87 = .ok (.iaload, 1) := by decide +kernel
theorem dS_missOfAll_88 : decode bS_missOfAll 88 = .ok (.imul, 1) := by decide +kernel
theorem dS_missOfAll_89 : decode bS_missOfAll 89 = .ok (.iadd, 1) := by decide +kernel
theorem dS_missOfAll_90 : decode bS_missOfAll 90 = .ok (.aload_n 0, 1) := by decide +kernel
theorem dS_missOfAll_91 : decode bS_missOfAll 91 = .ok (.getfield 15, 3) := by decide +kernel
theorem dS_missOfAll_94 : decode bS_missOfAll 94 = .ok (.iload 8, 2) := by decide +kernel
theorem dS_missOfAll_96 : decode bS_missOfAll 96 = .ok (.iaload, 1) := by decide +kernel
theorem dS_missOfAll_97 : decode bS_missOfAll 97 = .ok (.isub, 1) := by decide +kernel
theorem dS_missOfAll_98 : decode bS_missOfAll 98 = .ok (.istore 10, 2) := by decide +kernel
theorem dS_missOfAll_100 : decode bS_missOfAll 100 = .ok (.iconst 0, 1) := by decide +kernel
theorem dS_missOfAll_101 : decode bS_missOfAll 101 = .ok (.iload 9, 2) := by decide +kernel
theorem dS_missOfAll_103 : decode bS_missOfAll 103 = .ok (.invokestatic 71, 3) := by decide +kernel
theorem dS_missOfAll_106 : decode bS_missOfAll 106 = .ok (.iconst 0, 1) := by decide +kernel
theorem dS_missOfAll_107 : decode bS_missOfAll 107 = .ok (.iload 10, 2) := by decide +kernel
theorem dS_missOfAll_109 : decode bS_missOfAll 109 = .ok (.invokestatic 71, 3) := by decide +kernel
theorem dS_missOfAll_112 : decode bS_missOfAll 112 = .ok (.iadd, 1) := by decide +kernel
theorem dS_missOfAll_113 : decode bS_missOfAll 113 = .ok (.istore 11, 2) := by decide +kernel
theorem dS_missOfAll_115 : decode bS_missOfAll 115 = .ok (.iload 11, 2) := by decide +kernel
theorem dS_missOfAll_117 : decode bS_missOfAll 117 = .ok (.ifCond .ne 11, 3) := by decide +kernel
theorem dS_missOfAll_120 : decode bS_missOfAll 120 = .ok (.aload_n 0, 1) := by decide +kernel
theorem dS_missOfAll_121 : decode bS_missOfAll 121 = .ok (.getfield 29, 3) := by decide +kernel
theorem dS_missOfAll_124 : decode bS_missOfAll 124 = .ok (.iload 8, 2) := by decide +kernel
theorem dS_missOfAll_126 : decode bS_missOfAll 126 = .ok (.iconst 1, 1) := by decide +kernel
theorem dS_missOfAll_127 : decode bS_missOfAll 127 = .ok (.bastore, 1) := by decide +kernel
theorem dS_missOfAll_128 : decode bS_missOfAll 128 = .ok (.iload 7, 2) := by decide +kernel
theorem dS_missOfAll_130 : decode bS_missOfAll 130 = .ok (.iload 11, 2) := by decide +kernel
theorem dS_missOfAll_132 : decode bS_missOfAll 132 = .ok (.iadd, 1) := by decide +kernel
theorem dS_missOfAll_133 : decode bS_missOfAll 133 = .ok (.istore 7, 2) := by decide +kernel
theorem dS_missOfAll_135 : decode bS_missOfAll 135 = .ok (.iinc 8 1, 3) := by decide +kernel
theorem dS_missOfAll_138 : decode bS_missOfAll 138 = .ok (.goto (-95), 3) := by decide +kernel
theorem dS_missOfAll_141 : decode bS_missOfAll 141 = .ok (.iload 7, 2) := by decide +kernel
theorem dS_missOfAll_143 : decode bS_missOfAll 143 = .ok (.ireturn, 1) := by decide +kernel
theorem dS_lookAt_0 : decode bS_lookAt 0 = .ok (.aload_n 0, 1) := by decide +kernel
theorem dS_lookAt_1 : decode bS_lookAt 1 = .ok (.dup, 1) := by decide +kernel
theorem dS_lookAt_2 : decode bS_lookAt 2 = .ok (.getfield 43, 3) := by decide +kernel
theorem dS_lookAt_5 : decode bS_lookAt 5 = .ok (.iconst 1, 1) := by decide +kernel
theorem dS_lookAt_6 : decode bS_lookAt 6 = .ok (.iadd, 1) := by decide +kernel
theorem dS_lookAt_7 : decode bS_lookAt 7 = .ok (.putfield 43, 3) := by decide +kernel
theorem dS_lookAt_10 : decode bS_lookAt 10 = .ok (.iload_n 2, 1) := by decide +kernel
theorem dS_lookAt_11 : decode bS_lookAt 11 = .ok (.ifCond .ne 47, 3) := by decide +kernel
theorem dS_lookAt_14 : decode bS_lookAt 14 = .ok (.aload_n 0, 1) := by decide +kernel
theorem dS_lookAt_15 : decode bS_lookAt 15 = .ok (.dup, 1) := by decide +kernel
theorem dS_lookAt_16 : decode bS_lookAt 16 = .ok (.getfield 47, 3) := by decide +kernel
theorem dS_lookAt_19 : decode bS_lookAt 19 = .ok (.iconst 1, 1) := by decide +kernel
theorem dS_lookAt_20 : decode bS_lookAt 20 = .ok (.iadd, 1) := by decide +kernel
theorem dS_lookAt_21 : decode bS_lookAt 21 = .ok (.putfield 47, 3) := by decide +kernel
theorem dS_lookAt_24 : decode bS_lookAt 24 = .ok (.aload_n 0, 1) := by decide +kernel
theorem dS_lookAt_25 : decode bS_lookAt 25 = .ok (.getfield 36, 3) := by decide +kernel
theorem dS_lookAt_28 : decode bS_lookAt 28 = .ok (.getfield 74, 3) := by decide +kernel
theorem dS_lookAt_31 : decode bS_lookAt 31 = .ok (.ifCond .eq 14, 3) := by decide +kernel
theorem dS_lookAt_34 : decode bS_lookAt 34 = .ok (.iload_n 1, 1) := by decide +kernel
theorem dS_lookAt_35 : decode bS_lookAt 35 = .ok (.aload_n 0, 1) := by decide +kernel
theorem dS_lookAt_36 : decode bS_lookAt 36 = .ok (.getfield 36, 3) := by decide +kernel
theorem dS_lookAt_39 : decode bS_lookAt 39 = .ok (.getfield 123, 3) := by decide +kernel
theorem dS_lookAt_42 : decode bS_lookAt 42 = .ok (.if_icmp .ge 16, 3) := by decide +kernel
theorem dS_lookAt_45 : decode bS_lookAt 45 = .ok (.aload_n 0, 1) := by decide +kernel
theorem dS_lookAt_46 : decode bS_lookAt 46 = .ok (.getfield 36, 3) := by decide +kernel
theorem dS_lookAt_49 : decode bS_lookAt 49 = .ok (.aload_n 0, 1) := by decide +kernel
theorem dS_lookAt_50 : decode bS_lookAt 50 = .ok (.getfield 18, 3) := by decide +kernel
theorem dS_lookAt_53 : decode bS_lookAt 53 = .ok (.iload_n 1, 1) := by decide +kernel
theorem dS_lookAt_54 : decode bS_lookAt 54 = .ok (.iload_n 2, 1) := by decide +kernel
theorem dS_lookAt_55 : decode bS_lookAt 55 = .ok (.invokevirtual 125, 3) := by decide +kernel
theorem dS_lookAt_58 : decode bS_lookAt 58 = .ok (.aload_n 0, 1) := by decide +kernel
theorem dS_lookAt_59 : decode bS_lookAt 59 = .ok (.getfield 40, 3) := by decide +kernel
theorem dS_lookAt_62 : decode bS_lookAt 62 = .ok (.getfield 74, 3) := by decide +kernel
theorem dS_lookAt_65 : decode bS_lookAt 65 = .ok (.ifCond .eq 36, 3) := by decide +kernel
theorem dS_lookAt_68 : decode bS_lookAt 68 = .ok (.iload_n 2, 1) := by decide +kernel
theorem dS_lookAt_69 : decode bS_lookAt 69 = .ok (.aload_n 0, 1) := by decide +kernel
theorem dS_lookAt_70 : decode bS_lookAt 70 = .ok (.getfield 40, 3) := by decide +kernel
theorem dS_lookAt_73 : decode bS_lookAt 73 = .ok (.getfield 129, 3) := by decide +kernel
theorem dS_lookAt_76 : decode bS_lookAt 76 = .ok (.if_icmp .lt 25, 3) := by decide +kernel
theorem dS_lookAt_79 : decode bS_lookAt 79 = .ok (.iload_n 2, 1) := by decide +kernel
theorem dS_lookAt_80 : decode bS_lookAt 80 = .ok (.aload_n 0, 1) := by decide +kernel
theorem dS_lookAt_81 : decode bS_lookAt 81 = .ok (.getfield 40, 3) := by decide +kernel
theorem dS_lookAt_84 : decode bS_lookAt 84 = .ok (.getfield 129, 3) := by decide +kernel
theorem dS_lookAt_87 : decode bS_lookAt 87 = .ok (.if_icmp .ne 27, 3) := by decide +kernel
theorem dS_lookAt_90 : decode bS_lookAt 90 = .ok (.iload_n 1, 1) := by decide +kernel
theorem dS_lookAt_91 : decode bS_lookAt 91 = .ok (.aload_n 0, 1) := by decide +kernel
theorem dS_lookAt_92 : decode bS_lookAt 92 = .ok (.getfield 40, 3) := by decide +kernel
theorem dS_lookAt_95 : decode bS_lookAt 95 = .ok (.getfield 123, 3) := by decide +kernel
theorem dS_lookAt_98 : decode bS_lookAt 98 = .ok (.if_icmp .ge 16, 3) := by decide +kernel
theorem dS_lookAt_101 : decode bS_lookAt 101 = .ok (.aload_n 0, 1) := by decide +kernel
theorem dS_lookAt_102 : decode bS_lookAt 102 = .ok (.getfield 40, 3) := by decide +kernel
theorem dS_lookAt_105 : decode bS_lookAt 105 = .ok (.aload_n 0, 1) := by decide +kernel
theorem dS_lookAt_106 : decode bS_lookAt 106 = .ok (.getfield 18, 3) := by decide +kernel
theorem dS_lookAt_109 : decode bS_lookAt 109 = .ok (.iload_n 1, 1) := by decide +kernel
theorem dS_lookAt_110 : decode bS_lookAt 110 = .ok (.iload_n 2, 1) := by decide +kernel
theorem dS_lookAt_111 : decode bS_lookAt 111 = .ok (.invokevirtual 125, 3) := by decide +kernel
theorem dS_lookAt_114 : decode bS_lookAt 114 = .ok (.return_, 1) := by decide +kernel
theorem dT_init_0 : decode bT_init 0 = .ok (.aload_n 0, 1) := by decide +kernel
theorem dT_init_1 : decode bT_init 1 = .ok (.invokespecial 3, 3) := by decide +kernel
theorem dT_init_4 : decode bT_init 4 = .ok (.aload_n 0, 1) := by decide +kernel
theorem dT_init_5 : decode bT_init 5 = .ok (.bipush 6, 2) := by decide +kernel
theorem dT_init_7 : decode bT_init 7 = .ok (.newarray .int, 2) := by decide +kernel
theorem dT_init_9 : decode bT_init 9 = .ok (.putfield 9, 3) := by decide +kernel
theorem dT_init_12 : decode bT_init 12 = .ok (.aload_n 0, 1) := by decide +kernel
theorem dT_init_13 : decode bT_init 13 = .ok (.bipush 6, 2) := by decide +kernel
theorem dT_init_15 : decode bT_init 15 = .ok (.newarray .int, 2) := by decide +kernel
theorem dT_init_17 : decode bT_init 17 = .ok (.putfield 15, 3) := by decide +kernel
theorem dT_init_20 : decode bT_init 20 = .ok (.aload_n 0, 1) := by decide +kernel
theorem dT_init_21 : decode bT_init 21 = .ok (.bipush 60, 2) := by decide +kernel
theorem dT_init_23 : decode bT_init 23 = .ok (.newarray .int, 2) := by decide +kernel
theorem dT_init_25 : decode bT_init 25 = .ok (.putfield 18, 3) := by decide +kernel
theorem dT_init_28 : decode bT_init 28 = .ok (.aload_n 0, 1) := by decide +kernel
theorem dT_init_29 : decode bT_init 29 = .ok (.iconst 0, 1) := by decide +kernel
theorem dT_init_30 : decode bT_init 30 = .ok (.putfield 21, 3) := by decide +kernel
theorem dT_init_33 : decode bT_init 33 = .ok (.aload_n 0, 1) := by decide +kernel
theorem dT_init_34 : decode bT_init 34 = .ok (.iconst 0, 1) := by decide +kernel
theorem dT_init_35 : decode bT_init 35 = .ok (.putfield 25, 3) := by decide +kernel
theorem dT_init_38 : decode bT_init 38 = .ok (.return_, 1) := by decide +kernel
theorem dT_collect_0 : decode bT_collect 0 = .ok (.iload_n 1, 1) := by decide +kernel
theorem dT_collect_1 : decode bT_collect 1 = .ok (.bipush 32, 2) := by decide +kernel
theorem dT_collect_3 : decode bT_collect 3 = .ok (.bipush 126, 2) := by decide +kernel
theorem dT_collect_5 : decode bT_collect 5 = .ok (.invokestatic 28, 3) := by decide +kernel
theorem dT_collect_8 : decode bT_collect 8 = .ok (.ifCond .eq 12, 3) := by decide +kernel
theorem dT_collect_11 : decode bT_collect 11 = .ok (.aload_n 0, 1) := by decide +kernel
theorem dT_collect_12 : decode bT_collect 12 = .ok (.getfield 21, 3) := by decide +kernel
theorem dT_collect_15 : decode bT_collect 15 = .ok (.bipush 60, 2) := by decide +kernel
theorem dT_collect_17 : decode bT_collect 17 = .ok (.if_icmp .lt 5, 3) := by decide +kernel
theorem dT_collect_20 : decode bT_collect 20 = .ok (.iconst 0, 1) := by decide +kernel
theorem dT_collect_21 : decode bT_collect 21 = .ok (.ireturn, 1) := by decide +kernel
theorem dT_collect_22 : decode bT_collect 22 = .ok (.aload_n 0, 1) := by decide +kernel
theorem dT_collect_23 : decode bT_collect 23 = .ok (.getfield 18, 3) := by decide +kernel
theorem dT_collect_26 : decode bT_collect 26 = .ok (.aload_n 0, 1) := by decide +kernel
theorem dT_collect_27 : decode bT_collect 27 = .ok (.getfield 21, 3) := by decide +kernel
theorem dT_collect_30 : decode bT_collect 30 = .ok (.iload_n 1, 1) := by decide +kernel
theorem dT_collect_31 : decode bT_collect 31 = .ok (.iastore, 1) := by decide +kernel
theorem dT_collect_32 : decode bT_collect 32 = .ok (.aload_n 0, 1) := by decide +kernel
theorem dT_collect_33 : decode bT_collect 33 = .ok (.dup, 1) := by decide +kernel
theorem dT_collect_34 : decode bT_collect 34 = .ok (.getfield 21, 3) := by decide +kernel
theorem dT_collect_37 : decode bT_collect 37 = .ok (.iconst 1, 1) := by decide +kernel
theorem dT_collect_38 : decode bT_collect 38 = .ok (.iadd, 1) := by decide +kernel
theorem dT_collect_39 : decode bT_collect 39 = .ok (.putfield 21, 3) := by decide +kernel
theorem dT_collect_42 : decode bT_collect 42 = .ok (.iconst 1, 1) := by decide +kernel
theorem dT_collect_43 : decode bT_collect 43 = .ok (.ireturn, 1) := by decide +kernel
theorem dT_clear_0 : decode bT_clear 0 = .ok (.aload_n 0, 1) := by decide +kernel
theorem dT_clear_1 : decode bT_clear 1 = .ok (.iconst 0, 1) := by decide +kernel
theorem dT_clear_2 : decode bT_clear 2 = .ok (.putfield 21, 3) := by decide +kernel
theorem dT_clear_5 : decode bT_clear 5 = .ok (.return_, 1) := by decide +kernel
theorem dT_parse_0 : decode bT_parse 0 = .ok (.aload_n 0, 1) := by decide +kernel
theorem dT_parse_1 : decode bT_parse 1 = .ok (.iconst 0, 1) := by decide +kernel
theorem dT_parse_2 : decode bT_parse 2 = .ok (.putfield 25, 3) := by decide +kernel
theorem dT_parse_5 : decode bT_parse 5 = .ok (.iconst 0, 1) := by decide +kernel
theorem dT_parse_6 : decode bT_parse 6 = .ok (.istore_n 2, 1) := by decide +kernel
theorem dT_parse_7 : decode bT_parse 7 = .ok (.iload_n 2, 1) := by decide +kernel
theorem dT_parse_8 : decode bT_parse 8 = .ok (.bipush 6, 2) := by decide +kernel
theorem dT_parse_10 : decode bT_parse 10 = .ok (.if_icmp .gt 51, 3) := by decide +kernel
theorem dT_parse_13 : decode bT_parse 13 = .ok (.aload_n 0, 1) := by decide +kernel
theorem dT_parse_14 : decode bT_parse 14 = .ok (.iload_n 2, 1) := by decide +kernel
theorem dT_parse_15 : decode bT_parse 15 = .ok (.iload_n 1, 1) := by decide +kernel
theorem dT_parse_16 : decode bT_parse 16 = .ok (.invokevirtual 32, 3) := by decide +kernel
theorem dT_parse_19 : decode bT_parse 19 = .ok (.istore_n 3, 1) := by decide +kernel
theorem dT_parse_20 : decode bT_parse 20 = .ok (.iload_n 3, 1) := by decide +kernel
theorem dT_parse_21 : decode bT_parse 21 = .ok (.ifCond .lt 7, 3) := by decide +kernel
theorem dT_parse_24 : decode bT_parse 24 = .ok (.iconst (-1), 1) := by decide +kernel
theorem dT_parse_25 : decode bT_parse 25 = .ok (.iload_n 3, 1) := by decide +kernel
theorem dT_parse_26 : decode bT_parse 26 = .ok (.isub, 1) := by decide +kernel
theorem dT_parse_27 : decode bT_parse 27 = .ok (.ireturn, 1) := by decide +kernel
theorem dT_parse_28 : decode bT_parse 28 = .ok (.aload_n 0, 1) := by decide +kernel
theorem dT_parse_29 : decode bT_parse 29 = .ok (.getfield 25, 3) := by decide +kernel
theorem dT_parse_32 : decode bT_parse 32 = .ok (.aload_n 0, 1) := by decide +kernel
theorem dT_parse_33 : decode bT_parse 33 = .ok (.getfield 21, 3) := by decide +kernel
theorem dT_parse_36 : decode bT_parse 36 = .ok (.if_icmp .lt 7, 3) := by decide +kernel
theorem dT_parse_39 : decode bT_parse 39 = .ok (.iload_n 2, 1) := by decide +kernel
theorem dT_parse_40 : decode bT_parse 40 = .ok (.iconst 1, 1) := by decide +kernel
theorem dT_parse_41 : decode bT_parse 41 = .ok (.iadd, 1) := by decide +kernel
theorem dT_parse_42 : decode bT_parse 42 = .ok (.ireturn, 1) := by decide +kernel
theorem dT_parse_43 : decode bT_parse 43 = .ok (.aload_n 0, 1) := by decide +kernel
theorem dT_parse_44 : decode bT_parse 44 = .ok (.bipush 44, 2) := by decide +kernel
theorem dT_parse_46 : decode bT_parse 46 = .ok (.invokevirtual 36, 3) := by decide +kernel
theorem dT_parse_49 : decode bT_parse 49 = .ok (.ifCond .ne 6, 3) := by decide +kernel
theorem dT_parse_52 : decode bT_parse 52 = .ok (.goto 9, 3) := by decide +kernel
theorem dT_parse_55 : decode bT_parse 55 = .ok (.iinc 2 1, 3) := by decide +kernel
theorem dT_parse_58 : decode bT_parse 58 = .ok (.goto (-51), 3) := by decide +kernel
theorem dT_parse_61 : decode bT_parse 61 = .ok (.iconst (-1), 1) := by decide +kernel
theorem dT_parse_62 : decode bT_parse 62 = .ok (.aload_n 0, 1) := by decide +kernel
theorem dT_parse_63 : decode bT_parse 63 = .ok (.getfield 25, 3) := by decide +kernel
theorem dT_parse_66 : decode bT_parse 66 = .ok (.isub, 1) := by decide +kernel
theorem dT_parse_67 : decode bT_parse 67 = .ok (.ireturn, 1) := by decide +kernel
theorem dT_parseBand_0 : decode bT_parseBand 0 = .ok (.aload_n 0, 1) := by decide +kernel
theorem dT_parseBand_1 : decode bT_parseBand 1 = .ok (.getfield 25, 3) := by decide +kernel
theorem dT_parseBand_4 : decode bT_parseBand 4 = .ok (.istore_n 3, 1) := by decide +kernel
theorem dT_parseBand_5 : decode bT_parseBand 5 = .ok (.iload_n 1, 1) := by decide +kernel
theorem dT_parseBand_6 : decode bT_parseBand 6 = .ok (.iload_n 2, 1) := by decide +kernel
theorem dT_parseBand_7 : decode bT_parseBand 7 = .ok (.if_icmp .ge 9, 3) := by decide +kernel
theorem dT_parseBand_10 : decode bT_parseBand 10 = .ok (.iload_n 1, 1) := by decide +kernel
theorem dT_parseBand_11 : decode bT_parseBand 11 = .ok (.bipush 6, 2) := by decide +kernel
theorem dT_parseBand_13 : decode bT_parseBand 13 = .ok (.if_icmp .lt 5, 3) := by decide +kernel
theorem dT_parseBand_16 : decode bT_parseBand 16 = .ok (.iload_n 3, 1) := by decide +kernel
theorem dT_parseBand_17 : decode bT_parseBand 17 = .ok (.ireturn, 1) := by decide +kernel
theorem dT_parseBand_18 : decode bT_parseBand 18 = .ok (.aload_n 0, 1) := by decide +kernel
theorem dT_parseBand_19 : decode bT_parseBand 19 = .ok (.invokevirtual 40, 3) := by decide +kernel
theorem dT_parseBand_22 : decode bT_parseBand 22 = .ok (.istore 4, 2) := by decide +kernel
theorem dT_parseBand_24 : decode bT_parseBand 24 = .ok (.iload 4, 2) := by decide +kernel
theorem dT_parseBand_26 : decode bT_parseBand 26 = .ok (.ifCond .lt 12, 3) := by decide +kernel
theorem dT_parseBand_29 : decode bT_parseBand 29 = .ok (.aload_n 0, 1) := by decide +kernel
theorem dT_parseBand_30 : decode bT_parseBand 30 = .ok (.bipush 45, 2) := by decide +kernel
theorem dT_parseBand_32 : decode bT_parseBand 32 = .ok (.invokevirtual 36, 3) := by decide +kernel
theorem dT_parseBand_35 : decode bT_parseBand 35 = .ok (.ifCond .ne 8, 3) := by decide +kernel
theorem dT_parseBand_38 : decode bT_parseBand 38 = .ok (.aload_n 0, 1) := by decide +kernel
theorem dT_parseBand_39 : decode bT_parseBand 39 = .ok (.getfield 25, 3) := by decide +kernel
theorem dT_parseBand_42 : decode bT_parseBand 42 = .ok (.ireturn, 1) := by decide +kernel
theorem dT_parseBand_43 : decode bT_parseBand 43 = .ok (.aload_n 0, 1) := by decide +kernel
theorem dT_parseBand_44 : decode bT_parseBand 44 = .ok (.invokevirtual 40, 3) := by decide +kernel
theorem dT_parseBand_47 : decode bT_parseBand 47 = .ok (.istore 5, 2) := by decide +kernel
theorem dT_parseBand_49 : decode bT_parseBand 49 = .ok (.iload 5, 2) := by decide +kernel
theorem dT_parseBand_51 : decode bT_parseBand 51 = .ok (.ifCond .ge 8, 3) := by decide +kernel
theorem dT_parseBand_54 : decode bT_parseBand 54 = .ok (.aload_n 0, 1) := by decide +kernel
theorem dT_parseBand_55 : decode bT_parseBand 55 = .ok (.getfield 25, 3) := by decide +kernel
theorem dT_parseBand_58 : decode bT_parseBand 58 = .ok (.ireturn, 1) := by decide +kernel
theorem dT_parseBand_59 : decode bT_parseBand 59 = .ok (.iload 4, 2) := by decide +kernel
theorem dT_parseBand_61 : decode bT_parseBand 61 = .ok (.iload 5, 2) := by decide +kernel
theorem dT_parseBand_63 : decode bT_parseBand 63 = .ok (.invokestatic 44, 3) := by decide +kernel
theorem dT_parseBand_66 : decode bT_parseBand 66 = .ok (.ifCond .ne 5, 3) := by decide +kernel
theorem dT_parseBand_69 : decode bT_parseBand 69 = .ok (.iload_n 3, 1) := by decide +kernel
theorem dT_parseBand_70 : decode bT_parseBand 70 = .ok (.ireturn, 1) := by decide +kernel
theorem dT_parseBand_71 : decode bT_parseBand 71 = .ok (.aload_n 0, 1) := by decide +kernel
theorem dT_parseBand_72 : decode bT_parseBand 72 = .ok (.getfield 9, 3) := by decide +kernel
theorem dT_parseBand_75 : decode bT_parseBand 75 = .ok (.iload_n 1, 1) := by decide +kernel
theorem dT_parseBand_76 : decode bT_parseBand 76 = .ok (.iload 4, 2) := by decide +kernel
theorem dT_parseBand_78 : decode bT_parseBand 78 = .ok (.iastore, 1) := by decide +kernel
theorem dT_parseBand_79 : decode bT_parseBand 79 = .ok (.aload_n 0, 1) := by decide +kernel
theorem dT_parseBand_80 : decode bT_parseBand 80 = .ok (.getfield 15, 3) := by decide +kernel
theorem dT_parseBand_83 : decode bT_parseBand 83 = .ok (.iload_n 1, 1) := by decide +kernel
theorem dT_parseBand_84 : decode bT_parseBand 84 = .ok (.iload 5, 2) := by decide +kernel
theorem dT_parseBand_86 : decode bT_parseBand 86 = .ok (.iastore, 1) := by decide +kernel
theorem dT_parseBand_87 : decode bT_parseBand 87 = .ok (.iconst (-1), 1) := by decide +kernel
theorem dT_parseBand_88 : decode bT_parseBand 88 = .ok (.ireturn, 1) := by decide +kernel
theorem dT_parseNumber_0 : decode bT_parseNumber 0 = .ok (.iconst (-1), 1) := by decide +kernel
theorem dT_parseNumber_1 : decode bT_parseNumber 1 = .ok (.istore_n 1, 1) := by decide +kernel
theorem dT_parseNumber_2 : decode bT_parseNumber 2 = .ok (.iconst 0, 1) := by decide +kernel
theorem dT_parseNumber_3 : decode bT_parseNumber 3 = .ok (.istore_n 2, 1) := by decide +kernel
theorem dT_parseNumber_4 : decode bT_parseNumber 4 = .ok (.iload_n 2, 1) := by decide +kernel
theorem dT_parseNumber_5 : decode bT_parseNumber 5 = .ok (.iconst 4, 1) := by decide +kernel
theorem dT_parseNumber_6 : decode bT_parseNumber 6 = .ok (.if_icmp .ge 71, 3) := by decide +kernel
theorem dT_parseNumber_9 : decode bT_parseNumber 9 = .ok (.aload_n 0, 1) := by decide +kernel
theorem dT_parseNumber_10 : decode bT_parseNumber 10 = .ok (.getfield 25, 3) := by decide +kernel
theorem dT_parseNumber_13 : decode bT_parseNumber 13 = .ok (.aload_n 0, 1) := by decide +kernel
theorem dT_parseNumber_14 : decode bT_parseNumber 14 = .ok (.getfield 21, 3) := by decide +kernel
theorem dT_parseNumber_17 : decode bT_parseNumber 17 = .ok (.if_icmp .ge 60, 3) := by decide +kernel
theorem dT_parseNumber_20 : decode bT_parseNumber 20 = .ok (.aload_n 0, 1) := by decide +kernel
theorem dT_parseNumber_21 : decode bT_parseNumber 21 = .ok (.getfield 18, 3) := by decide +kernel
theorem dT_parseNumber_24 : decode bT_parseNumber 24 = .ok (.aload_n 0, 1) := by decide +kernel
theorem dT_parseNumber_25 : decode bT_parseNumber 25 = .ok (.getfield 25, 3) := by decide +kernel
theorem dT_parseNumber_28 : decode bT_parseNumber 28 = .ok (.iaload, 1) := by decide +kernel
theorem dT_parseNumber_29 : decode bT_parseNumber 29 = .ok (.bipush 48, 2) := by decide +kernel
theorem dT_parseNumber_31 : decode bT_parseNumber 31 = .ok (.bipush 57, 2) := by decide +kernel
theorem dT_parseNumber_33 : decode bT_parseNumber 33 = .ok (.invokestatic 28, 3) := by decide +kernel
theorem dT_parseNumber_36 : decode bT_parseNumber 36 = .ok (.ifCond .eq 41, 3) := by decide +kernel
theorem dT_parseNumber_39 : decode bT_parseNumber 39 = .ok (.iconst 0, 1) := by decide +kernel
theorem dT_parseNumber_40 : decode bT_parseNumber 40 = .ok (.iload_n 1, 1) := by decide +kernel
theorem dT_parseNumber_41 : decode bT_parseNumber 41 = .ok (.invokestatic 48, 3) := by decide +kernel
theorem dT_parseNumber_44 : decode bT_parseNumber 44 = .ok (.bipush 10, 2) := by decide +kernel
theorem dT_parseNumber_46 : decode bT_parseNumber 46 = .ok (.imul, 1) := by decide +kernel
theorem dT_parseNumber_47 : decode bT_parseNumber 47 = .ok (.aload_n 0, 1) := by decide +kernel
theorem dT_parseNumber_48 : decode bT_parseNumber 48 = .ok (.getfield 18, 3) := by decide +kernel
theorem dT_parseNumber_51 : decode bT_parseNumber 51 = .ok (.aload_n 0, 1) := by decide +kernel
theorem dT_parseNumber_52 : decode bT_parseNumber 52 = .ok (.getfield 25, 3) := by decide +kernel
theorem dT_parseNumber_55 : decode bT_parseNumber 55 = .ok (.iaload, 1) := by decide +kernel
theorem dT_parseNumber_56 : decode bT_parseNumber 56 = .ok (.iadd, 1) := by decide +kernel
theorem dT_parseNumber_57 : decode bT_parseNumber 57 = .ok (.bipush 48, 2) := by decide +kernel
theorem dT_parseNumber_59 : decode bT_parseNumber 59 = .ok (.isub, 1) := by decide +kernel
theorem dT_parseNumber_60 : decode bT_parseNumber 60 = .ok (.istore_n 1, 1) := by decide +kernel
theorem dT_parseNumber_61 : decode bT_parseNumber 61 = .ok (.aload_n 0, 1) := by decide +kernel
theorem dT_parseNumber_62 : decode bT_parseNumber 62 = .ok (.dup, 1) := by decide +kernel
theorem dT_parseNumber_63 : decode bT_parseNumber 63 = .ok (.getfield 25, 3) := by decide +kernel
theorem dT_parseNumber_66 : decode bT_parseNumber 66 = .ok (.iconst 1, 1) := by decide +kernel
theorem dT_parseNumber_67 : decode bT_parseNumber 67 = .ok (.iadd, 1) := by decide +kernel
theorem dT_parseNumber_68 : decode bT_parseNumber 68 = .ok (.putfield 25, 3) := by decide +kernel
theorem dT_parseNumber_71 : decode bT_parseNumber 71 = .ok (.iinc 2 1, 3) := by decide +kernel
theorem dT_parseNumber_74 : decode bT_parseNumber 74 = .ok (.goto (-70), 3) := by decide +kernel
theorem dT_parseNumber_77 : decode bT_parseNumber 77 = .ok (.iload_n 1, 1) := by decide +kernel
theorem dT_parseNumber_78 : decode bT_parseNumber 78 = .ok (.ireturn, 1) := by decide +kernel
theorem dT_skip_0 : decode bT_skip 0 = .ok (.aload_n 0, 1) := by decide +kernel
theorem dT_skip_1 : decode bT_skip 1 = .ok (.getfield 25, 3) := by decide +kernel
theorem dT_skip_4 : decode bT_skip 4 = .ok (.aload_n 0, 1) := by decide +kernel
theorem dT_skip_5 : decode bT_skip 5 = .ok (.getfield 21, 3) := by decide +kernel
theorem dT_skip_8 : decode bT_skip 8 = .ok (.if_icmp .ge 16, 3) := by decide +kernel
theorem dT_skip_11 : decode bT_skip 11 = .ok (.aload_n 0, 1) := by decide +kernel
theorem dT_skip_12 : decode bT_skip 12 = .ok (.getfield 18, 3) := by decide +kernel
theorem dT_skip_15 : decode bT_skip 15 = .ok (.aload_n 0, 1) := by decide +kernel
theorem dT_skip_16 : decode bT_skip 16 = .ok (.getfield 25, 3) := by decide +kernel
theorem dT_skip_19 : decode bT_skip 19 = .ok (.iaload, 1) := by decide +kernel
theorem dT_skip_20 : decode bT_skip 20 = .ok (.iload_n 1, 1) := by decide +kernel
theorem dT_skip_21 : decode bT_skip 21 = .ok (.if_icmp .eq 5, 3) := by decide +kernel
theorem dT_skip_24 : decode bT_skip 24 = .ok (.iconst 0, 1) := by decide +kernel
theorem dT_skip_25 : decode bT_skip 25 = .ok (.ireturn, 1) := by decide +kernel
theorem dT_skip_26 : decode bT_skip 26 = .ok (.aload_n 0, 1) := by decide +kernel
theorem dT_skip_27 : decode bT_skip 27 = .ok (.dup, 1) := by decide +kernel
theorem dT_skip_28 : decode bT_skip 28 = .ok (.getfield 25, 3) := by decide +kernel
theorem dT_skip_31 : decode bT_skip 31 = .ok (.iconst 1, 1) := by decide +kernel
theorem dT_skip_32 : decode bT_skip 32 = .ok (.iadd, 1) := by decide +kernel
theorem dT_skip_33 : decode bT_skip 33 = .ok (.putfield 25, 3) := by decide +kernel
theorem dT_skip_36 : decode bT_skip 36 = .ok (.iconst 1, 1) := by decide +kernel
theorem dT_skip_37 : decode bT_skip 37 = .ok (.ireturn, 1) := by decide +kernel
theorem dX_init_0 : decode bX_init 0 = .ok (.aload_n 0, 1) := by decide +kernel
theorem dX_init_1 : decode bX_init 1 = .ok (.invokespecial 3, 3) := by decide +kernel
theorem dX_init_4 : decode bX_init 4 = .ok (.aload_n 0, 1) := by decide +kernel
theorem dX_init_5 : decode bX_init 5 = .ok (.iconst 0, 1) := by decide +kernel
theorem dX_init_6 : decode bX_init 6 = .ok (.putfield 9, 3) := by decide +kernel
theorem dX_init_9 : decode bX_init 9 = .ok (.aload_n 0, 1) := by decide +kernel
theorem dX_init_10 : decode bX_init 10 = .ok (.iconst 4, 1) := by decide +kernel
theorem dX_init_11 : decode bX_init 11 = .ok (.newarray .int, 2) := by decide +kernel
theorem dX_init_13 : decode bX_init 13 = .ok (.putfield 15, 3) := by decide +kernel
theorem dX_init_16 : decode bX_init 16 = .ok (.aload_n 0, 1) := by decide +kernel
theorem dX_init_17 : decode bX_init 17 = .ok (.iconst 0, 1) := by decide +kernel
theorem dX_init_18 : decode bX_init 18 = .ok (.putfield 19, 3) := by decide +kernel
theorem dX_init_21 : decode bX_init 21 = .ok (.aload_n 0, 1) := by decide +kernel
theorem dX_init_22 : decode bX_init 22 = .ok (.iconst 0, 1) := by decide +kernel
theorem dX_init_23 : decode bX_init 23 = .ok (.putfield 23, 3) := by decide +kernel
theorem dX_init_26 : decode bX_init 26 = .ok (.return_, 1) := by decide +kernel
theorem dX_set_0 : decode bX_set 0 = .ok (.iconst 0, 1) := by decide +kernel
theorem dX_set_1 : decode bX_set 1 = .ok (.istore 4, 2) := by decide +kernel
theorem dX_set_3 : decode bX_set 3 = .ok (.iload 4, 2) := by decide +kernel
theorem dX_set_5 : decode bX_set 5 = .ok (.iconst 4, 1) := by decide +kernel
theorem dX_set_6 : decode bX_set 6 = .ok (.if_icmp .ge 20, 3) := by decide +kernel
theorem dX_set_9 : decode bX_set 9 = .ok (.aload_n 0, 1) := by decide +kernel
theorem dX_set_10 : decode bX_set 10 = .ok (.getfield 15, 3) := by decide +kernel
theorem dX_set_13 : decode bX_set 13 = .ok (.iload 4, 2) := by decide +kernel
theorem dX_set_15 : decode bX_set 15 = .ok (.aload_n 1, 1) := by decide +kernel
theorem dX_set_16 : decode bX_set 16 = .ok (.iload 4, 2) := by decide +kernel
theorem dX_set_18 : decode bX_set 18 = .ok (.iaload, 1) := by decide +kernel
theorem dX_set_19 : decode bX_set 19 = .ok (.iastore, 1) := by decide +kernel
theorem dX_set_20 : decode bX_set 20 = .ok (.iinc 4 1, 3) := by decide +kernel
theorem dX_set_23 : decode bX_set 23 = .ok (.goto (-20), 3) := by decide +kernel
theorem dX_set_26 : decode bX_set 26 = .ok (.aload_n 0, 1) := by decide +kernel
theorem dX_set_27 : decode bX_set 27 = .ok (.iload_n 2, 1) := by decide +kernel
theorem dX_set_28 : decode bX_set 28 = .ok (.putfield 19, 3) := by decide +kernel
theorem dX_set_31 : decode bX_set 31 = .ok (.aload_n 0, 1) := by decide +kernel
theorem dX_set_32 : decode bX_set 32 = .ok (.iload_n 3, 1) := by decide +kernel
theorem dX_set_33 : decode bX_set 33 = .ok (.putfield 23, 3) := by decide +kernel
theorem dX_set_36 : decode bX_set 36 = .ok (.aload_n 0, 1) := by decide +kernel
theorem dX_set_37 : decode bX_set 37 = .ok (.iconst 1, 1) := by decide +kernel
theorem dX_set_38 : decode bX_set 38 = .ok (.putfield 9, 3) := by decide +kernel
theorem dX_set_41 : decode bX_set 41 = .ok (.return_, 1) := by decide +kernel
theorem dB_init_0 : decode bB_init 0 = .ok (.aload_n 0, 1) := by decide +kernel
theorem dB_init_1 : decode bB_init 1 = .ok (.invokespecial 3, 3) := by decide +kernel
theorem dB_init_4 : decode bB_init 4 = .ok (.aload_n 0, 1) := by decide +kernel
theorem dB_init_5 : decode bB_init 5 = .ok (.iconst 0, 1) := by decide +kernel
theorem dB_init_6 : decode bB_init 6 = .ok (.putfield 9, 3) := by decide +kernel
theorem dB_init_9 : decode bB_init 9 = .ok (.aload_n 0, 1) := by decide +kernel
theorem dB_init_10 : decode bB_init 10 = .ok (.iconst 4, 1) := by decide +kernel
theorem dB_init_11 : decode bB_init 11 = .ok (.newarray .int, 2) := by decide +kernel
theorem dB_init_13 : decode bB_init 13 = .ok (.putfield 15, 3) := by decide +kernel
theorem dB_init_16 : decode bB_init 16 = .ok (.aload_n 0, 1) := by decide +kernel
theorem dB_init_17 : decode bB_init 17 = .ok (.iconst 4, 1) := by decide +kernel
theorem dB_init_18 : decode bB_init 18 = .ok (.newarray .int, 2) := by decide +kernel
theorem dB_init_20 : decode bB_init 20 = .ok (.putfield 19, 3) := by decide +kernel
theorem dB_init_23 : decode bB_init 23 = .ok (.return_, 1) := by decide +kernel
theorem dB_fill_0 : decode bB_fill 0 = .ok (.iconst 0, 1) := by decide +kernel
theorem dB_fill_1 : decode bB_fill 1 = .ok (.istore 4, 2) := by decide +kernel
theorem dB_fill_3 : decode bB_fill 3 = .ok (.iconst 0, 1) := by decide +kernel
theorem dB_fill_4 : decode bB_fill 4 = .ok (.istore 5, 2) := by decide +kernel
theorem dB_fill_6 : decode bB_fill 6 = .ok (.iconst 0, 1) := by decide +kernel
theorem dB_fill_7 : decode bB_fill 7 = .ok (.istore 6, 2) := by decide +kernel
theorem dB_fill_9 : decode bB_fill 9 = .ok (.iconst 0, 1) := by decide +kernel
theorem dB_fill_10 : decode bB_fill 10 = .ok (.istore 7, 2) := by decide +kernel
theorem dB_fill_12 : decode bB_fill 12 = .ok (.iload 7, 2) := by decide +kernel
theorem dB_fill_14 : decode bB_fill 14 = .ok (.aload_n 3, 1) := by decide +kernel
theorem dB_fill_15 : decode bB_fill 15 = .ok (.getfield 22, 3) := by decide +kernel
theorem dB_fill_18 : decode bB_fill 18 = .ok (.if_icmp .ge 91, 3) := by decide +kernel
theorem dB_fill_21 : decode bB_fill 21 = .ok (.iload 4, 2) := by decide +kernel
theorem dB_fill_23 : decode bB_fill 23 = .ok (.aload_n 2, 1) := by decide +kernel
theorem dB_fill_24 : decode bB_fill 24 = .ok (.getfield 28, 3) := by decide +kernel
theorem dB_fill_27 : decode bB_fill 27 = .ok (.iload 7, 2) := by decide +kernel
theorem dB_fill_29 : decode bB_fill 29 = .ok (.iaload, 1) := by decide +kernel
theorem dB_fill_30 : decode bB_fill 30 = .ok (.iadd, 1) := by decide +kernel
theorem dB_fill_31 : decode bB_fill 31 = .ok (.istore 4, 2) := by decide +kernel
theorem dB_fill_33 : decode bB_fill 33 = .ok (.iload_n 1, 1) := by decide +kernel
theorem dB_fill_34 : decode bB_fill 34 = .ok (.iload 4, 2) := by decide +kernel
theorem dB_fill_36 : decode bB_fill 36 = .ok (.imul, 1) := by decide +kernel
theorem dB_fill_37 : decode bB_fill 37 = .ok (.bipush 100, 2) := by decide +kernel
theorem dB_fill_39 : decode bB_fill 39 = .ok (.idiv, 1) := by decide +kernel
theorem dB_fill_40 : decode bB_fill 40 = .ok (.istore 8, 2) := by decide +kernel
theorem dB_fill_42 : decode bB_fill 42 = .ok (.aload_n 0, 1) := by decide +kernel
theorem dB_fill_43 : decode bB_fill 43 = .ok (.getfield 15, 3) := by decide +kernel
theorem dB_fill_46 : decode bB_fill 46 = .ok (.iload 7, 2) := by decide +kernel
theorem dB_fill_48 : decode bB_fill 48 = .ok (.iload 8, 2) := by decide +kernel
theorem dB_fill_50 : decode bB_fill 50 = .ok (.iload 5, 2) := by decide +kernel
theorem dB_fill_52 : decode bB_fill 52 = .ok (.isub, 1) := by decide +kernel
theorem dB_fill_53 : decode bB_fill 53 = .ok (.iastore, 1) := by decide +kernel
theorem dB_fill_54 : decode bB_fill 54 = .ok (.aload_n 0, 1) := by decide +kernel
theorem dB_fill_55 : decode bB_fill 55 = .ok (.getfield 15, 3) := by decide +kernel
theorem dB_fill_58 : decode bB_fill 58 = .ok (.iload 7, 2) := by decide +kernel
theorem dB_fill_60 : decode bB_fill 60 = .ok (.iaload, 1) := by decide +kernel
theorem dB_fill_61 : decode bB_fill 61 = .ok (.aload_n 3, 1) := by decide +kernel
theorem dB_fill_62 : decode bB_fill 62 = .ok (.getfield 33, 3) := by decide +kernel
theorem dB_fill_65 : decode bB_fill 65 = .ok (.iload 7, 2) := by decide +kernel
theorem dB_fill_67 : decode bB_fill 67 = .ok (.iaload, 1) := by decide +kernel
theorem dB_fill_68 : decode bB_fill 68 = .ok (.imul, 1) := by decide +kernel
theorem dB_fill_69 : decode bB_fill 69 = .ok (.sipush 1000, 3) := by decide +kernel
theorem dB_fill_72 : decode bB_fill 72 = .ok (.idiv, 1) := by decide +kernel
theorem dB_fill_73 : decode bB_fill 73 = .ok (.istore 9, 2) := by decide +kernel
theorem dB_fill_75 : decode bB_fill 75 = .ok (.aload_n 0, 1) := by decide +kernel
theorem dB_fill_76 : decode bB_fill 76 = .ok (.getfield 19, 3) := by decide +kernel
theorem dB_fill_79 : decode bB_fill 79 = .ok (.iload 7, 2) := by decide +kernel
theorem dB_fill_81 : decode bB_fill 81 = .ok (.aload_n 0, 1) := by decide +kernel
theorem dB_fill_82 : decode bB_fill 82 = .ok (.getfield 15, 3) := by decide +kernel
theorem dB_fill_85 : decode bB_fill 85 = .ok (.iload 7, 2) := by decide +kernel
theorem dB_fill_87 : decode bB_fill 87 = .ok (.iaload, 1) := by decide +kernel
theorem dB_fill_88 : decode bB_fill 88 = .ok (.iload 9, 2) := by decide +kernel
theorem dB_fill_90 : decode bB_fill 90 = .ok (.iadd, 1) := by decide +kernel
theorem dB_fill_91 : decode bB_fill 91 = .ok (.iastore, 1) := by decide +kernel
theorem dB_fill_92 : decode bB_fill 92 = .ok (.iload 6, 2) := by decide +kernel
theorem dB_fill_94 : decode bB_fill 94 = .ok (.iload 9, 2) := by decide +kernel
theorem dB_fill_96 : decode bB_fill 96 = .ok (.iadd, 1) := by decide +kernel
theorem dB_fill_97 : decode bB_fill 97 = .ok (.istore 6, 2) := by decide +kernel
theorem dB_fill_99 : decode bB_fill 99 = .ok (.iload 8, 2) := by decide +kernel
theorem dB_fill_101 : decode bB_fill 101 = .ok (.istore 5, 2) := by decide +kernel
theorem dB_fill_103 : decode bB_fill 103 = .ok (.iinc 7 1, 3) := by decide +kernel
theorem dB_fill_106 : decode bB_fill 106 = .ok (.goto (-94), 3) := by decide +kernel
theorem dB_fill_109 : decode bB_fill 109 = .ok (.aload_n 0, 1) := by decide +kernel
theorem dB_fill_110 : decode bB_fill 110 = .ok (.iconst 1, 1) := by decide +kernel
theorem dB_fill_111 : decode bB_fill 111 = .ok (.putfield 9, 3) := by decide +kernel
theorem dB_fill_114 : decode bB_fill 114 = .ok (.iload 6, 2) := by decide +kernel
theorem dB_fill_116 : decode bB_fill 116 = .ok (.ireturn, 1) := by decide +kernel
theorem dL_init_0 : decode bL_init 0 = .ok (.aload_n 0, 1) := by decide +kernel
theorem dL_init_1 : decode bL_init 1 = .ok (.invokespecial 3, 3) := by decide +kernel
theorem dL_init_4 : decode bL_init 4 = .ok (.aload_n 0, 1) := by decide +kernel
theorem dL_init_5 : decode bL_init 5 = .ok (.iconst 0, 1) := by decide +kernel
theorem dL_init_6 : decode bL_init 6 = .ok (.putfield 9, 3) := by decide +kernel
theorem dL_init_9 : decode bL_init 9 = .ok (.aload_n 0, 1) := by decide +kernel
theorem dL_init_10 : decode bL_init 10 = .ok (.bipush 6, 2) := by decide +kernel
theorem dL_init_12 : decode bL_init 12 = .ok (.newarray .int, 2) := by decide +kernel
theorem dL_init_14 : decode bL_init 14 = .ok (.putfield 15, 3) := by decide +kernel
theorem dL_init_17 : decode bL_init 17 = .ok (.aload_n 0, 1) := by decide +kernel
theorem dL_init_18 : decode bL_init 18 = .ok (.bipush 6, 2) := by decide +kernel
theorem dL_init_20 : decode bL_init 20 = .ok (.bipush 100, 2) := by decide +kernel
theorem dL_init_22 : decode bL_init 22 = .ok (.multianewarray 19 2, 4) := by decide +kernel
theorem dL_init_26 : decode bL_init 26 = .ok (.putfield 21, 3) := by decide +kernel
theorem dL_init_29 : decode bL_init 29 = .ok (.aload_n 0, 1) := by decide +kernel
theorem dL_init_30 : decode bL_init 30 = .ok (.iconst 0, 1) := by decide +kernel
theorem dL_init_31 : decode bL_init 31 = .ok (.putfield 24, 3) := by decide +kernel
theorem dL_init_34 : decode bL_init 34 = .ok (.aload_n 0, 1) := by decide +kernel
theorem dL_init_35 : decode bL_init 35 = .ok (.bipush 100, 2) := by decide +kernel
theorem dL_init_37 : decode bL_init 37 = .ok (.newarray .int, 2) := by decide +kernel
theorem dL_init_39 : decode bL_init 39 = .ok (.putfield 27, 3) := by decide +kernel
theorem dL_init_42 : decode bL_init 42 = .ok (.aload_n 0, 1) := by decide +kernel
theorem dL_init_43 : decode bL_init 43 = .ok (.bipush 100, 2) := by decide +kernel
theorem dL_init_45 : decode bL_init 45 = .ok (.newarray .int, 2) := by decide +kernel
theorem dL_init_47 : decode bL_init 47 = .ok (.putfield 30, 3) := by decide +kernel
theorem dL_init_50 : decode bL_init 50 = .ok (.aload_n 0, 1) := by decide +kernel
theorem dL_init_51 : decode bL_init 51 = .ok (.bipush 100, 2) := by decide +kernel
theorem dL_init_53 : decode bL_init 53 = .ok (.newarray .int, 2) := by decide +kernel
theorem dL_init_55 : decode bL_init 55 = .ok (.putfield 33, 3) := by decide +kernel
theorem dL_init_58 : decode bL_init 58 = .ok (.return_, 1) := by decide +kernel
theorem dL_clear_0 : decode bL_clear 0 = .ok (.aload_n 0, 1) := by decide +kernel
theorem dL_clear_1 : decode bL_clear 1 = .ok (.iconst 0, 1) := by decide +kernel
theorem dL_clear_2 : decode bL_clear 2 = .ok (.putfield 9, 3) := by decide +kernel
theorem dL_clear_5 : decode bL_clear 5 = .ok (.aload_n 0, 1) := by decide +kernel
theorem dL_clear_6 : decode bL_clear 6 = .ok (.iconst 0, 1) := by decide +kernel
theorem dL_clear_7 : decode bL_clear 7 = .ok (.putfield 24, 3) := by decide +kernel
theorem dL_clear_10 : decode bL_clear 10 = .ok (.iconst 0, 1) := by decide +kernel
theorem dL_clear_11 : decode bL_clear 11 = .ok (.istore_n 1, 1) := by decide +kernel
theorem dL_clear_12 : decode bL_clear 12 = .ok (.iload_n 1, 1) := by decide +kernel
theorem dL_clear_13 : decode bL_clear 13 = .ok (.bipush 6, 2) := by decide +kernel
theorem dL_clear_15 : decode bL_clear 15 = .ok (.if_icmp .ge 16, 3) := by decide +kernel
theorem dL_clear_18 : decode bL_clear 18 = .ok (.aload_n 0, 1) := by decide +kernel
theorem dL_clear_19 : decode bL_clear 19 = .ok (.getfield 15, 3) := by decide +kernel
theorem dL_clear_22 : decode bL_clear 22 = .ok (.iload_n 1, 1) := by decide +kernel
theorem dL_clear_23 : decode bL_clear 23 = .ok (.iconst 0, 1) := by decide +kernel
theorem dL_clear_24 : decode bL_clear 24 = .ok (.iastore, 1) := by decide +kernel
theorem dL_clear_25 : decode bL_clear 25 = .ok (.iinc 1 1, 3) := by decide +kernel
theorem dL_clear_28 : decode bL_clear 28 = .ok (.goto (-16), 3) := by decide +kernel
theorem dL_clear_31 : decode bL_clear 31 = .ok (.return_, 1) := by decide +kernel
theorem dL_add_0 : decode bL_add 0 = .ok (.aload_n 0, 1) := by decide +kernel
theorem dL_add_1 : decode bL_add 1 = .ok (.getfield 21, 3) := by decide +kernel
theorem dL_add_4 : decode bL_add 4 = .ok (.iload_n 1, 1) := by decide +kernel
theorem dL_add_5 : decode bL_add 5 = .ok (.aaload, 1) := by decide +kernel
theorem dL_add_6 : decode bL_add 6 = .ok (.aload_n 0, 1) := by decide +kernel
theorem dL_add_7 : decode bL_add 7 = .ok (.getfield 15, 3) := by decide +kernel
theorem dL_add_10 : decode bL_add 10 = .ok (.iload_n 1, 1) := by decide +kernel
theorem dL_add_11 : decode bL_add 11 = .ok (.iaload, 1) := by decide +kernel
theorem dL_add_12 : decode bL_add 12 = .ok (.iload_n 2, 1) := by decide +kernel
theorem dL_add_13 : decode bL_add 13 = .ok (.iastore, 1) := by decide +kernel
theorem dL_add_14 : decode bL_add 14 = .ok (.aload_n 0, 1) := by decide +kernel
theorem dL_add_15 : decode bL_add 15 = .ok (.getfield 15, 3) := by decide +kernel
theorem dL_add_18 : decode bL_add 18 = .ok (.iload_n 1, 1) := by decide +kernel
theorem dL_add_19 : decode bL_add 19 = .ok (.dup2, 1) := by decide +kernel
theorem dL_add_20 : decode bL_add 20 = .ok (.iaload, 1) := by decide +kernel
theorem dL_add_21 : decode bL_add 21 = .ok (.iconst 1, 1) := by decide +kernel
theorem dL_add_22 : decode bL_add 22 = .ok (.iadd, 1) := by decide +kernel
theorem dL_add_23 : decode bL_add 23 = .ok (.iastore, 1) := by decide +kernel
theorem dL_add_24 : decode bL_add 24 = .ok (.aload_n 0, 1) := by decide +kernel
theorem dL_add_25 : decode bL_add 25 = .ok (.dup, 1) := by decide +kernel
theorem dL_add_26 : decode bL_add 26 = .ok (.getfield 9, 3) := by decide +kernel
theorem dL_add_29 : decode bL_add 29 = .ok (.iconst 1, 1) := by decide +kernel
theorem dL_add_30 : decode bL_add 30 = .ok (.iadd, 1) := by decide +kernel
theorem dL_add_31 : decode bL_add 31 = .ok (.putfield 9, 3) := by decide +kernel
theorem dL_add_34 : decode bL_add 34 = .ok (.return_, 1) := by decide +kernel
theorem dL_addFired_0 : decode bL_addFired 0 = .ok (.aload_n 0, 1) := by decide +kernel
theorem dL_addFired_1 : decode bL_addFired 1 = .ok (.getfield 27, 3) := by decide +kernel
theorem dL_addFired_4 : decode bL_addFired 4 = .ok (.aload_n 0, 1) := by decide +kernel
theorem dL_addFired_5 : decode bL_addFired 5 = .ok (.getfield 24, 3) := by decide +kernel
theorem dL_addFired_8 : decode bL_addFired 8 = .ok (.iload_n 1, 1) := by decide +kernel
theorem dL_addFired_9 : decode bL_addFired 9 = .ok (.iastore, 1) := by decide +kernel
theorem dL_addFired_10 : decode bL_addFired 10 = .ok (.aload_n 0, 1) := by decide +kernel
theorem dL_addFired_11 : decode bL_addFired 11 = .ok (.getfield 30, 3) := by decide +kernel
theorem dL_addFired_14 : decode bL_addFired 14 = .ok (.aload_n 0, 1) := by decide +kernel
theorem dL_addFired_15 : decode bL_addFired 15 = .ok (.getfield 24, 3) := by decide +kernel
theorem dL_addFired_18 : decode bL_addFired 18 = .ok (.aload_n 0, 1) := by decide +kernel
theorem dL_addFired_19 : decode bL_addFired 19 = .ok (.getfield 15, 3) := by decide +kernel
theorem dL_addFired_22 : decode bL_addFired 22 = .ok (.iload_n 1, 1) := by decide +kernel
theorem dL_addFired_23 : decode bL_addFired 23 = .ok (.iaload, 1) := by decide +kernel
theorem dL_addFired_24 : decode bL_addFired 24 = .ok (.iconst 1, 1) := by decide +kernel
theorem dL_addFired_25 : decode bL_addFired 25 = .ok (.isub, 1) := by decide +kernel
theorem dL_addFired_26 : decode bL_addFired 26 = .ok (.iastore, 1) := by decide +kernel
theorem dL_addFired_27 : decode bL_addFired 27 = .ok (.aload_n 0, 1) := by decide +kernel
theorem dL_addFired_28 : decode bL_addFired 28 = .ok (.getfield 33, 3) := by decide +kernel
theorem dL_addFired_31 : decode bL_addFired 31 = .ok (.aload_n 0, 1) := by decide +kernel
theorem dL_addFired_32 : decode bL_addFired 32 = .ok (.getfield 24, 3) := by decide +kernel
theorem dL_addFired_35 : decode bL_addFired 35 = .ok (.iload_n 2, 1) := by decide +kernel
theorem dL_addFired_36 : decode bL_addFired 36 = .ok (.iastore, 1) := by decide +kernel
theorem dL_addFired_37 : decode bL_addFired 37 = .ok (.aload_n 0, 1) := by decide +kernel
theorem dL_addFired_38 : decode bL_addFired 38 = .ok (.dup, 1) := by decide +kernel
theorem dL_addFired_39 : decode bL_addFired 39 = .ok (.getfield 24, 3) := by decide +kernel
theorem dL_addFired_42 : decode bL_addFired 42 = .ok (.iconst 1, 1) := by decide +kernel
theorem dL_addFired_43 : decode bL_addFired 43 = .ok (.iadd, 1) := by decide +kernel
theorem dL_addFired_44 : decode bL_addFired 44 = .ok (.putfield 24, 3) := by decide +kernel
theorem dL_addFired_47 : decode bL_addFired 47 = .ok (.return_, 1) := by decide +kernel
theorem dL_drifts_0 : decode bL_drifts 0 = .ok (.aload_n 0, 1) := by decide +kernel
theorem dL_drifts_1 : decode bL_drifts 1 = .ok (.getfield 15, 3) := by decide +kernel
theorem dL_drifts_4 : decode bL_drifts 4 = .ok (.iload_n 1, 1) := by decide +kernel
theorem dL_drifts_5 : decode bL_drifts 5 = .ok (.iaload, 1) := by decide +kernel
theorem dL_drifts_6 : decode bL_drifts 6 = .ok (.istore_n 3, 1) := by decide +kernel
theorem dL_drifts_7 : decode bL_drifts 7 = .ok (.iload_n 3, 1) := by decide +kernel
theorem dL_drifts_8 : decode bL_drifts 8 = .ok (.iconst 5, 1) := by decide +kernel
theorem dL_drifts_9 : decode bL_drifts 9 = .ok (.if_icmp .ge 5, 3) := by decide +kernel
theorem dL_drifts_12 : decode bL_drifts 12 = .ok (.iconst 0, 1) := by decide +kernel
theorem dL_drifts_13 : decode bL_drifts 13 = .ok (.ireturn, 1) := by decide +kernel
theorem dL_drifts_14 : decode bL_drifts 14 = .ok (.iconst 0, 1) := by decide +kernel
theorem dL_drifts_15 : decode bL_drifts 15 = .ok (.istore 4, 2) := by decide +kernel
theorem dL_drifts_17 : decode bL_drifts 17 = .ok (.iconst 0, 1) := by decide +kernel
theorem dL_drifts_18 : decode bL_drifts 18 = .ok (.istore 5, 2) := by decide +kernel
theorem dL_drifts_20 : decode bL_drifts 20 = .ok (.iload_n 3, 1) := by decide +kernel
theorem dL_drifts_21 : decode bL_drifts 21 = .ok (.iconst 5, 1) := by decide +kernel
theorem dL_drifts_22 : decode bL_drifts 22 = .ok (.isub, 1) := by decide +kernel
theorem dL_drifts_23 : decode bL_drifts 23 = .ok (.istore 6, 2) := by decide +kernel
theorem dL_drifts_25 : decode bL_drifts 25 = .ok (.iload 6, 2) := by decide +kernel
theorem dL_drifts_27 : decode bL_drifts 27 = .ok (.iload_n 3, 1) := by decide +kernel
theorem dL_drifts_28 : decode bL_drifts 28 = .ok (.if_icmp .ge 47, 3) := by decide +kernel
theorem dL_drifts_31 : decode bL_drifts 31 = .ok (.aload_n 0, 1) := by decide +kernel
theorem dL_drifts_32 : decode bL_drifts 32 = .ok (.getfield 21, 3) := by decide +kernel
theorem dL_drifts_35 : decode bL_drifts 35 = .ok (.iload_n 1, 1) := by decide +kernel
theorem dL_drifts_36 : decode bL_drifts 36 = .ok (.aaload, 1) := by decide +kernel
theorem dL_drifts_37 : decode bL_drifts 37 = .ok (.iload 6, 2) := by decide +kernel
theorem dL_drifts_39 : decode bL_drifts 39 = .ok (.iaload, 1) := by decide +kernel
theorem dL_drifts_40 : decode bL_drifts 40 = .ok (.iload_n 2, 1) := by decide +kernel
theorem dL_drifts_41 : decode bL_drifts 41 = .ok (.bipush 10, 2) := by decide +kernel
theorem dL_drifts_43 : decode bL_drifts 43 = .ok (.iadd, 1) := by decide +kernel
theorem dL_drifts_44 : decode bL_drifts 44 = .ok (.if_icmp .le 6, 3) := by decide +kernel
theorem dL_drifts_47 : decode bL_drifts 47 = .ok (.iinc 4 1, 3) := by decide +kernel
theorem dL_drifts_50 : decode bL_drifts 50 = .ok (.aload_n 0, 1) := by decide +kernel
theorem dL_drifts_51 : decode bL_drifts 51 = .ok (.getfield 21, 3) := by decide +kernel
theorem dL_drifts_54 : decode bL_drifts 54 = .ok (.iload_n 1, 1) := by decide +kernel
theorem dL_drifts_55 : decode bL_drifts 55 = .ok (.aaload, 1) := by decide +kernel
theorem dL_drifts_56 : decode bL_drifts 56 = .ok (.iload 6, 2) := by decide +kernel
theorem dL_drifts_58 : decode bL_drifts 58 = .ok (.iaload, 1) := by decide +kernel
theorem dL_drifts_59 : decode bL_drifts 59 = .ok (.iload_n 2, 1) := by decide +kernel
theorem dL_drifts_60 : decode bL_drifts 60 = .ok (.bipush 10, 2) := by decide +kernel
theorem dL_drifts_62 : decode bL_drifts 62 = .ok (.isub, 1) := by decide +kernel
theorem dL_drifts_63 : decode bL_drifts 63 = .ok (.if_icmp .ge 6, 3) := by decide +kernel
theorem dL_drifts_66 : decode bL_drifts 66 = .ok (.iinc 5 1, 3) := by decide +kernel
theorem dL_drifts_69 : decode bL_drifts 69 = .ok (.iinc 6 1, 3) := by decide +kernel
theorem dL_drifts_72 : decode bL_drifts 72 = .ok (.goto (-47), 3) := by decide +kernel
theorem dL_drifts_75 : decode bL_drifts 75 = .ok (.iload 4, 2) := by decide +kernel
theorem dL_drifts_77 : decode bL_drifts 77 = .ok (.iconst 5, 1) := by decide +kernel
theorem dL_drifts_78 : decode bL_drifts 78 = .ok (.if_icmp .eq 9, 3) := by decide +kernel
theorem dL_drifts_81 : decode bL_drifts 81 = .ok (.iload 5, 2) := by decide +kernel
theorem dL_drifts_83 : decode bL_drifts 83 = .ok (.iconst 5, 1) := by decide +kernel
theorem dL_drifts_84 : decode bL_drifts 84 = .ok (.if_icmp .ne 7, 3) := by decide +kernel
theorem dL_drifts_87 : decode bL_drifts 87 = .ok (.iconst 1, 1) := by decide +kernel
theorem dL_drifts_88 : decode bL_drifts 88 = .ok (.goto 4, 3) := by decide +kernel
theorem dL_drifts_91 : decode bL_drifts 91 = .ok (.iconst 0, 1) := by decide +kernel
theorem dL_drifts_92 : decode bL_drifts 92 = .ok (.ireturn, 1) := by decide +kernel
theorem dL_jumps_0 : decode bL_jumps 0 = .ok (.aload_n 0, 1) := by decide +kernel
theorem dL_jumps_1 : decode bL_jumps 1 = .ok (.getfield 15, 3) := by decide +kernel
theorem dL_jumps_4 : decode bL_jumps 4 = .ok (.iload_n 1, 1) := by decide +kernel
theorem dL_jumps_5 : decode bL_jumps 5 = .ok (.iaload, 1) := by decide +kernel
theorem dL_jumps_6 : decode bL_jumps 6 = .ok (.istore_n 3, 1) := by decide +kernel
theorem dL_jumps_7 : decode bL_jumps 7 = .ok (.iload_n 3, 1) := by decide +kernel
theorem dL_jumps_8 : decode bL_jumps 8 = .ok (.iconst 2, 1) := by decide +kernel
theorem dL_jumps_9 : decode bL_jumps 9 = .ok (.if_icmp .lt 35, 3) := by decide +kernel
theorem dL_jumps_12 : decode bL_jumps 12 = .ok (.aload_n 0, 1) := by decide +kernel
theorem dL_jumps_13 : decode bL_jumps 13 = .ok (.getfield 21, 3) := by decide +kernel
theorem dL_jumps_16 : decode bL_jumps 16 = .ok (.iload_n 1, 1) := by decide +kernel
theorem dL_jumps_17 : decode bL_jumps 17 = .ok (.aaload, 1) := by decide +kernel
theorem dL_jumps_18 : decode bL_jumps 18 = .ok (.iload_n 3, 1) := by decide +kernel
theorem dL_jumps_19 : decode bL_jumps 19 = .ok (.iconst 1, 1) := by decide +kernel
theorem dL_jumps_20 : decode bL_jumps 20 = .ok (.isub, 1) := by decide +kernel
theorem dL_jumps_21 : decode bL_jumps 21 = .ok (.iaload, 1) := by decide +kernel
theorem dL_jumps_22 : decode bL_jumps 22 = .ok (.aload_n 0, 1) := by decide +kernel
theorem dL_jumps_23 : decode bL_jumps 23 = .ok (.getfield 21, 3) := by decide +kernel
theorem dL_jumps_26 : decode bL_jumps 26 = .ok (.iload_n 1, 1) := by decide +kernel
theorem dL_jumps_27 : decode bL_jumps 27 = .ok (.aaload, 1) := by decide +kernel
theorem dL_jumps_28 : decode bL_jumps 28 = .ok (.iload_n 3, 1) := by decide +kernel
theorem dL_jumps_29 : decode bL_jumps 29 = .ok (.iconst 2, 1) := by decide +kernel
theorem dL_jumps_30 : decode bL_jumps 30 = .ok (.isub, 1) := by decide +kernel
theorem dL_jumps_31 : decode bL_jumps 31 = .ok (.iaload, 1) := by decide +kernel
theorem dL_jumps_32 : decode bL_jumps 32 = .ok (.isub, 1) := by decide +kernel
theorem dL_jumps_33 : decode bL_jumps 33 = .ok (.invokestatic 36, 3) := by decide +kernel
theorem dL_jumps_36 : decode bL_jumps 36 = .ok (.iload_n 2, 1) := by decide +kernel
theorem dL_jumps_37 : decode bL_jumps 37 = .ok (.if_icmp .le 7, 3) := by decide +kernel
theorem dL_jumps_40 : decode bL_jumps 40 = .ok (.iconst 1, 1) := by decide +kernel
theorem dL_jumps_41 : decode bL_jumps 41 = .ok (.goto 4, 3) := by decide +kernel
theorem dL_jumps_44 : decode bL_jumps 44 = .ok (.iconst 0, 1) := by decide +kernel
theorem dL_jumps_45 : decode bL_jumps 45 = .ok (.ireturn, 1) := by decide +kernel
end
section
/-! The memory of a world whose references never change: M k j is the j-th number of its k-th cell. -/
abbrev mMem : Type := Nat → Nat → Int32
abbrev mDesc : Type := Nat × Nat × List (Option Nat)
def mu (M : mMem) (k j : Nat) (v : Int32) : mMem := fun q => if q = k then upd (M k) j v else M q
abbrev inb (i : Int32) (n : Nat) : Prop := ¬ (i < 0 ∨ n ≤ i.toNatClampNeg)
def m_l {α β : Type} (a : α) (f : α → β) : β := f a
def m_g {α : Type} (c : Prop) [Decidable c] (t : Option α) : Option α := if c then t else none
def m_b1 {α β : Type} (o : Option α) (f : α → Option β) : Option β := match o with
  | none => none
  | some a => f a
def m_b2 {α β γ : Type} (o : Option (α × β)) (f : α → β → Option γ) : Option γ := match o with
  | none => none
  | some p => f p.1 p.2
theorem m_lx {α β : Type} {a : α} {f : α → Option β} {r : β} (h : m_l a f = some r) : ∃ x, x = a ∧ f x = some r := ⟨a, rfl, h⟩
theorem m_gx {α : Type} {c : Prop} [Decidable c] {t : Option α} {r : α} (h : m_g c t = some r) : c ∧ t = some r := by
  unfold m_g at h
  by_cases hc : c
  · rw [if_pos hc] at h
    exact ⟨hc, h⟩
  · rw [if_neg hc] at h
    cases h
theorem m_b1x {α β : Type} {o : Option α} {f : α → Option β} {r : β} (h : m_b1 o f = some r) : ∃ x, o = some x ∧ f x = some r := by
  cases o with
  | none => cases h
  | some a => exact ⟨a, rfl, h⟩
theorem m_b2x {α β γ : Type} {o : Option (α × β)} {f : α → β → Option γ} {r : γ} (h : m_b2 o f = some r) : ∃ x y, o = some (x, y) ∧ f x y = some r := by
  cases o with
  | none => cases h
  | some p => exact ⟨p.1, p.2, rfl, h⟩
theorem m_t {α : Type} {c : Prop} [Decidable c] {a b r : α} (h : (if c then a else b) = r) (hc : c) : a = r := by
  rw [if_pos hc] at h
  exact h
theorem m_f {α : Type} {c : Prop} [Decidable c] {a b r : α} (h : (if c then a else b) = r) (hc : ¬ c) : b = r := by
  rw [if_neg hc] at h
  exact h
theorem m_none {α : Type} {P : Prop} {r : α} (h : (none : Option α) = some r) : P := by cases h
theorem m_lt {i : Int32} {n : Nat} (h : inb i n) : i.toNatClampNeg < n := Nat.not_le.mp fun q => h (Or.inr q)
/-! the world -/
def m_fl (ad : Nat → Nat) (m : Nat → Int32) : Nat → List (Option Nat) → List Value
  | _, [] => []
  | j, none :: l => .int (m j) :: m_fl ad m (j + 1) l
  | j, some k :: l => .ref (ad k) :: m_fl ad m (j + 1) l
/-- the rows of a grid, by their addresses -/
def m_rw (n : Nat) (f : Nat → Nat) : Nat → Option Nat := fun j => ((List.range n).map (fun i => some (f i))).getD j none
theorem m_rw_at {n : Nat} {f : Nat → Nat} {j : Nat} (h : j < n) : m_rw n f j = some (f j) := by simp [m_rw, h]
def m_E (ad : Nat → Nat) (c3 : ClassId × ClassId × ClassId) (k : Nat) (m : Nat → Int32) (d : mDesc) : va_E := match d with
  | (0, n, _) => .inl (c3.1, n, .inl m)
  | (1, n, _) => .inl (c3.2.1, n, .inl m)
  | (2, n, _) => .inl (c3.2.2, n, .inr (.inr (.inr (.inr (m_rw n (fun i => ad (k + 1 + i)))))))
  | (_, n, l) => .inr (n, m_fl ad m 0 l)
def m_ws (ly : Nat → mDesc) (N : Nat) (ad : Nat → Nat) (c3 : ClassId × ClassId × ClassId) (M : mMem) : va_W := (List.range N).map (fun k => (ad k, m_E ad c3 k (M k) (ly k)))
def m_A (N : Nat) (ad : Nat → Nat) : Nat → Prop := fun q => ∃ k, k < N ∧ ad k = q
abbrev m_ty (c3 : ClassId × ClassId × ClassId) : List (ClassId × FieldType) := [(c3.1, .int), (c3.2.1, .boolean), (c3.2.2, .array .int)]
theorem m_fl_get (ad : Nat → Nat) (m : Nat → Int32) : ∀ (l : List (Option Nat)) (j i : Nat), (m_fl ad m i l)[j]? = (l[j]?).map (fun o => match o with | none => Value.int (m (i + j)) | some k => Value.ref (ad k))
  | [], j, i => by simp [m_fl]
  | none :: l, 0, i => by simp [m_fl]
  | some k :: l, 0, i => by simp [m_fl]
  | none :: l, j + 1, i => by
    rw [m_fl, List.getElem?_cons_succ, m_fl_get ad m l j (i + 1), List.getElem?_cons_succ, Nat.add_right_comm, Nat.add_assoc]
  | some k :: l, j + 1, i => by
    rw [m_fl, List.getElem?_cons_succ, m_fl_get ad m l j (i + 1), List.getElem?_cons_succ, Nat.add_right_comm, Nat.add_assoc]
theorem m_fl_len (ad : Nat → Nat) (m : Nat → Int32) : ∀ (l : List (Option Nat)) (i : Nat), (m_fl ad m i l).length = l.length
  | [], i => rfl
  | none :: l, i => by simp [m_fl, m_fl_len ad m l (i + 1)]
  | some k :: l, i => by simp [m_fl, m_fl_len ad m l (i + 1)]
theorem m_fl_set (ad : Nat → Nat) (m : Nat → Int32) (l : List (Option Nat)) (j : Nat) (v : Int32) (h : l[j]? = some none) : (m_fl ad m 0 l).set j (.int v) = m_fl ad (upd m j v) 0 l := by
  have hj : j < l.length := (List.getElem?_eq_some_iff.mp h).1
  apply List.ext_getElem?
  intro i
  rw [m_fl_get]
  by_cases hi : j = i
  · subst hi
    rw [List.getElem?_set_self (by rw [m_fl_len]; exact hj), h]
    simp [upd]
  · rw [List.getElem?_set_ne hi, m_fl_get]
    cases hl : l[i]? with
    | none => rfl
    | some o =>
      cases o with
      | none => simp [upd, Ne.symm hi]
      | some k => rfl
theorem m_ws_at {ly : Nat → mDesc} {N : Nat} {ad : Nat → Nat} {c3 : ClassId × ClassId × ClassId} {M : mMem} {k : Nat} (hk : k < N) : (m_ws ly N ad c3 M)[k]? = some (ad k, m_E ad c3 k (M k) (ly k)) := by
  simp [m_ws, hk]
theorem m_ws_none {ly : Nat → mDesc} {N : Nat} {ad : Nat → Nat} {c3 : ClassId × ClassId × ClassId} {M : mMem} {k : Nat} (hk : ¬ k < N) : (m_ws ly N ad c3 M)[k]? = none := by
  simp [m_ws]; omega
theorem m_ws_set {ly : Nat → mDesc} {N : Nat} {ad : Nat → Nat} {c3 : ClassId × ClassId × ClassId} {M M1 : mMem} {k : Nat} (hk : k < N) {e : va_E} (he : e = m_E ad c3 k (M1 k) (ly k)) (ho : ∀ q, q ≠ k → M1 q = M q) : (m_ws ly N ad c3 M).set k (ad k, e) = m_ws ly N ad c3 M1 := by
  subst he
  apply List.ext_getElem?
  intro i
  by_cases hi : k = i
  · subst hi
    rw [List.getElem?_set_self (by simp [m_ws]; exact hk), m_ws_at hk]
  · rw [List.getElem?_set_ne hi]
    by_cases hn : i < N
    · rw [m_ws_at hn, m_ws_at hn, ho i (Ne.symm hi)]
    · rw [m_ws_none hn, m_ws_none hn]
theorem mu_self (M : mMem) (k j : Nat) (v : Int32) : mu M k j v k = upd (M k) j v := by simp [mu]
theorem mu_ne (M : mMem) {k q : Nat} (j : Nat) (v : Int32) (h : q ≠ k) : mu M k j v q = M q := by simp [mu, h]
/-- the addresses of the world don't hang on what its cells hold -/
theorem m_D {ly : Nat → mDesc} {N : Nat} {ad : Nat → Nat} {c3 : ClassId × ClassId × ClassId} {A : Nat → Prop} {M : mMem} (M1 : mMem) (h : va_D A (m_ws ly N ad c3 M)) : va_D A (m_ws ly N ad c3 M1) := by
  have key : ∀ (k : Nat) (q : Nat × va_E), (m_ws ly N ad c3 M1)[k]? = some q → ∃ q0, (m_ws ly N ad c3 M)[k]? = some q0 ∧ q0.1 = q.1 := by
    intro k q hq
    by_cases hk : k < N
    · rw [m_ws_at hk] at hq
      cases hq
      exact ⟨_, m_ws_at hk, rfl⟩
    · rw [m_ws_none hk] at hq
      cases hq
  refine ⟨fun i j x y hi hj hxy => ?_, fun k q hk => ?_⟩
  · obtain ⟨x0, h1, h2⟩ := key i x hi
    obtain ⟨y0, h3, h4⟩ := key j y hj
    exact h.1 i j x0 y0 h1 h3 (h2.trans (hxy.trans h4.symm))
  · obtain ⟨q0, h1, h2⟩ := key k q hk
    rw [← h2]
    exact h.2 k q0 h1
def mZ (cl : List vw_C) (D : va_G) (ly : Nat → mDesc) (N : Nat) (ad : Nat → Nat) (c3 : ClassId × ClassId × ClassId) (H0 H : Heap) (locs : List Loc) (M : mMem) : Prop :=
  va_P D cl (m_ws ly N ad c3 M) H ∧ va_D (m_A N ad) (m_ws ly N ad c3 M) ∧ va_S (m_A N ad) H0 H locs
def mC (cl : List vw_C) (nw : List Cond) (D : va_G) (ly : Nat → mDesc) (N : Nat) (ad : Nat → Nat) (c3 : ClassId × ClassId × ClassId) (M : mMem) (U : State) : Prop :=
  va_P D cl (m_ws ly N ad c3 M) U.heap ∧ va_K D cl (m_ty c3) U ∧ va_D (m_A N ad) (m_ws ly N ad c3 M) ∧ ∀ w ∈ nw, va_Nw w U
def mKI (cl : List vw_C) (nw : List Cond) (ly : Nat → mDesc) (N : Nat) (l : Launch) (D : va_G) (ad : Nat → Nat) (c3 : ClassId × ClassId × ClassId) (y : MethodName) (w : List Cond) (rm : Room) (av : List Value) (M : mMem) (r : Int32) (M' : mMem) : Prop :=
  Met l y w rm (va_Pc av (mC cl nw D ly N ad c3 M)) (va_Qi (fun (r' : Int32) (_ : Unit) => r' = r) (fun _ t => va_P D cl (m_ws ly N ad c3 M') t.heap) (m_A N ad)) 0 0 (m_A N ad)
def mKV (cl : List vw_C) (nw : List Cond) (ly : Nat → mDesc) (N : Nat) (l : Launch) (D : va_G) (ad : Nat → Nat) (c3 : ClassId × ClassId × ClassId) (y : MethodName) (w : List Cond) (rm : Room) (av : List Value) (M : mMem) (M' : mMem) : Prop :=
  Met l y w rm (va_Pc av (mC cl nw D ly N ad c3 M)) (va_Qv (fun (_ : Unit) => True) (fun _ t => va_P D cl (m_ws ly N ad c3 M') t.heap) (m_A N ad)) 0 0 (m_A N ad)
end
section
section MZR
variable {p : Program} {l : Launch} {e : Env} {R : Room} {s : State} {m : MethodId} {args : Array Value} {below : List Frame} {meth : Method} {c : Code} {H : Heap} {locs : List Loc} {cells slots : Nat} {Q : State → Prop}
variable {cc : ByteArray} {pc : Nat} {ls : Array Slot} {rest : List Value} {D : va_G} {cl : List vw_C} {ly : Nat → mDesc} {N : Nat} {ad : Nat → Nat} {c3 : ClassId × ClassId × ClassId} {M : mMem}
theorem m_topi {x y : Int32} (h : y = x) (k : W p l e R s m args below meth c H locs cells slots Q (F0 m pc ls (.int y :: rest))) : W p l e R s m args below meth c H locs cells slots Q (F0 m pc ls (.int x :: rest)) := h ▸ k
theorem m_get (hexec : p.tables.exec = Jvm.exec) (hb : c.code = cc) {own ref C : String} {T : u_T} {n ci index : Nat} {Ts : List Cond} (hts : ∀ w ∈ Ts, w.before args s = true) (hin : ∀ w ∈ u_ws C T n, w ∈ Ts) (hown : s.vm.findClass own = some m.cls) (hK : va_K D cl (m_ty c3) s) (hZ : mZ cl D ly N ad c3 s.heap H locs M) {k : Nat} (hk : k < N) {lst : List (Option Nat)} (hd : ly k = (3, ci, lst)) (hc : cl[ci]? = some (C, T, n)) (j : Nat) (hj : j < n) (hlink : (Cond.fieldLink own index ref (T j).2.1 (T j).2.2.1).before args s = true) (hsame : ∀ x, s.fieldFound? (T j).1 (T j).2.1 (T j).2.2.1 = some x → s.fieldFound? ref (T j).2.1 (T j).2.2.1 = some x) (hv : lst[j]? = some none) (hdg : decode cc pc = .ok (.getfield index, 3))
    (kk : W p l e R s m args below meth c H locs cells slots Q (F0 m (pc + 3) ls (.int (M k j) :: rest))) : W p l e R s m args below meth c H locs cells slots Q (F0 m pc ls (.ref (ad k) :: rest)) := by
  have he := m_ws_at (ly := ly) (ad := ad) (c3 := c3) (M := M) hk
  rw [hd] at he
  exact va_get (v := .int (M k j)) hexec hb hts hin hown hK hZ.1 k he hc j hj hlink hsame (by rw [m_fl_get, hv]; simp) hdg kk
theorem m_getR (hexec : p.tables.exec = Jvm.exec) (hb : c.code = cc) {own ref C : String} {T : u_T} {n ci index : Nat} {Ts : List Cond} (hts : ∀ w ∈ Ts, w.before args s = true) (hin : ∀ w ∈ u_ws C T n, w ∈ Ts) (hown : s.vm.findClass own = some m.cls) (hK : va_K D cl (m_ty c3) s) (hZ : mZ cl D ly N ad c3 s.heap H locs M) {k k' : Nat} (hk : k < N) {lst : List (Option Nat)} (hd : ly k = (3, ci, lst)) (hc : cl[ci]? = some (C, T, n)) (j : Nat) (hj : j < n) (hlink : (Cond.fieldLink own index ref (T j).2.1 (T j).2.2.1).before args s = true) (hsame : ∀ x, s.fieldFound? (T j).1 (T j).2.1 (T j).2.2.1 = some x → s.fieldFound? ref (T j).2.1 (T j).2.2.1 = some x) (hv : lst[j]? = some (some k')) (hdg : decode cc pc = .ok (.getfield index, 3))
    (kk : W p l e R s m args below meth c H locs cells slots Q (F0 m (pc + 3) ls (.ref (ad k') :: rest))) : W p l e R s m args below meth c H locs cells slots Q (F0 m pc ls (.ref (ad k) :: rest)) := by
  have he := m_ws_at (ly := ly) (ad := ad) (c3 := c3) (M := M) hk
  rw [hd] at he
  exact va_get (v := .ref (ad k')) hexec hb hts hin hown hK hZ.1 k he hc j hj hlink hsame (by rw [m_fl_get, hv]; simp) hdg kk
theorem m_put (hexec : p.tables.exec = Jvm.exec) (hb : c.code = cc) {own ref C : String} {T : u_T} {n ci index : Nat} {Ts : List Cond} (hts : ∀ w ∈ Ts, w.before args s = true) (hin : ∀ w ∈ u_ws C T n, w ∈ Ts) {ty0 : Nat → FieldType} (hty : (∀ k, k < n → parseFieldDescriptor (T k).2.2.1 = some (ty0 k)) ∧ (∀ a, a < n → ∀ b, b < n → a ≠ b → (T a).2.1 ≠ (T b).2.1)) (hown : s.vm.findClass own = some m.cls) (hK : va_K D cl (m_ty c3) s) (hZ : mZ cl D ly N ad c3 s.heap H locs M) {k : Nat} (hk : k < N) {lst : List (Option Nat)} (hd : ly k = (3, ci, lst)) (hc : cl[ci]? = some (C, T, n)) (j : Nat) (hj : j < n) (hlink : (Cond.fieldLink own index ref (T j).2.1 (T j).2.2.1).before args s = true) (hsame : ∀ x, s.fieldFound? (T j).1 (T j).2.1 (T j).2.2.1 = some x → s.fieldFound? ref (T j).2.1 (T j).2.2.1 = some x) (hfin : (T j).2.2.2 = false) {ty : FieldType} {v : Int32} (hpd : parseFieldDescriptor (T j).2.2.1 = some ty) (hn : narrow ty (.int v) = .int v) (hfit : fits ty (.int v) = true) (hv : lst[j]? = some none)
    (hdg : decode cc pc = .ok (.putfield index, 3)) {M1 : mMem} (eM : M1 = mu M k j v) (kk : ∀ (H1 : Heap) (locs1 : List Loc), mZ cl D ly N ad c3 s.heap H1 locs1 M1 → W p l e R s m args below meth c H1 locs1 cells slots Q (F0 m (pc + 3) ls rest)) : W p l e R s m args below meth c H locs cells slots Q (F0 m pc ls (.int v :: .ref (ad k) :: rest)) := by
  subst eM
  have he := m_ws_at (ly := ly) (ad := ad) (c3 := c3) (M := M) hk
  rw [hd] at he
  obtain ⟨hP, hD, hS⟩ := hZ
  refine va_put hexec hb hts hin ty0 hty.1 hty.2 hown hK hP hD hS k he hc j hj hlink hsame hfin hpd hn hfit (by rw [m_fl_len]; exact (List.getElem?_eq_some_iff.mp hv).1) hdg (fun H1 locs1 hP1 hD1 hS1 => kk H1 locs1 ⟨?_, m_D _ hD, hS1⟩)
  rw [m_fl_set _ _ _ _ _ hv, m_ws_set (M1 := mu M k j v) hk (by rw [hd, mu_self]; rfl) (fun q hq => mu_ne M j v hq)] at hP1
  exact hP1
theorem m_iald (hexec : p.tables.exec = Jvm.exec) (hb : c.code = cc) (hK : va_K D cl (m_ty c3) s) (hZ : mZ cl D ly N ad c3 s.heap H locs M) {k n : Nat} (hk : k < N) {lst : List (Option Nat)} (hd : ly k = (0, n, lst)) {i : Int32} (hin : inb i n) (hdg : decode cc pc = .ok (.iaload, 1))
    (kk : W p l e R s m args below meth c H locs cells slots Q (F0 m (pc + 1) ls (.int (M k i.toNatClampNeg) :: rest))) : W p l e R s m args below meth c H locs cells slots Q (F0 m pc ls (.int i :: .ref (ad k) :: rest)) := by
  have he := m_ws_at (ly := ly) (ad := ad) (c3 := c3) (M := M) hk
  rw [hd] at he
  exact va_iald hexec hb hK hZ.1 k 0 he rfl hin hdg kk
theorem m_zald (hexec : p.tables.exec = Jvm.exec) (hb : c.code = cc) (hK : va_K D cl (m_ty c3) s) (hZ : mZ cl D ly N ad c3 s.heap H locs M) {k n : Nat} (hk : k < N) {lst : List (Option Nat)} (hd : ly k = (1, n, lst)) {i : Int32} (hin : inb i n) (hdg : decode cc pc = .ok (.baload, 1))
    (kk : W p l e R s m args below meth c H locs cells slots Q (F0 m (pc + 1) ls (.int (M k i.toNatClampNeg) :: rest))) : W p l e R s m args below meth c H locs cells slots Q (F0 m pc ls (.int i :: .ref (ad k) :: rest)) := by
  have he := m_ws_at (ly := ly) (ad := ad) (c3 := c3) (M := M) hk
  rw [hd] at he
  exact va_zald hexec hb hK hZ.1 k 1 he rfl hin hdg kk
theorem m_aald (hexec : p.tables.exec = Jvm.exec) (hb : c.code = cc) (hK : va_K D cl (m_ty c3) s) (hZ : mZ cl D ly N ad c3 s.heap H locs M) {k n : Nat} (hk : k < N) {lst : List (Option Nat)} (hd : ly k = (2, n, lst)) {i : Int32} (hin : inb i n) (hdg : decode cc pc = .ok (.aaload, 1))
    (kk : W p l e R s m args below meth c H locs cells slots Q (F0 m (pc + 1) ls (.ref (ad (k + 1 + i.toNatClampNeg)) :: rest))) : W p l e R s m args below meth c H locs cells slots Q (F0 m pc ls (.int i :: .ref (ad k) :: rest)) := by
  have he := m_ws_at (ly := ly) (ad := ad) (c3 := c3) (M := M) hk
  rw [hd] at he
  have hlt : i.toNatClampNeg < n := m_lt hin
  exact W.aald (v := .ref (ad (k + 1 + i.toNatClampNeg))) (ty := .array .int) hexec hb (hZ.1 k _ he) ((hK.2 2 _ rfl).1 n (fun j => va_rf (m_rw n (fun i => ad (k + 1 + i)) j))) rfl (fun q => by cases q) (by show ¬ (i < 0 ∨ (arrV _ _ _).slots.size ≤ _); rw [arrV_size]; exact hin) (by show (arrV _ _ _).slots[_]? = _; rw [arrV_read _ _ hlt, m_rw_at hlt]; rfl) rfl rfl hdg kk
theorem m_iast (hexec : p.tables.exec = Jvm.exec) (hb : c.code = cc) (hK : va_K D cl (m_ty c3) s) (hZ : mZ cl D ly N ad c3 s.heap H locs M) {k n : Nat} (hk : k < N) {lst : List (Option Nat)} (hd : ly k = (0, n, lst)) {i x : Int32} (hin : inb i n) (hdg : decode cc pc = .ok (.iastore, 1))
    {M1 : mMem} (eM : M1 = mu M k i.toNatClampNeg x) (kk : ∀ (H1 : Heap) (locs1 : List Loc), mZ cl D ly N ad c3 s.heap H1 locs1 M1 → W p l e R s m args below meth c H1 locs1 cells slots Q (F0 m (pc + 1) ls rest)) : W p l e R s m args below meth c H locs cells slots Q (F0 m pc ls (.int x :: .int i :: .ref (ad k) :: rest)) := by
  subst eM
  have he := m_ws_at (ly := ly) (ad := ad) (c3 := c3) (M := M) hk
  rw [hd] at he
  obtain ⟨hP, hD, hS⟩ := hZ
  refine va_iast hexec hb hK hP hD hS k 0 he rfl hin hdg (fun H1 locs1 hP1 hD1 hS1 => kk H1 locs1 ⟨?_, m_D _ hD, hS1⟩)
  rw [m_ws_set (M1 := mu M k i.toNatClampNeg x) hk (by rw [hd, mu_self]; rfl) (fun q hq => mu_ne M _ x hq)] at hP1
  exact hP1
/-- a boolean array keeps 0 and 1; 'hx' says that the pure text has what it keeps -/
theorem m_zast (hexec : p.tables.exec = Jvm.exec) (hb : c.code = cc) (hK : va_K D cl (m_ty c3) s) (hZ : mZ cl D ly N ad c3 s.heap H locs M) {k n : Nat} (hk : k < N) {lst : List (Option Nat)} (hd : ly k = (1, n, lst)) {i x : Int32} (hin : inb i n) (hdg : decode cc pc = .ok (.bastore, 1))
    {M1 : mMem} {y : Int32} (eM : M1 = mu M k i.toNatClampNeg y) (hy : y = vp_nar .boolean x) (kk : ∀ (H1 : Heap) (locs1 : List Loc), mZ cl D ly N ad c3 s.heap H1 locs1 M1 → W p l e R s m args below meth c H1 locs1 cells slots Q (F0 m (pc + 1) ls rest)) : W p l e R s m args below meth c H locs cells slots Q (F0 m pc ls (.int x :: .int i :: .ref (ad k) :: rest)) := by
  subst eM
  subst hy
  have he := m_ws_at (ly := ly) (ad := ad) (c3 := c3) (M := M) hk
  rw [hd] at he
  obtain ⟨hP, hD, hS⟩ := hZ
  refine va_zast hexec hb hK hP hD hS k 1 he rfl hin hdg (fun H1 locs1 hP1 hD1 hS1 => kk H1 locs1 ⟨?_, m_D _ hD, hS1⟩)
  rw [m_ws_set (M1 := mu M k i.toNatClampNeg (vp_nar .boolean x)) hk (by rw [hd, mu_self]; rfl) (fun q hq => mu_ne M _ _ hq)] at hP1
  exact hP1
/-! calls within a world -/
variable {nw : List Cond} {M' : mMem}
theorem m_nwc {U : State} {g : JFrame} {mk : MethodId} {a : Array Value} (hn : ∀ w ∈ nw, ∃ a i x h, w = Cond.methodLinkNest a i x h) (h : ∀ w ∈ nw, va_Nw w U) : ∀ w ∈ nw, va_Nw w (U.calling g mk a) := by
  intro w hw
  obtain ⟨a', i, x, h', rfl⟩ := hn w hw
  exact va_tabs (A := #[]) (u := U) rfl (show U.vm = (U.calling g mk a).vm from rfl) (h _ hw)
theorem m_blind {av : List Value} (hn : ∀ w ∈ nw, ∃ a i x h, w = Cond.methodLinkNest a i x h) : FrameBlind (va_Pc av (mC cl nw D ly N ad c3 M)) := by
  intro a U g mk q
  obtain ⟨q0, qP, qK, qD, qN⟩ := q
  exact ⟨q0, qP, va_K.moved (u := U) (U := U.calling g mk a) (Vm.Alike.refl U.vm) qK, qD, m_nwc hn qN⟩
theorem m_nw {U : State} (hW : s.WarmedH U.vm) (hn : ∀ w ∈ nw, ∃ a i x h, w = Cond.methodLinkNest a i x h) (h : ∀ w ∈ nw, va_Nw w s) : ∀ w ∈ nw, va_Nw w U := by
  intro w hw
  obtain ⟨a, i, x, h', rfl⟩ := hn w hw
  exact va_Nw.warmM hW (h _ hw)
theorem m_preS {As : List Value} (hK : va_K D cl (m_ty c3) s) (hN : (∀ w ∈ nw, ∃ a i x h, w = Cond.methodLinkNest a i x h) ∧ ∀ w ∈ nw, va_Nw w s) (hZ : mZ cl D ly N ad c3 s.heap H locs M) : PreS s H (va_Pc As (mC cl nw D ly N ad c3 M)) As :=
  ⟨m_blind hN.1, fun U hU hW => ⟨rfl, by rw [hU]; exact hZ.1, va_K.moved hW.alike hK, hZ.2.1, m_nw hW hN.1 hN.2⟩⟩
theorem m_preV {As : List Value} (hK : va_K D cl (m_ty c3) s) (hN : (∀ w ∈ nw, ∃ a i x h, w = Cond.methodLinkNest a i x h) ∧ ∀ w ∈ nw, va_Nw w s) (hZ : mZ cl D ly N ad c3 s.heap H locs M) {k ci n : Nat} {C : String} {T : u_T} {lst : List (Option Nat)} (hk : k < N) (hd : ly k = (3, ci, lst)) (hc : cl[ci]? = some (C, T, n)) : PreV s H C (ad k) (va_Pc (.ref (ad k) :: As) (mC cl nw D ly N ad c3 M)) As := by
  have he := m_ws_at (ly := ly) (ad := ad) (c3 := c3) (M := M) hk
  rw [hd] at he
  exact ⟨m_blind hN.1, va_recv hK hZ.1 hc he, fun U hU hW => ⟨rfl, by rw [hU]; exact hZ.1, va_K.moved hW.alike hK, hZ.2.1, m_nw hW hN.1 hN.2⟩⟩
variable {st0 : List Value} {a : Array Value} {r : Int32}
theorem m_ci (hr : va_Run p l e R s m args below meth c H locs cells slots 0 0 (F0 m pc ls st0) rest (va_Qi (fun (r' : Int32) (_ : Unit) => r' = r) (fun _ t => va_P D cl (m_ws ly N ad c3 M') t.heap) (m_A N ad) a) (m_A N ad)) (hZ : mZ cl D ly N ad c3 s.heap H locs M)
    (kk : ∀ (H1 : Heap) (locs1 : List Loc), mZ cl D ly N ad c3 s.heap H1 locs1 M' → W p l e R s m args below meth c H1 locs1 cells slots Q (F0 m (pc + 3) ls (.int r :: rest))) : W p l e R s m args below meth c H locs cells slots Q (F0 m pc ls st0) := by
  refine va_calli hr hZ.2.2 (fun q _ h => h) (fun q h => h) (fun r' u t H1 locs1 ht hvm hp hB hz hk hS => ?_)
  subst hp
  rw [ht] at hB
  exact kk H1 locs1 ⟨hB, m_D _ hZ.2.1, hS⟩
theorem m_cv (hr : va_Run p l e R s m args below meth c H locs cells slots 0 0 (F0 m pc ls st0) rest (va_Qv (fun (_ : Unit) => True) (fun _ t => va_P D cl (m_ws ly N ad c3 M') t.heap) (m_A N ad) a) (m_A N ad)) (hZ : mZ cl D ly N ad c3 s.heap H locs M)
    (kk : ∀ (H1 : Heap) (locs1 : List Loc), mZ cl D ly N ad c3 s.heap H1 locs1 M' → W p l e R s m args below meth c H1 locs1 cells slots Q (F0 m (pc + 3) ls rest)) : W p l e R s m args below meth c H locs cells slots Q (F0 m pc ls st0) := by
  refine va_callv hr hZ.2.2 (fun q _ h => h) (fun q h => h) (fun u t H1 locs1 ht hvm hp hB hz hk hS => ?_)
  rw [ht] at hB
  exact kk H1 locs1 ⟨hB, m_D _ hZ.2.1, hS⟩
end MZR
/-! a method's beginning and its end -/
section MZO
variable {l : Launch} {D : va_G} {cl : List vw_C} {nw : List Cond} {ly : Nat → mDesc} {N : Nat} {ad : Nat → Nat} {c3 : ClassId × ClassId × ClassId} {M M' : mMem} {y : MethodName} {ws ws' : List Cond} {rm : Room} {cc : ByteArray} {maxL : Nat} {own : String} {av : List Value} {r : Int32}
theorem m_oI {ty : FieldType} (hnest : ∀ w ∈ nw, ∃ a i x h, w = Cond.methodLinkNest a i x h) (hy : plainName y.cls = true) (hw : ws = Cond.code y cc maxL (some ty) :: ws') (hlen : (lg_sl av).length ≤ maxL) (ho : y.cls = own)
    (body : ∀ (p : Program) (e : Env) (s : State) (m : MethodId) (args : Array Value) (below : List Frame) (meth : Method) (c : Code) (Q : State → Prop), p.tables.exec = Jvm.exec → c.code = cc → c.maxLocals = maxL → s.vm.findClass own = some m.cls → (∀ w ∈ ws', w.before args s = true) → va_K D cl (m_ty c3) s → ((∀ w ∈ nw, ∃ a i x h, w = Cond.methodLinkNest a i x h) ∧ ∀ w ∈ nw, va_Nw w s) →
      (∀ (H : Heap) (locs : List Loc) (ls : Array Slot) (pc : Nat) (v : Int32) (M0 : mMem), some (v, M0) = some (r, M') → narrow ty (.int v) = .int v → mZ cl D ly N ad c3 s.heap H locs M0 → decode cc pc = .ok (.ireturn, 1) → W p l e rm s m args below meth c H locs 0 0 Q (F0 m pc ls [.int v])) →
      ∀ ls : Array Slot, mZ cl D ly N ad c3 s.heap s.heap [] M → lv_has ls maxL (lv_args 0 av) → W p l e rm s m args below meth c s.heap [] 0 0 Q (F0 m 0 ls [])) : mKI cl nw ly N l D ad c3 y ws rm av M r M' := by
  refine Met.ofW (cc := cc) (maxL := maxL) (ret := some ty) hy hw ?_
  intro p e s m args below meth c s₁ B hml hv
  obtain ⟨rfl, hP, hK, hD, hN⟩ := hv
  have hx := B.exec
  have hb := B.bytes
  have hr := B.returns
  have hts := atoms_spec (ws := ws) B.pre
  have hown : s.vm.findClass own = some m.cls := by rw [← ho]; exact findClass_of_methodNamed B.named
  have hlocks := B.notSynchronized
  have hl := lv_entry av (n := maxL) hlen
  rw [lg_entry_eq]
  have hts : ∀ w ∈ ws', w.before (av.toArray) s = true := fun w h => hts w (by rw [hw]; exact List.mem_cons_of_mem _ h)
  refine body p e s m _ below meth c _ hx hb hml hown hts hK ⟨hnest, hN⟩ ?_ _ ⟨hP, hD, va_S.rf⟩ hl
  intro H locs ls pc v M0 he hn hZ hdg
  cases he
  exact W.zret hx hb hr hn (fun t ht hW => ⟨⟨r, (), rfl, rfl, by show va_P _ _ _ t.heap; rw [ht]; exact hZ.1⟩, hZ.2.2.F ht⟩) hZ.2.2.2.2 hdg
theorem m_oP {ty : FieldType} (hnest : ∀ w ∈ nw, ∃ a i x h, w = Cond.methodLinkNest a i x h) (hy : plainName y.cls = true) (hw : ws = Cond.code y cc maxL (some ty) :: ws') (hlen : (lg_sl av).length ≤ maxL) (ho : y.cls = own)
    (body : ∀ (p : Program) (e : Env) (s : State) (m : MethodId) (args : Array Value) (below : List Frame) (meth : Method) (c : Code) (Q : State → Prop), p.tables.exec = Jvm.exec → c.code = cc → c.maxLocals = maxL → s.vm.findClass own = some m.cls → (∀ w ∈ ws', w.before args s = true) → va_K D cl (m_ty c3) s → ((∀ w ∈ nw, ∃ a i x h, w = Cond.methodLinkNest a i x h) ∧ ∀ w ∈ nw, va_Nw w s) →
      (∀ (H : Heap) (locs : List Loc) (ls : Array Slot) (pc : Nat) (v : Int32) (M0 : mMem), some v = some r → narrow ty (.int v) = .int v → mZ cl D ly N ad c3 s.heap H locs M → decode cc pc = .ok (.ireturn, 1) → W p l e rm s m args below meth c H locs 0 0 Q (F0 m pc ls [.int v])) →
      ∀ ls : Array Slot, mZ cl D ly N ad c3 s.heap s.heap [] M → lv_has ls maxL (lv_args 0 av) → W p l e rm s m args below meth c s.heap [] 0 0 Q (F0 m 0 ls [])) : mKI cl nw ly N l D ad c3 y ws rm av M r M := by
  refine m_oI (ty := ty) (cc := cc) (maxL := maxL) (own := own) hnest hy hw hlen ho ?_
  intro p e s m args below meth c Q hx hb hml hown hts hK hN hret ls hZ hl
  refine body p e s m args below meth c Q hx hb hml hown hts hK hN ?_ ls hZ hl
  intro H locs ls pc v M0 he hn hZ hdg
  cases he
  exact hret H locs ls pc r M rfl hn hZ hdg
theorem m_oV (hnest : ∀ w ∈ nw, ∃ a i x h, w = Cond.methodLinkNest a i x h) (hy : plainName y.cls = true) (hw : ws = Cond.code y cc maxL none :: ws') (hlen : (lg_sl av).length ≤ maxL) (ho : y.cls = own)
    (body : ∀ (p : Program) (e : Env) (s : State) (m : MethodId) (args : Array Value) (below : List Frame) (meth : Method) (c : Code) (Q : State → Prop), p.tables.exec = Jvm.exec → c.code = cc → c.maxLocals = maxL → s.vm.findClass own = some m.cls → (∀ w ∈ ws', w.before args s = true) → va_K D cl (m_ty c3) s → ((∀ w ∈ nw, ∃ a i x h, w = Cond.methodLinkNest a i x h) ∧ ∀ w ∈ nw, va_Nw w s) →
      (∀ (H : Heap) (locs : List Loc) (ls : Array Slot) (pc : Nat) (M0 : mMem), some M0 = some M' → mZ cl D ly N ad c3 s.heap H locs M0 → decode cc pc = .ok (.return_, 1) → W p l e rm s m args below meth c H locs 0 0 Q (F0 m pc ls [])) →
      ∀ ls : Array Slot, mZ cl D ly N ad c3 s.heap s.heap [] M → lv_has ls maxL (lv_args 0 av) → W p l e rm s m args below meth c s.heap [] 0 0 Q (F0 m 0 ls [])) : mKV cl nw ly N l D ad c3 y ws rm av M M' := by
  refine Met.ofW (cc := cc) (maxL := maxL) (ret := none) hy hw ?_
  intro p e s m args below meth c s₁ B hml hv
  obtain ⟨rfl, hP, hK, hD, hN⟩ := hv
  have hx := B.exec
  have hb := B.bytes
  have hr := B.returns
  have hts := atoms_spec (ws := ws) B.pre
  have hown : s.vm.findClass own = some m.cls := by rw [← ho]; exact findClass_of_methodNamed B.named
  have hlocks := B.notSynchronized
  have hl := lv_entry av (n := maxL) hlen
  rw [lg_entry_eq]
  have hts : ∀ w ∈ ws', w.before (av.toArray) s = true := fun w h => hts w (by rw [hw]; exact List.mem_cons_of_mem _ h)
  refine body p e s m _ below meth c _ hx hb hml hown hts hK ⟨hnest, hN⟩ ?_ _ ⟨hP, hD, va_S.rf⟩ hl
  intro H locs ls pc M0 he hZ hdg
  cases he
  exact W.vret hx hb hr (fun t ht hW => ⟨⟨(), rfl, trivial, by show va_P _ _ _ t.heap; rw [ht]; exact hZ.1⟩, hZ.2.2.F ht⟩) hZ.2.2.2.2 hdg
end MZO
theorem m_narZ {x : Int32} (h : vp_nar .boolean x = x) : narrow .boolean (.int x) = .int x := by
  have h : x &&& 1 = x := h
  show Value.int (x &&& 1) = Value.int x
  rw [h]
theorem m_sw0_2 {x : Int32} (h0 : ¬ x = 0) (h1 : ¬ x = 1) (h2 : ¬ x = 2) : x.toInt < 0 ∨ 2 < x.toInt := by
  rcases Int.lt_or_le x.toInt 0 with h | h
  · exact Or.inl h
  · rcases Int.lt_or_le 2 x.toInt with g | g
    · exact Or.inr g
    · exfalso
      have : x.toInt = 0 ∨ x.toInt = 1 ∨ x.toInt = 2 := by omega
      rcases this with q | q | q
      · exact h0 (Int32.toInt_inj.mp q)
      · exact h1 (Int32.toInt_inj.mp q)
      · exact h2 (Int32.toInt_inj.mp q)
theorem m_sw0_3 {x : Int32} (h0 : ¬ x = 0) (h1 : ¬ x = 1) (h2 : ¬ x = 2) (h3 : ¬ x = 3) : x.toInt < 0 ∨ 3 < x.toInt := by
  rcases Int.lt_or_le x.toInt 0 with h | h
  · exact Or.inl h
  · rcases Int.lt_or_le 3 x.toInt with g | g
    · exact Or.inr g
    · exfalso
      have : x.toInt = 0 ∨ x.toInt = 1 ∨ x.toInt = 2 ∨ x.toInt = 3 := by omega
      rcases this with q | q | q | q
      · exact h0 (Int32.toInt_inj.mp q)
      · exact h1 (Int32.toInt_inj.mp q)
      · exact h2 (Int32.toInt_inj.mp q)
      · exact h3 (Int32.toInt_inj.mp q)
theorem m_sw0_5 {x : Int32} (h0 : ¬ x = 0) (h1 : ¬ x = 1) (h2 : ¬ x = 2) (h3 : ¬ x = 3) (h4 : ¬ x = 4) (h5 : ¬ x = 5) : x.toInt < 0 ∨ 5 < x.toInt := by
  rcases Int.lt_or_le x.toInt 0 with h | h
  · exact Or.inl h
  · rcases Int.lt_or_le 5 x.toInt with g | g
    · exact Or.inr g
    · exfalso
      have : x.toInt = 0 ∨ x.toInt = 1 ∨ x.toInt = 2 ∨ x.toInt = 3 ∨ x.toInt = 4 ∨ x.toInt = 5 := by omega
      rcases this with q | q | q | q | q | q
      · exact h0 (Int32.toInt_inj.mp q)
      · exact h1 (Int32.toInt_inj.mp q)
      · exact h2 (Int32.toInt_inj.mp q)
      · exact h3 (Int32.toInt_inj.mp q)
      · exact h4 (Int32.toInt_inj.mp q)
      · exact h5 (Int32.toInt_inj.mp q)
theorem m_sw0_21 {x : Int32} (h0 : ¬ x = 0) (h1 : ¬ x = 1) (h2 : ¬ x = 2) (h3 : ¬ x = 3) (h4 : ¬ x = 4) (h5 : ¬ x = 5) (h6 : ¬ x = 6) (h7 : ¬ x = 7) (h8 : ¬ x = 8) (h9 : ¬ x = 9) (h10 : ¬ x = 10) (h11 : ¬ x = 11) (h12 : ¬ x = 12) (h13 : ¬ x = 13) (h14 : ¬ x = 14) (h15 : ¬ x = 15) (h16 : ¬ x = 16) (h17 : ¬ x = 17) (h18 : ¬ x = 18) (h19 : ¬ x = 19) (h20 : ¬ x = 20) (h21 : ¬ x = 21) : x.toInt < 0 ∨ 21 < x.toInt := by
  rcases Int.lt_or_le x.toInt 0 with h | h
  · exact Or.inl h
  · rcases Int.lt_or_le 21 x.toInt with g | g
    · exact Or.inr g
    · exfalso
      have : x.toInt = 0 ∨ x.toInt = 1 ∨ x.toInt = 2 ∨ x.toInt = 3 ∨ x.toInt = 4 ∨ x.toInt = 5 ∨ x.toInt = 6 ∨ x.toInt = 7 ∨ x.toInt = 8 ∨ x.toInt = 9 ∨ x.toInt = 10 ∨ x.toInt = 11 ∨ x.toInt = 12 ∨ x.toInt = 13 ∨ x.toInt = 14 ∨ x.toInt = 15 ∨ x.toInt = 16 ∨ x.toInt = 17 ∨ x.toInt = 18 ∨ x.toInt = 19 ∨ x.toInt = 20 ∨ x.toInt = 21 := by omega
      rcases this with q | q | q | q | q | q | q | q | q | q | q | q | q | q | q | q | q | q | q | q | q | q
      · exact h0 (Int32.toInt_inj.mp q)
      · exact h1 (Int32.toInt_inj.mp q)
      · exact h2 (Int32.toInt_inj.mp q)
      · exact h3 (Int32.toInt_inj.mp q)
      · exact h4 (Int32.toInt_inj.mp q)
      · exact h5 (Int32.toInt_inj.mp q)
      · exact h6 (Int32.toInt_inj.mp q)
      · exact h7 (Int32.toInt_inj.mp q)
      · exact h8 (Int32.toInt_inj.mp q)
      · exact h9 (Int32.toInt_inj.mp q)
      · exact h10 (Int32.toInt_inj.mp q)
      · exact h11 (Int32.toInt_inj.mp q)
      · exact h12 (Int32.toInt_inj.mp q)
      · exact h13 (Int32.toInt_inj.mp q)
      · exact h14 (Int32.toInt_inj.mp q)
      · exact h15 (Int32.toInt_inj.mp q)
      · exact h16 (Int32.toInt_inj.mp q)
      · exact h17 (Int32.toInt_inj.mp q)
      · exact h18 (Int32.toInt_inj.mp q)
      · exact h19 (Int32.toInt_inj.mp q)
      · exact h20 (Int32.toInt_inj.mp q)
      · exact h21 (Int32.toInt_inj.mp q)
end
section
/-! multianewarray of int[n][k]: the rows come one behind the other, right behind the array that holds them. -/
def mm_in (ci : ClassId) (K : Nat) : Cell := arrV ci K (fun _ => .int 0)
def mm_out (ca : ClassId) (N h i : Nat) : Cell := arrV ca N (fun j => if j < i then .ref (h + 1 + j) else .null)
def mm_st (s : State) (ca ci : ClassId) (N K : Nat) : Nat → State
  | 0 => s.pushCell (mm_out ca N s.heap.size 0)
  | i + 1 => ((mm_st s ca ci N K i).pushCell (mm_in ci K)).setCell s.heap.size (mm_out ca N s.heap.size (i + 1))
theorem mm_in_size (ci : ClassId) (K : Nat) : (mm_in ci K).slots.size = K := arrV_size _ _ _
theorem mm_out_size (ca : ClassId) (N h i : Nat) : (mm_out ca N h i).slots.size = N := arrV_size _ _ _
theorem mm_out_set (ca : ClassId) (N h i : Nat) : (mm_out ca N h i).setSlot i (.ref (h + 1 + i)) = mm_out ca N h (i + 1) := by
  unfold mm_out
  rw [arrV_store]
  congr 1
  funext j
  unfold updV
  by_cases e : j = i
  · subst e
    simp
  · rw [if_neg e]
    show (if j < i then Value.ref (h + 1 + j) else Value.null) = _
    by_cases hj : j < i
    · rw [if_pos hj, if_pos (by omega)]
    · rw [if_neg hj, if_neg (by omega)]
theorem mm_st_at (s : State) (ca ci : ClassId) (N K : Nat) : ∀ i, (mm_st s ca ci N K i).heap.size = s.heap.size + 1 + i ∧ (mm_st s ca ci N K i).heap[s.heap.size]? = some (mm_out ca N s.heap.size i) ∧ (mm_st s ca ci N K i).vm = s.vm ∧ (mm_st s ca ci N K i).slotsUsed = s.slotsUsed + N + i * K
  | 0 => ⟨by simp [mm_st], by simp [mm_st], rfl, by simp [mm_st, mm_out_size]⟩
  | i + 1 => by
    obtain ⟨a, b, d, u⟩ := mm_st_at s ca ci N K i
    have hlt : s.heap.size < (mm_st s ca ci N K i).heap.size := by omega
    have hb : ((mm_st s ca ci N K i).pushCell (mm_in ci K)).heap[s.heap.size]? = some (mm_out ca N s.heap.size i) := by
      rw [State.heap_pushCell_of_lt (h := hlt)]
      exact b
    refine ⟨?_, State.heap_setCell_self hb, by simp [mm_st, d], ?_⟩
    · simp [mm_st, State.setCell, a]
      omega
    · simp [mm_st, u, mm_in_size, Nat.succ_mul]
      omega
theorem mm_st_old (s : State) (ca ci : ClassId) (N K : Nat) {a : Addr} (ha : a < s.heap.size) : ∀ i, (mm_st s ca ci N K i).heap[a]? = s.heap[a]?
  | 0 => State.heap_pushCell_of_lt _ _ ha
  | i + 1 => by
    have f1 := (mm_st_at s ca ci N K i).1
    have hlt : a < (mm_st s ca ci N K i).heap.size := Nat.lt_of_lt_of_le ha (by rw [f1]; omega)
    show (((mm_st s ca ci N K i).pushCell (mm_in ci K)).setCell s.heap.size _).heap[a]? = _
    rw [State.heap_setCell_other (Nat.ne_of_gt ha), State.heap_pushCell_of_lt (h := hlt)]
    exact mm_st_old s ca ci N K ha i
theorem mm_st_row (s : State) (ca ci : ClassId) (N K : Nat) : ∀ i j, j < i → (mm_st s ca ci N K i).heap[s.heap.size + 1 + j]? = some (mm_in ci K)
  | 0, _, h => absurd h (Nat.not_lt_zero _)
  | i + 1, j, h => by
    have f1 := (mm_st_at s ca ci N K i).1
    show (((mm_st s ca ci N K i).pushCell (mm_in ci K)).setCell s.heap.size _).heap[s.heap.size + 1 + j]? = _
    rw [State.heap_setCell_other (show s.heap.size ≠ s.heap.size + 1 + j by omega)]
    rcases Nat.lt_or_ge j i with hj | hj
    · have hlt : s.heap.size + 1 + j < (mm_st s ca ci N K i).heap.size := by rw [f1]; omega
      rw [State.heap_pushCell_of_lt (h := hlt)]
      exact mm_st_row s ca ci N K i j hj
    · have e : j = i := by omega
      subst e
      rw [← f1]
      exact State.heap_pushCell_size _ _
theorem mm_st_top (s : State) (f : JFrame) (ca ci : ClassId) (N K : Nat) : ∀ i, mm_st (s.setTop f) ca ci N K i = (mm_st s ca ci N K i).setTop f
  | 0 => rfl
  | i + 1 => by simp only [mm_st, mm_st_top s f ca ci N K i, State.heap_setTop, State.pushCell_setTop, State.setCell_setTop]
section MMW
variable {E : CtlPost} {e : Env} {d : Bool} {acts : List Action} {s : State}
theorem mm_newArray {c comp : ClassId} {k : Class} {type : FieldType} {len : Nat} {init : Value} (hk : s.vm.classes[c]? = some k) (hkind : k.kind = .array comp type) (hlimit : ¬ len > e.platform.arrayLengthLimit) (hheap : ¬ len * componentBytes type > e.platform.maxHeapBytes) (hfit : fits type init = true) (hdef : init.isDefault = true) {Q : Addr → Pre} (h1 : s.heap.size < e.platform.maxCells) (h2 : s.slotsUsed + len ≤ e.platform.maxSlots)
    (hq : Q s.heap.size d acts (s.pushCell (arrV c len (fun _ => init)))) : wp (Jvm.newArray c len init) Q E e d acts s := by
  rw [← arrV_new] at hq
  have hfits : ∀ (i : Nat) (v : Value), (Array.replicate len init)[i]? = some v → s.fitsSlot c .none i v = true := by
    intro i v hv
    simp only [Array.getElem?_replicate] at hv
    split at hv
    · cases hv
      simp [State.fitsSlot, State.slotType?, hk, hkind, hfit]
    · cases hv
  have hda : allocActs (Array.replicate len init) s.heap.size acts = acts := by
    have hall : ((Array.replicate len init).all (·.isDefault)) = true := by
      rw [Array.all_replicate]
      split <;> simp [hdef]
    unfold allocActs
    rw [if_pos hall]
  simp only [Jvm.newArray, Jvm.arrayFits, wp_bind', W.ask, W.ite, hlimit, if_false, wp_pure', W.theClass, hk, hkind, hheap, W.alloc, W.stop, Option.some.injEq, exists_eq_left', Array.size_replicate, hda]
  rw [if_neg (by omega)]
  exact ⟨h1, h2, hfits, hq⟩
theorem mm_make1 {comp cc : ClassId} {kc : Class} {m : Int32} (hkc : s.vm.classes[comp]? = some kc) (hkindc : kc.kind = .array cc .int) (hm : ¬ m < 0) (hl2 : ¬ m.toNatClampNeg > e.platform.arrayLengthLimit) (hh2 : ¬ m.toNatClampNeg * componentBytes .int > e.platform.maxHeapBytes) (h1 : s.heap.size < e.platform.maxCells) (h2 : s.slotsUsed + m.toNatClampNeg ≤ e.platform.maxSlots)
    {Q : Addr → Pre} (hq : Q s.heap.size d acts (s.pushCell (mm_in comp m.toNatClampNeg))) : wp (multianewarray.make comp [m]) Q E e d acts s := by
  rw [multianewarray.make]
  simp only [wp_bind', W.ite, hm, if_false, wp_pure', W.theClass, hkc, hkindc, Option.some.injEq, exists_eq_left']
  exact mm_newArray hkc hkindc hl2 hh2 rfl rfl h1 h2 hq
theorem mm_make2 {c comp cc : ClassId} {k kc : Class} {n m : Int32} (hk : s.vm.classes[c]? = some k) (hkind : k.kind = .array comp (.array .int)) (hkc : s.vm.classes[comp]? = some kc) (hkindc : kc.kind = .array cc .int) (hn : ¬ n < 0) (hm : ¬ m < 0)
    (hl1 : ¬ n.toNatClampNeg > e.platform.arrayLengthLimit) (hh1 : ¬ n.toNatClampNeg * componentBytes (.array .int) > e.platform.maxHeapBytes) (hl2 : ¬ m.toNatClampNeg > e.platform.arrayLengthLimit) (hh2 : ¬ m.toNatClampNeg * componentBytes .int > e.platform.maxHeapBytes)
    (hc : s.heap.size + 1 + n.toNatClampNeg ≤ e.platform.maxCells) (hs : s.slotsUsed + n.toNatClampNeg + n.toNatClampNeg * m.toNatClampNeg ≤ e.platform.maxSlots)
    {Q : Addr → Pre} (hq : ∀ d' acts', Q s.heap.size d' acts' (mm_st s c comp n.toNatClampNeg m.toNatClampNeg n.toNatClampNeg)) : wp (multianewarray.make c [n, m]) Q E e d acts s := by
  have hfind : ([m].find? (· < 0)) = none := by simp [hm]
  rw [multianewarray.make]
  simp only [wp_bind', W.ite, hn, if_false, wp_pure', W.theClass, hk, hkind, Option.some.injEq, exists_eq_left']
  refine mm_newArray hk hkind hl1 hh1 rfl rfl (by omega) (by have := Nat.zero_le (n.toNatClampNeg * m.toNatClampNeg); omega) ?_
  simp only [hfind]
  rw [ite_self, wp_bind', Std.Legacy.Range.forIn_eq_forIn_range']
  have hsz : ([:n.toNatClampNeg] : Std.Legacy.Range).size = n.toNatClampNeg := by simp [Std.Legacy.Range.size]
  rw [hsz]
  show wp (forIn (List.range' 0 n.toNatClampNeg 1) PUnit.unit _) _ E e d acts _
  refine wp_forIn_inv (fun rest s' => ∃ i, i ≤ n.toNatClampNeg ∧ rest = List.range' i (n.toNatClampNeg - i) ∧ s' = mm_st s c comp n.toNatClampNeg m.toNatClampNeg i) _ _ ⟨0, Nat.zero_le _, rfl, ?_⟩ ?_ ?_
  · simp [mm_st, mm_out]
  · rintro x rest s' d' acts' Q' ⟨i, hi, hl, rfl⟩ hnext
    have hlt : i < n.toNatClampNeg := by
      rcases Nat.lt_or_ge i n.toNatClampNeg with h | h
      · exact h
      · rw [show n.toNatClampNeg - i = 0 from by omega] at hl
        simp at hl
    obtain ⟨rfl, hrest⟩ : x = i ∧ rest = List.range' (i + 1) (n.toNatClampNeg - (i + 1)) := by
      rw [show n.toNatClampNeg - i = (n.toNatClampNeg - (i + 1)) + 1 from by omega, List.range'_succ] at hl
      exact ⟨(List.cons.inj hl).1, (List.cons.inj hl).2⟩
    obtain ⟨f1, f2, f3, f4⟩ := mm_st_at s c comp n.toNatClampNeg m.toNatClampNeg x
    have hmul : x * m.toNatClampNeg + m.toNatClampNeg ≤ n.toNatClampNeg * m.toNatClampNeg := by
      have := Nat.mul_le_mul_right m.toNatClampNeg (show x + 1 ≤ n.toNatClampNeg from hlt)
      rw [Nat.succ_mul] at this
      exact this
    simp only [wp_bind']
    refine mm_make1 (by rw [f3]; exact hkc) hkindc hm hl2 hh2 (by rw [f1]; omega) (by rw [f4]; omega) ?_
    have hlt0 : s.heap.size < (mm_st s c comp n.toNatClampNeg m.toNatClampNeg x).heap.size := by rw [f1]; omega
    simp only [wp_bind', W.writeLoc, wp_pure']
    refine ⟨mm_out c n.toNatClampNeg s.heap.size x, by rw [State.heap_pushCell_of_lt (h := hlt0)]; exact f2, by simp [mm_out, arrV], by rw [mm_out_size]; exact hlt, ?_, hnext _ _ _ ⟨x + 1, hlt, hrest, ?_⟩⟩
    · simp [mm_out, arrV, State.fitsSlot, State.slotType?, f3, hk, hkind, fits]
    · rw [f1, mm_out_set]
      rfl
  · rintro s' d' acts' ⟨i, hi, hl, rfl⟩
    have hiN : i = n.toNatClampNeg := by
      rcases Nat.lt_or_ge i n.toNatClampNeg with h | h
      · rw [show n.toNatClampNeg - i = (n.toNatClampNeg - (i + 1)) + 1 from by omega, List.range'_succ] at hl
        cases hl
      · omega
    subst hiN
    simp only [wp_pure']
    exact hq _ _
end MMW
section MMS
variable {p : Program} {l : Launch} {e : Env} {R : Room} {s : State} {m : MethodId} {args : Array Value} {below : List Frame} {meth : Method} {c : Code} {locs : List Loc} {cells slots : Nat} {Q : State → Prop}
theorem mm_stand {T : State} (X : Stand p l e R s m args below meth c T locs cells slots) (ca ci : ClassId) (N K : Nat) : ∀ i, Stand p l e R s m args below meth c (mm_st T ca ci N K i) (locs ++ (List.range i).map fun j => ⟨T.heap.size, j⟩) (cells + 1 + i) (slots + N + i * K)
  | 0 => by
    have h := X.pushed (mm_out ca N T.heap.size 0)
    rw [mm_out_size] at h
    simpa [mm_st] using h
  | i + 1 => by
    have Xi := mm_stand X ca ci N K i
    obtain ⟨f1, f2, f3, f4⟩ := mm_st_at T ca ci N K i
    have hlt0 : T.heap.size < (mm_st T ca ci N K i).heap.size := by rw [f1]; omega
    have hcell : ((mm_st T ca ci N K i).pushCell (mm_in ci K)).heap[T.heap.size]? = some (mm_out ca N T.heap.size i) := by
      rw [State.heap_pushCell_of_lt (h := hlt0)]
      exact f2
    have h := (Xi.pushed (mm_in ci K)).stored hcell i (.ref (T.heap.size + 1 + i))
    rw [mm_in_size, mm_out_set] at h
    have e2 : (locs ++ (List.range (i + 1)).map fun j => (⟨T.heap.size, j⟩ : Loc)) = (locs ++ (List.range i).map fun j => (⟨T.heap.size, j⟩ : Loc)) ++ [⟨T.heap.size, i⟩] := by simp [List.range_succ, List.append_assoc]
    have e3 : slots + N + (i + 1) * K = slots + N + i * K + K := by rw [Nat.succ_mul]; omega
    rw [e2, e3]
    exact h
theorem mm_W {H : Heap} {cc : ByteArray} (hexec : p.tables.exec = Jvm.exec) (hb : c.code = cc) {own nm : String} {index : Nat} (hown : s.vm.findClass own = some m.cls) (hclink : (Cond.classLink own index nm).before args s = true) {cA ci cj : ClassId} {kA kC : Class} (hnameA : s.vm.findClass nm = some cA) (hkA : s.vm.classes[cA]? = some kA) (hkindA : kA.kind = .array ci (.array .int)) (hkC : s.vm.classes[ci]? = some kC) (hkindC : kC.kind = .array cj .int)
    {g : JFrame} (hg : g.method = m) (hdg : decode cc g.pc = .ok (.multianewarray index 2, 4)) {n k : Int32} {rest : List Value} (hstack : g.stack = .int k :: .int n :: rest) (hn : ¬ n < 0) (hk : ¬ k < 0) (hb1 : n.toNatClampNeg * 4 ≤ 536870912) (hb2 : k.toNatClampNeg * 4 ≤ 536870912)
    (hcells : cells + (1 + n.toNatClampNeg) ≤ R.cells) (hslots : slots + (n.toNatClampNeg + n.toNatClampNeg * k.toNatClampNeg) ≤ R.slots)
    (kk : ∀ (H1 : Heap), H1.size = H.size + 1 + n.toNatClampNeg → (∀ q, q < H.size → H1[q]? = H[q]?) → H1[H.size]? = some (mm_out cA n.toNatClampNeg H.size n.toNatClampNeg) → (∀ j, j < n.toNatClampNeg → H1[H.size + 1 + j]? = some (mm_in ci k.toNatClampNeg)) →
      W p l e R s m args below meth c H1 locs (cells + 1 + n.toNatClampNeg) (slots + n.toNatClampNeg + n.toNatClampNeg * k.toNatClampNeg) Q { g with pc := g.pc + 4, stack := .ref H.size :: rest }) : W p l e R s m args below meth c H locs cells slots Q g := by
  intro T hT X
  subst hT; subst hb; subst hg
  have hpl : e.platform.magicAccessors = ({} : Platform).magicAccessors := by rw [X.admits.platform]
  obtain ⟨c0, hfc0, hcl⟩ := Cond.classLink_spec hown hclink e.platform hpl
  cases hnameA.symm.trans hfc0
  obtain ⟨hg₁, hwarm₁, hready₁⟩ := State.classEntry (e := e) X.warmed hcl
  generalize T.vm.noted g.method.cls index (.cls cA) = vm₁ at hg₁ hwarm₁ hready₁
  have hal : s.vm.Alike vm₁ := hwarm₁.alike
  obtain ⟨kA₁, hkA₁, heA⟩ := hal.2.2 _ _ hkA
  obtain ⟨kC₁, hkC₁, heC⟩ := hal.2.2 _ _ hkC
  have hkindA₁ : kA₁.kind = .array ci (.array .int) := by rw [heA]; exact hkindA
  have hkindC₁ : kC₁.kind = .array cj .int := by rw [heC]; exact hkindC
  have X₁ := X.noted hwarm₁
  obtain ⟨hr1, hr2⟩ := X.roomAbove hcells hslots
  have XF := mm_stand X₁ cA ci n.toNatClampNeg k.toNatClampNeg n.toNatClampNeg
  have XG := XF.dropFresh (fun x hx => by
    obtain ⟨j, -, rfl⟩ := List.mem_map.mp hx
    exact X.heapGrown)
  obtain ⟨f1, f2, f3, f4⟩ := mm_st_at (T.setVm vm₁) cA ci n.toNatClampNeg k.toNatClampNeg n.toNatClampNeg
  obtain ⟨t', a1, b1⟩ := kk (mm_st (T.setVm vm₁) cA ci n.toNatClampNeg k.toNatClampNeg n.toNatClampNeg).heap f1 (fun q hq => mm_st_old (T.setVm vm₁) cA ci _ _ hq _) f2 (fun j hj => mm_st_row (T.setVm vm₁) cA ci _ _ _ j hj) _ rfl XG
  refine ⟨t', ?_, b1⟩
  have hl1 : ¬ n.toNatClampNeg > e.platform.arrayLengthLimit := by rw [Launch.admits_arrayLengthLimit X.admits]; omega
  have hh1 : ¬ n.toNatClampNeg * componentBytes (.array .int) > e.platform.maxHeapBytes := by
    rw [Launch.admits_maxHeapBytes X.admits]
    show ¬ n.toNatClampNeg * 4 > 536870912
    omega
  have hl2 : ¬ k.toNatClampNeg > e.platform.arrayLengthLimit := by rw [Launch.admits_arrayLengthLimit X.admits]; omega
  have hh2 : ¬ k.toNatClampNeg * componentBytes .int > e.platform.maxHeapBytes := by
    rw [Launch.admits_maxHeapBytes X.admits]
    show ¬ k.toNatClampNeg * 4 > 536870912
    omega
  jvm_step X.here [hexec, hdg]
  simp only [multianewarray.sem, wp_bind', W.resolveClassAt_links (State.method?_setTop g X.here.top) hg₁]
  rw [W.popN, if_neg (by decide)]
  refine ⟨g, State.topJava?_setTop' (s := T.setVm vm₁) g X.here.top, [.int n, .int k], rest, rfl, hstack, ?_⟩
  simp only [List.mapM_cons, List.mapM_nil, wp_bind', wp_pure']
  refine mm_make2 (k := kA₁) (kc := kC₁) (comp := ci) (cc := cj) hkA₁ hkindA₁ hkC₁ hkindC₁ hn hk hl1 hh1 hl2 hh2 (by show T.heap.size + 1 + _ ≤ _; omega) (by show T.slotsUsed + _ + _ ≤ _; omega) (fun d' acts' => ?_)
  have eS : ((T.setTop g).setVm vm₁).setTop { g with stack := rest } = (T.setVm vm₁).setTop { g with stack := rest } := by
    show ((T.setVm vm₁).setTop g).setTop _ = _
    rw [State.setTop_setTop]
  rw [eS, mm_st_top]
  simp only [wp_bind', W.mark, W.pushRef, State.topJava?_setTop' _ XF.here.top, Option.some.injEq, exists_eq_left', State.setTop_setTop, State.heap_setTop]
  intro acts
  simp [jvm, XF.here.top]
  exact a1
end MMS
end
section
/-! making a world: what constructors need -/
section MCT
variable {p : Program} {l : Launch} {e : Env} {R : Room} {s : State} {m : MethodId} {args : Array Value} {below : List Frame} {meth : Method} {c : Code} {H H0 : Heap} {locs : List Loc} {cells slots : Nat} {Q : State → Prop}
variable {cc : ByteArray} {pc : Nat} {ls : Array Slot} {rest : List Value} {D : va_G} {cl : List vw_C} {c3 : ClassId × ClassId × ClassId} {A : Nat → Prop} {ws : va_W}
/-- a stretch of a world -/
def m_wb (ly : Nat → mDesc) (b n : Nat) (ad : Nat → Nat) (c3 : ClassId × ClassId × ClassId) (M : mMem) : va_W := (List.range n).map (fun j => (ad (b + j), m_E ad c3 (b + j) (M (b + j)) (ly (b + j))))
def mm_ws (q : Nat) (c3 : ClassId × ClassId × ClassId) (N K : Nat) : va_W := (q, .inl (c3.2.2, N, .inr (.inr (.inr (.inr (m_rw N (fun i => q + 1 + i))))))) :: (List.range N).map (fun j => (q + 1 + j, .inl (c3.1, K, .inl (fun _ => 0))))
theorem m_one {a : Nat} {E : va_E} (h : A a) : va_D A [(a, E)] := by
  refine ⟨fun i j x y hi hj _ => ?_, fun k q hk => ?_⟩
  · have h1 : i < 1 := (List.getElem?_eq_some_iff.mp hi).1
    have h2 : j < 1 := (List.getElem?_eq_some_iff.mp hj).1
    omega
  · have h1 : k < 1 := (List.getElem?_eq_some_iff.mp hk).1
    rw [show k = 0 by omega] at hk
    cases hk
    exact h
theorem m_newI (hexec : p.tables.exec = Jvm.exec) (hb : c.code = cc) (harr : (Cond.arrayClass .int).before args s = true) (hK : va_K D cl (m_ty c3) s) (hP : va_P D cl ws H) (hD : va_D A ws) (hS : va_S A H0 H locs) (hA : ∀ q, H0.size ≤ q → A q)
    {n : Int32} {N' : Nat} (hn : ¬ n < 0) (hN : n.toNatClampNeg = N') (hbytes : N' * 4 ≤ 536870912) (hcells : cells + 1 ≤ R.cells) (hslots : slots + N' ≤ R.slots) (hdg : decode cc pc = .ok (.newarray .int, 2))
    (kk : ∀ (q : Nat) (H1 : Heap), va_P D cl (ws ++ [(q, .inl (c3.1, N', .inl (fun _ => 0)))]) H1 → va_D A (ws ++ [(q, .inl (c3.1, N', .inl (fun _ => 0)))]) → va_S A H0 H1 locs →
      W p l e R s m args below meth c H1 locs (cells + 1) (slots + N') Q (F0 m (pc + 2) ls (.ref q :: rest))) : W p l e R s m args below meth c H locs cells slots Q (F0 m pc ls (.int n :: rest)) := by
  refine va_newa (atype := .int) (ty := .int) (a0 := (N', .inl (fun _ => 0))) hexec hb harr rfl hK hP hD hS hA (fun _ => rfl) hn hN hbytes hcells hslots hdg (fun q cA H1 hK1 hP1 hD1 hS1 => ?_)
  have e1 := va_nm_int (hK1.2 3 _ rfl).2
  have e2 := va_nm_int (hK.2 0 _ rfl).2
  have e3 : cA = c3.1 := Option.some.inj (e1.symm.trans e2)
  subst e3
  exact kk q H1 hP1 hD1 hS1
theorem m_newZ (hexec : p.tables.exec = Jvm.exec) (hb : c.code = cc) (harr : (Cond.arrayClass .boolean).before args s = true) (hK : va_K D cl (m_ty c3) s) (hP : va_P D cl ws H) (hD : va_D A ws) (hS : va_S A H0 H locs) (hA : ∀ q, H0.size ≤ q → A q)
    {n : Int32} {N' : Nat} (hn : ¬ n < 0) (hN : n.toNatClampNeg = N') (hbytes : N' * componentBytes .boolean ≤ 536870912) (hcells : cells + 1 ≤ R.cells) (hslots : slots + N' ≤ R.slots) (hdg : decode cc pc = .ok (.newarray .boolean, 2))
    (kk : ∀ (q : Nat) (H1 : Heap), va_P D cl (ws ++ [(q, .inl (c3.2.1, N', .inl (fun _ => 0)))]) H1 → va_D A (ws ++ [(q, .inl (c3.2.1, N', .inl (fun _ => 0)))]) → va_S A H0 H1 locs →
      W p l e R s m args below meth c H1 locs (cells + 1) (slots + N') Q (F0 m (pc + 2) ls (.ref q :: rest))) : W p l e R s m args below meth c H locs cells slots Q (F0 m pc ls (.int n :: rest)) := by
  refine va_newa (atype := .boolean) (ty := .boolean) (a0 := (N', .inl (fun _ => 0))) hexec hb harr rfl hK hP hD hS hA (fun _ => rfl) hn hN hbytes hcells hslots hdg (fun q cA H1 hK1 hP1 hD1 hS1 => ?_)
  have e1 := va_nm_boolean (hK1.2 3 _ rfl).2
  have e2 := va_nm_boolean (hK.2 1 _ rfl).2
  have e3 : cA = c3.2.1 := Option.some.inj (e1.symm.trans e2)
  subst e3
  exact kk q H1 hP1 hD1 hS1
/-- worlds beside each other, of which the second lies behind all that was there -/
theorem m_beside {w1 w2 : va_W} {H1 : Heap} (hP : va_P D cl w1 H) (hD : va_D A w1) (ho : ∀ q, q < H.size → H1[q]? = H[q]?) (hP2 : va_P D cl w2 H1) (hD2 : va_D A w2) (hn : ∀ (k : Nat) (q : Nat × va_E), w2[k]? = some q → H.size ≤ q.1) : va_P D cl (w1 ++ w2) H1 ∧ va_D A (w1 ++ w2) := by
  refine ⟨(hP.kept (fun k q hq => ho q.1 ((hP k q hq).lt))).app hP2, hD.app hD2 (fun i j x y hi hj he => ?_)⟩
  have h1 := (hP i x hi).lt
  have h2 := hn j y hj
  omega
theorem mm_ws_cases {q N K : Nat} {k : Nat} {x : Nat × va_E} (h : (mm_ws q c3 N K)[k]? = some x) : (k = 0 ∧ x = (q, .inl (c3.2.2, N, .inr (.inr (.inr (.inr (m_rw N (fun i => q + 1 + i)))))))) ∨ ∃ j, j < N ∧ k = j + 1 ∧ x = (q + 1 + j, .inl (c3.1, K, .inl (fun _ => 0))) := by
  cases k with
  | zero =>
    cases h
    exact Or.inl ⟨rfl, rfl⟩
  | succ j =>
    unfold mm_ws at h
    rw [List.getElem?_cons_succ, List.getElem?_map] at h
    cases hj : (List.range N)[j]? with
    | none => rw [hj] at h; cases h
    | some i =>
      rw [hj] at h
      obtain ⟨h1, h2⟩ := List.getElem?_eq_some_iff.mp hj
      rw [List.length_range] at h1
      rw [List.getElem_range] at h2
      subst h2
      cases h
      exact Or.inr ⟨j, h1, rfl, rfl⟩
/-- the class of int[][] holds rows of the class of int[] -/
def mOv (c3 : ClassId × ClassId × ClassId) (U : State) : Prop := ∃ k : Class, U.vm.classes[c3.2.2]? = some k ∧ k.kind = .array c3.1 (.array .int)
theorem mOv_moved {u U : State} (hvm : u.vm.Alike U.vm) (h : mOv c3 u) : mOv c3 U := by
  obtain ⟨k, h1, h2⟩ := h
  obtain ⟨k', h3, h4⟩ := hvm.2.2 _ _ h1
  exact ⟨k', h3, by rw [h4]; exact h2⟩
theorem m_newG (hexec : p.tables.exec = Jvm.exec) (hb : c.code = cc) {own : String} {index : Nat} (hown : s.vm.findClass own = some m.cls) (hclink : (Cond.classLink own index "[[I").before args s = true) (hO : mOv c3 s) (hK : va_K D cl (m_ty c3) s) (hP : va_P D cl ws H) (hD : va_D A ws) (hS : va_S A H0 H locs) (hA : ∀ q, H0.size ≤ q → A q)
    {n k : Int32} {N' K' : Nat} (hn : ¬ n < 0) (hN : n.toNatClampNeg = N') (hk : ¬ k < 0) (hk' : k.toNatClampNeg = K') (hb1 : N' * 4 ≤ 536870912) (hb2 : K' * 4 ≤ 536870912) (hcells : cells + (1 + N') ≤ R.cells) (hslots : slots + (N' + N' * K') ≤ R.slots) (hdg : decode cc pc = .ok (.multianewarray index 2, 4))
    (kk : ∀ (q : Nat) (H1 : Heap), va_P D cl (ws ++ mm_ws q c3 N' K') H1 → va_D A (ws ++ mm_ws q c3 N' K') → va_S A H0 H1 locs →
      W p l e R s m args below meth c H1 locs (cells + 1 + N') (slots + N' + N' * K') Q (F0 m (pc + 4) ls (.ref q :: rest))) : W p l e R s m args below meth c H locs cells slots Q (F0 m pc ls (.int k :: .int n :: rest)) := by
  subst hN
  subst hk'
  have en : "[" ++ (FieldType.array .int).toString = "[[I" := by decide +kernel
  obtain ⟨kA, hkA, hkindA⟩ := hO
  obtain ⟨-, kC, hkC, cj, hkindC⟩ := (hK.2 0 _ rfl).1 0 (fun _ => .null)
  have hnm : s.vm.findClass "[[I" = some c3.2.2 := by
    have h := (hK.2 2 _ rfl).2
    rw [← en]
    exact h
  refine mm_W (index := index) hexec hb hown hclink hnm hkA hkindA hkC hkindC rfl hdg rfl hn hk hb1 hb2 hcells hslots (fun H1 z1 o1 g1 r1 => ?_)
  have hP2 : va_P D cl (mm_ws H.size c3 n.toNatClampNeg k.toNatClampNeg) H1 := by
    intro i x hx
    rcases mm_ws_cases hx with ⟨-, rfl⟩ | ⟨j, hj, -, rfl⟩
    · show H1[H.size]? = some (vp_cell _ _)
      rw [g1, vp_cell_q]
      congr 1
      unfold mm_out arrV
      congr 2
      funext j
      show (if j.val < n.toNatClampNeg then Value.ref (H.size + 1 + j.val) else Value.null) = va_rf (m_rw n.toNatClampNeg (fun i => H.size + 1 + i) j.val)
      rw [if_pos j.isLt, m_rw_at j.isLt]
      rfl
    · show H1[H.size + 1 + j]? = some (vp_cell _ _)
      rw [r1 j hj]
      rfl
  have hn2 : ∀ (i : Nat) (x : Nat × va_E), (mm_ws H.size c3 n.toNatClampNeg k.toNatClampNeg)[i]? = some x → H.size ≤ x.1 := by
    intro i x hx
    rcases mm_ws_cases hx with ⟨-, rfl⟩ | ⟨j, hj, -, rfl⟩
    · exact Nat.le_refl _
    · show H.size ≤ H.size + 1 + j
      omega
  have hD2 : va_D A (mm_ws H.size c3 n.toNatClampNeg k.toNatClampNeg) := by
    refine ⟨fun i j x y hi hj he => ?_, fun i x hx => hA _ (Nat.le_trans hS.1 (hn2 i x hx))⟩
    rcases mm_ws_cases hi with ⟨rfl, rfl⟩ | ⟨j1, h1, rfl, rfl⟩ <;> rcases mm_ws_cases hj with ⟨rfl, rfl⟩ | ⟨j2, h2, rfl, rfl⟩
    · rfl
    · have he : H.size = H.size + 1 + j2 := he
      omega
    · have he : H.size + 1 + j1 = H.size := he
      omega
    · have he : H.size + 1 + j1 = H.size + 1 + j2 := he
      omega
  obtain ⟨hP3, hD3⟩ := m_beside hP hD o1 hP2 hD2 hn2
  exact kk H.size H1 hP3 hD3 ⟨Nat.le_trans hS.1 (by omega), fun x h1 h2 => (o1 x (Nat.lt_of_lt_of_le h1 hS.1)).trans (hS.2.1 x h1 h2), hS.2.2⟩
/-- what a constructor that got the last cell leaves, beside the rest -/
theorem m_join {wr w1 : va_W} {q : Nat} {E : va_E} {H1 : Heap} (hP : va_P D cl (wr ++ [(q, E)]) H) (hD : va_D A (wr ++ [(q, E)])) (hA : ∀ q, H.size ≤ q → A q) (hk : ∀ x : Nat, x < H.size → ¬ va_A [(q, E)] H.size x → H1[x]? = H[x]?) (hP1 : va_P D cl w1 H1) (hD1 : va_D (va_A [(q, E)] H.size) w1) : va_P D cl (wr ++ w1) H1 ∧ va_D A (wr ++ w1) := by
  have hlen : (wr ++ [(q, E)])[wr.length]? = some (q, E) := by simp
  have hl : ∀ (k : Nat) (x : Nat × va_E), wr[k]? = some x → (wr ++ [(q, E)])[k]? = some x ∧ k < wr.length := fun k x hx => by
    have h := (List.getElem?_eq_some_iff.mp hx).1
    exact ⟨by rw [List.getElem?_append_left h]; exact hx, h⟩
  have hin : ∀ x, va_A [(q, E)] H.size x → x = q ∨ H.size ≤ x := by
    rintro x (⟨k, e, h⟩ | h)
    · have h1 : k < 1 := (List.getElem?_eq_some_iff.mp h).1
      rw [show k = 0 by omega] at h
      cases h
      exact Or.inl rfl
    · exact Or.inr h
  have hne : ∀ (k : Nat) (x : Nat × va_E), wr[k]? = some x → x.1 ≠ q := fun k x hx he => by
    have h := hD.1 k wr.length x (q, E) (hl k x hx).1 hlen he
    have := (hl k x hx).2
    omega
  have hlt : ∀ (k : Nat) (x : Nat × va_E), wr[k]? = some x → x.1 < H.size := fun k x hx => (hP k x (hl k x hx).1).lt
  have hPr : va_P D cl wr H1 := fun k x hx => (hP k x (hl k x hx).1).kept (hk x.1 (hlt k x hx) (fun h => (hin _ h).elim (hne k x hx) (fun h2 => absurd h2 (Nat.not_le.mpr (hlt k x hx)))))
  have hDr : va_D A wr := ⟨fun i j x y hi hj he => hD.1 i j x y (hl i x hi).1 (hl j y hj).1 he, fun k x hx => hD.2 k x (hl k x hx).1⟩
  refine ⟨hPr.app hP1, hDr.app ⟨hD1.1, fun k x hx => (hin _ (hD1.2 k x hx)).elim (fun h => by rw [h]; exact hD.2 _ _ hlen) (hA _)⟩ (fun i j x y hi hj he => ?_)⟩
  rcases hin _ (hD1.2 j y hj) with h | h
  · exact hne i x hi (he.trans h)
  · have := hlt i x hi
    omega
def mI (cl : List vw_C) (nw : List Cond) (D : va_G) (c3 : ClassId × ClassId × ClassId) (h0 sz : Nat) (E : va_E) (U : State) : Prop :=
  U.heap.size = sz ∧ va_P D cl [(h0, E)] U.heap ∧ (va_K D cl (m_ty c3) U ∧ mOv c3 U) ∧ ∀ w ∈ nw, va_Nw w U
def mN (cl : List vw_C) (nw : List Cond) (ly : Nat → mDesc) (l : Launch) (D : va_G) (c3 : ClassId × ClassId × ClassId) (y : MethodName) (w : List Cond) (rm : Room) (av : List Value) (h0 sz : Nat) (E : va_E) (b n : Nat) (M : mMem) (f : (Nat → Nat) → (Nat → Nat)) : Prop :=
  Met l y w rm (va_Pc (.ref h0 :: av) (mI cl nw D c3 h0 sz E)) (va_Qv (fun _ : Nat → Nat => True) (fun ad t => va_P D cl (m_wb ly b n (f ad) c3 M) t.heap ∧ va_D (va_A [(h0, E)] sz) (m_wb ly b n (f ad) c3 M)) (va_A [(h0, E)] sz)) rm.cells rm.slots (va_A [(h0, E)] sz)
theorem m_preI {nw : List Cond} {h0 : Nat} {E : va_E} {As : List Value} {wr : va_W} (hK : va_K D cl (m_ty c3) s) (hO : mOv c3 s) (hN : (∀ w ∈ nw, ∃ a i x h, w = Cond.methodLinkNest a i x h) ∧ ∀ w ∈ nw, va_Nw w s) (hP : va_P D cl (wr ++ [(h0, E)]) H) : PreS s H (va_Pc (.ref h0 :: As) (mI cl nw D c3 h0 H.size E)) (.ref h0 :: As) := by
  have hP1 : va_P D cl [(h0, E)] H := hP.by (fun k => wr.length + k) (fun k q hk => by
    have h1 : k < 1 := (List.getElem?_eq_some_iff.mp hk).1
    rw [show k = 0 by omega] at hk ⊢
    rw [List.getElem?_append_right (by omega)]
    simpa using hk)
  refine ⟨?_, fun U hU hW => ⟨rfl, by rw [hU], by rw [hU]; exact hP1, ⟨va_K.moved hW.alike hK, mOv_moved hW.alike hO⟩, m_nw hW hN.1 hN.2⟩⟩
  intro a U g mk q
  obtain ⟨q0, q1, qP, qK, qN⟩ := q
  exact ⟨q0, q1, qP, ⟨va_K.moved (u := U) (U := U.calling g mk a) (Vm.Alike.refl U.vm) qK.1, mOv_moved (u := U) (U := U.calling g mk a) (Vm.Alike.refl U.vm) qK.2⟩, m_nwc hN.1 qN⟩
/-- a constructor's call: the new cell is the world's last one -/
theorem m_cn {nw : List Cond} {ly : Nat → mDesc} {h0 b n mc ms : Nat} {E : va_E} {M : mMem} {f : (Nat → Nat) → (Nat → Nat)} {wr : va_W} {a : Array Value} {st0 : List Value} (hr : va_Run p l e R s m args below meth c H locs cells slots mc ms (F0 m pc ls st0) rest (va_Qv (fun _ : Nat → Nat => True) (fun ad t => va_P D cl (m_wb ly b n (f ad) c3 M) t.heap ∧ va_D (va_A [(h0, E)] H.size) (m_wb ly b n (f ad) c3 M)) (va_A [(h0, E)] H.size) a) (va_A [(h0, E)] H.size)) (hP : va_P D cl (wr ++ [(h0, E)]) H) (hD : va_D A (wr ++ [(h0, E)])) (hS : va_S A H0 H locs) (hA : ∀ q, H0.size ≤ q → A q)
    (kk : ∀ (ad : Nat → Nat) (H1 : Heap) (locs1 : List Loc), va_P D cl (wr ++ m_wb ly b n (f ad) c3 M) H1 → va_D A (wr ++ m_wb ly b n (f ad) c3 M) → va_S A H0 H1 locs1 → W p l e R s m args below meth c H1 locs1 (cells + mc) (slots + ms) Q (F0 m (pc + 3) ls rest)) : W p l e R s m args below meth c H locs cells slots Q (F0 m pc ls st0) := by
  have hA1 : ∀ q, H.size ≤ q → A q := fun q h => hA q (Nat.le_trans hS.1 h)
  have hF : ∀ q, va_A [(h0, E)] H.size q → A q := by
    rintro x (⟨k, e, h⟩ | h)
    · have h1 : k < 1 := (List.getElem?_eq_some_iff.mp h).1
      rw [show k = 0 by omega] at h
      cases h
      exact hD.2 wr.length (h0, E) (by simp)
    · exact hA1 x h
  refine va_callv hr hS (fun q _ h => hF q h) hF (fun ad t H1 locs1 ht hvm hp hB hz hk hS1 => ?_)
  rw [ht] at hB
  obtain ⟨hP3, hD3⟩ := m_join hP hD hA1 hk hB.1 hB.2
  exact kk ad H1 locs1 hP3 hD3 hS1
end MCT
end
section
def lyX : Nat → mDesc := fun k => match k with
  | 0 => (3, 0, [some 1, some 24, some 43, some 62, some 66, some 68, some 71, none, none])
  | 1 => (3, 1, [none, none, none, none, some 2, some 3, some 4, some 5, some 6, some 7, some 8, some 9, some 14, some 19])
  | 2 => (0, 6, [])
  | 3 => (0, 6, [])
  | 4 => (0, 4, [])
  | 5 => (0, 4, [])
  | 6 => (0, 4, [])
  | 7 => (1, 4, [])
  | 8 => (0, 4, [])
  | 9 => (2, 4, [])
  | 10 => (0, 6, [])
  | 11 => (0, 6, [])
  | 12 => (0, 6, [])
  | 13 => (0, 6, [])
  | 14 => (2, 4, [])
  | 15 => (0, 6, [])
  | 16 => (0, 6, [])
  | 17 => (0, 6, [])
  | 18 => (0, 6, [])
  | 19 => (2, 4, [])
  | 20 => (0, 6, [])
  | 21 => (0, 6, [])
  | 22 => (0, 6, [])
  | 23 => (0, 6, [])
  | 24 => (3, 2, [some 1, some 25, some 26, some 27, some 28, some 33, some 38, some 39, some 41, none, none])
  | 25 => (0, 6, [])
  | 26 => (0, 6, [])
  | 27 => (0, 4, [])
  | 28 => (2, 4, [])
  | 29 => (0, 6, [])
  | 30 => (0, 6, [])
  | 31 => (0, 6, [])
  | 32 => (0, 6, [])
  | 33 => (2, 4, [])
  | 34 => (0, 6, [])
  | 35 => (0, 6, [])
  | 36 => (0, 6, [])
  | 37 => (0, 6, [])
  | 38 => (1, 6, [])
  | 39 => (3, 4, [none, some 40, none, none])
  | 40 => (0, 4, [])
  | 41 => (3, 4, [none, some 42, none, none])
  | 42 => (0, 4, [])
  | 43 => (3, 2, [some 1, some 44, some 45, some 46, some 47, some 52, some 57, some 58, some 60, none, none])
  | 44 => (0, 6, [])
  | 45 => (0, 6, [])
  | 46 => (0, 4, [])
  | 47 => (2, 4, [])
  | 48 => (0, 6, [])
  | 49 => (0, 6, [])
  | 50 => (0, 6, [])
  | 51 => (0, 6, [])
  | 52 => (2, 4, [])
  | 53 => (0, 6, [])
  | 54 => (0, 6, [])
  | 55 => (0, 6, [])
  | 56 => (0, 6, [])
  | 57 => (1, 6, [])
  | 58 => (3, 4, [none, some 59, none, none])
  | 59 => (0, 4, [])
  | 60 => (3, 4, [none, some 61, none, none])
  | 61 => (0, 4, [])
  | 62 => (3, 3, [some 63, some 64, some 65, none, none])
  | 63 => (0, 6, [])
  | 64 => (0, 6, [])
  | 65 => (0, 60, [])
  | 66 => (3, 4, [none, some 67, none, none])
  | 67 => (0, 4, [])
  | 68 => (3, 5, [none, some 69, some 70])
  | 69 => (0, 4, [])
  | 70 => (0, 4, [])
  | 71 => (3, 6, [none, some 72, some 73, none, some 80, some 81, some 82])
  | 72 => (0, 6, [])
  | 73 => (2, 6, [])
  | 74 => (0, 100, [])
  | 75 => (0, 100, [])
  | 76 => (0, 100, [])
  | 77 => (0, 100, [])
  | 78 => (0, 100, [])
  | 79 => (0, 100, [])
  | 80 => (0, 100, [])
  | 81 => (0, 100, [])
  | 82 => (0, 100, [])
  | _ => (0, 0, [])
theorem grX_9 : ∀ j, j < 4 → lyX (9 + 1 + j) = (0, 6, []) ∧ 9 + 1 + j < 83 := by decide
theorem grX_14 : ∀ j, j < 4 → lyX (14 + 1 + j) = (0, 6, []) ∧ 14 + 1 + j < 83 := by decide
theorem grX_19 : ∀ j, j < 4 → lyX (19 + 1 + j) = (0, 6, []) ∧ 19 + 1 + j < 83 := by decide
theorem grX_28 : ∀ j, j < 4 → lyX (28 + 1 + j) = (0, 6, []) ∧ 28 + 1 + j < 83 := by decide
theorem grX_33 : ∀ j, j < 4 → lyX (33 + 1 + j) = (0, 6, []) ∧ 33 + 1 + j < 83 := by decide
theorem grX_47 : ∀ j, j < 4 → lyX (47 + 1 + j) = (0, 6, []) ∧ 47 + 1 + j < 83 := by decide
theorem grX_52 : ∀ j, j < 4 → lyX (52 + 1 + j) = (0, 6, []) ∧ 52 + 1 + j < 83 := by decide
theorem grX_73 : ∀ j, j < 6 → lyX (73 + 1 + j) = (0, 100, []) ∧ 73 + 1 + j < 83 := by decide
abbrev isX_row (n k : Nat) : Prop := lyX k = (0, n, []) ∧ k < 83
abbrev isX_grid (n m k : Nat) : Prop := lyX k = (2, n, []) ∧ k < 83 ∧ ∀ j, j < n → lyX (k + 1 + j) = (0, m, []) ∧ k + 1 + j < 83
def relX_S (b : Nat) : Nat → mDesc := fun j => match j with
  | 0 => (3, 2, [some 1, some (b + 1), some (b + 2), some (b + 3), some (b + 4), some (b + 9), some (b + 14), some (b + 15), some (b + 17), none, none])
  | 1 => (0, 6, [])
  | 2 => (0, 6, [])
  | 3 => (0, 4, [])
  | 4 => (2, 4, [])
  | 5 => (0, 6, [])
  | 6 => (0, 6, [])
  | 7 => (0, 6, [])
  | 8 => (0, 6, [])
  | 9 => (2, 4, [])
  | 10 => (0, 6, [])
  | 11 => (0, 6, [])
  | 12 => (0, 6, [])
  | 13 => (0, 6, [])
  | 14 => (1, 6, [])
  | 15 => (3, 4, [none, some (b + 16), none, none])
  | 16 => (0, 4, [])
  | 17 => (3, 4, [none, some (b + 18), none, none])
  | _ => (0, 4, [])
def isX_S (b : Nat) : Prop := ∀ j, j < 19 → lyX (b + j) = relX_S b j ∧ b + j < 83
theorem isX_S_24 : isX_S 24 := by unfold isX_S; decide
theorem isX_S_43 : isX_S 43 := by unfold isX_S; decide
theorem grX_S_4 {b : Nat} (h : isX_S b) : ∀ j, j < 4 → lyX ((b + 4) + 1 + j) = (0, 6, []) ∧ (b + 4) + 1 + j < 83 := fun j hj => match j, hj with
  | 0, _ => h 5 (by decide)
  | 1, _ => h 6 (by decide)
  | 2, _ => h 7 (by decide)
  | 3, _ => h 8 (by decide)
  | j + 4, hj => absurd hj (by omega)
theorem grX_S_9 {b : Nat} (h : isX_S b) : ∀ j, j < 4 → lyX ((b + 9) + 1 + j) = (0, 6, []) ∧ (b + 9) + 1 + j < 83 := fun j hj => match j, hj with
  | 0, _ => h 10 (by decide)
  | 1, _ => h 11 (by decide)
  | 2, _ => h 12 (by decide)
  | 3, _ => h 13 (by decide)
  | j + 4, hj => absurd hj (by omega)
def relX_X (b : Nat) : Nat → mDesc := fun j => match j with
  | 0 => (3, 4, [none, some (b + 1), none, none])
  | _ => (0, 4, [])
def isX_X (b : Nat) : Prop := ∀ j, j < 2 → lyX (b + j) = relX_X b j ∧ b + j < 83
theorem isX_X_39 : isX_X 39 := by unfold isX_X; decide
theorem isX_X_41 : isX_X 41 := by unfold isX_X; decide
theorem isX_X_58 : isX_X 58 := by unfold isX_X; decide
theorem isX_X_60 : isX_X 60 := by unfold isX_X; decide
theorem isX_X_66 : isX_X 66 := by unfold isX_X; decide
theorem isX_X_b_15 {b : Nat} (h : isX_S b) : isX_X (b + 15) := fun j hj => match j, hj with
  | 0, _ => h 15 (by decide)
  | 1, _ => h 16 (by decide)
  | j + 2, hj => absurd hj (by omega)
theorem isX_X_b_17 {b : Nat} (h : isX_S b) : isX_X (b + 17) := fun j hj => match j, hj with
  | 0, _ => h 17 (by decide)
  | 1, _ => h 18 (by decide)
  | j + 2, hj => absurd hj (by omega)
def lyM : Nat → mDesc := fun k => match k with
  | 0 => (3, 7, [none, some 1, some 2, none, some 3, some 4, some 5, some 6, some 7, some 8, some 9, none, none, none, some 10, none, some 11, some 12, none, some 13, some 14, some 15, none, none, none, none, none, some 16, none, some 17, some 18, none, none, some 19, some 20, some 21, some 22])
  | 1 => (0, 6, [])
  | 2 => (0, 6, [])
  | 3 => (0, 4, [])
  | 4 => (0, 4, [])
  | 5 => (0, 4, [])
  | 6 => (1, 4, [])
  | 7 => (0, 4, [])
  | 8 => (0, 24, [])
  | 9 => (0, 24, [])
  | 10 => (0, 60, [])
  | 11 => (0, 6, [])
  | 12 => (0, 6, [])
  | 13 => (0, 4, [])
  | 14 => (0, 4, [])
  | 15 => (0, 4, [])
  | 16 => (1, 6, [])
  | 17 => (0, 4, [])
  | 18 => (0, 4, [])
  | 19 => (0, 100, [])
  | 20 => (0, 100, [])
  | 21 => (0, 100, [])
  | 22 => (0, 100, [])
  | _ => (0, 0, [])
abbrev isM_row (n k : Nat) : Prop := lyM k = (0, n, []) ∧ k < 23
abbrev isM_grid (n m k : Nat) : Prop := lyM k = (2, n, []) ∧ k < 23 ∧ ∀ j, j < n → lyM (k + 1 + j) = (0, m, []) ∧ k + 1 + j < 23
abbrev zX (D : va_G) (ad : Nat → Nat) (c3 : ClassId × ClassId × ClassId) (s : State) (H : Heap) (locs : List Loc) (M : mMem) : Prop := mZ vCl D lyX 83 ad c3 s.heap H locs M
abbrev kIX (l : Launch) (D : va_G) (ad : Nat → Nat) (c3 : ClassId × ClassId × ClassId) (y : MethodName) (w : List Cond) (rm : Room) (av : List Value) (M : mMem) (r : Int32) (M' : mMem) : Prop := mKI vCl nwX lyX 83 l D ad c3 y w rm av M r M'
abbrev kPX (l : Launch) (D : va_G) (ad : Nat → Nat) (c3 : ClassId × ClassId × ClassId) (y : MethodName) (w : List Cond) (rm : Room) (av : List Value) (M : mMem) (r : Int32) : Prop := mKI vCl nwX lyX 83 l D ad c3 y w rm av M r M
abbrev kVX (l : Launch) (D : va_G) (ad : Nat → Nat) (c3 : ClassId × ClassId × ClassId) (y : MethodName) (w : List Cond) (rm : Room) (av : List Value) (M : mMem) (M' : mMem) : Prop := mKV vCl nwX lyX 83 l D ad c3 y w rm av M M'
abbrev zM (D : va_G) (ad : Nat → Nat) (c3 : ClassId × ClassId × ClassId) (s : State) (H : Heap) (locs : List Loc) (M : mMem) : Prop := mZ vCl D lyM 23 ad c3 s.heap H locs M
abbrev kIM (l : Launch) (D : va_G) (ad : Nat → Nat) (c3 : ClassId × ClassId × ClassId) (y : MethodName) (w : List Cond) (rm : Room) (av : List Value) (M : mMem) (r : Int32) (M' : mMem) : Prop := mKI vCl nwM lyM 23 l D ad c3 y w rm av M r M'
abbrev kPM (l : Launch) (D : va_G) (ad : Nat → Nat) (c3 : ClassId × ClassId × ClassId) (y : MethodName) (w : List Cond) (rm : Room) (av : List Value) (M : mMem) (r : Int32) : Prop := mKI vCl nwM lyM 23 l D ad c3 y w rm av M r M
abbrev kVM (l : Launch) (D : va_G) (ad : Nat → Nat) (c3 : ClassId × ClassId × ClassId) (y : MethodName) (w : List Cond) (rm : Room) (av : List Value) (M : mMem) (M' : mMem) : Prop := mKV vCl nwM lyM 23 l D ad c3 y w rm av M M'
end
section
def fG_mayBeBand (M : mMem) (x0 : Int32) (x1 : Int32) : Option (Int32) :=
  if x0 < 0 then
    some 0
  else
    if x1 < x0 then
      some 0
    else
      if 1000 < x1 then
        some 0
      else
        some 1
def fP_setBand (M : mMem) (x1 : Int32) (x2 : Int32) (x3 : Int32) : Option (mMem) :=
  m_g (inb x1 6) <|
  m_l (mu M 2 (x1.toNatClampNeg) x2) fun M_1 =>
  m_l (mu M_1 3 (x1.toNatClampNeg) x3) fun M_2 =>
  some M_2
def fL_clear_L12  : Nat → mMem → Int32 → Option (mMem)
  | 0, _, _ => none
  | n + 1, M, x1 =>
    if 6 ≤ x1 then
      some M
    else
      m_g (inb x1 6) <|
      m_l (mu M 72 (x1.toNatClampNeg) 0) fun M_5 =>
      m_l (x1 + 1) fun x1_6 =>
      (fL_clear_L12 n) M_5 x1_6
def fL_clear (M : mMem)  : Option (mMem) :=
  m_l (mu M 71 0 0) fun M_1 =>
  m_l (mu M_1 71 3 0) fun M_2 =>
  fL_clear_L12 128 M_2 0
def fG_forget (M : mMem)  : Option (mMem) :=
  m_l (mu M 66 0 0) fun M_1 =>
  m_l (mu M_1 68 0 0) fun M_2 =>
  m_b1 (fL_clear M_2) fun M_3 =>
  m_l (mu M_3 0 7 0) fun M_4 =>
  some M_4
def fG_sieve (M : mMem) (x1 : Int32) (x2 : Int32) : Option (Int32 × mMem) :=
  m_b1 (fG_mayBeBand M x1 x2) fun r_1 =>
  if r_1 = 0 then
    some ((-1), M)
  else
    if (M 1 0) < 6 then
      m_l (M 1 0) fun x3_4 =>
      m_l (mu M 1 0 ((M 1 0) + 1)) fun M_5 =>
      m_b1 (fP_setBand M_5 x3_4 x1 x2) fun M_6 =>
      m_b1 (fG_forget M_6) fun M_7 =>
      some (x3_4, M_7)
    else
      some ((-1), M)
def fP_hasSieve (M : mMem) (x1 : Int32) : Option (Int32) :=
  if x1 < 0 then
    some 0
  else
    if (M 1 0) ≤ x1 then
      some 0
    else
      some 1
def fG_band (M : mMem) (x1 : Int32) (x2 : Int32) (x3 : Int32) : Option (Int32 × mMem) :=
  m_b1 (fP_hasSieve M x1) fun r_1 =>
  if r_1 = 0 then
    some (0, M)
  else
    m_b1 (fG_mayBeBand M x2 x3) fun r_3 =>
    if r_3 = 0 then
      some (0, M)
    else
      m_b1 (fP_setBand M x1 x2 x3) fun M_5 =>
      m_b1 (fG_forget M_5) fun M_6 =>
      some (1, M_6)
def fG_within (M : mMem) (x0 : Int32) (x1 : Int32) (x2 : Int32) : Option (Int32) :=
  if x0 < x1 then
    some 0
  else
    if x2 < x0 then
      some 0
    else
      some 1
def fP_setStock (M : mMem) (x1 : Int32) (x2 : Int32) (x3 : Int32) (x4 : Int32) (x5 : Int32) : Option (mMem) :=
  m_g (inb x1 4) <|
  m_l (mu M 4 (x1.toNatClampNeg) x2) fun M_1 =>
  m_l (mu M_1 5 (x1.toNatClampNeg) x3) fun M_2 =>
  m_l (mu M_2 6 (x1.toNatClampNeg) x4) fun M_3 =>
  m_l (mu M_3 7 (x1.toNatClampNeg) (vp_nar .boolean x5)) fun M_4 =>
  some M_4
def fG_stock_B21 (x1 : Int32) (x2 : Int32) (x3 : Int32) (x4 : Int32) (M : mMem) (s0 : Int32) : Option (Int32 × mMem) :=
  m_b1 (fG_within M x1 0 100000) fun r_2 =>
  if r_2 = 0 then
    some ((-1), M)
  else
    if s0 = 0 then
      some ((-1), M)
    else
      if (M 1 1) < 4 then
        m_l (M 1 1) fun x6_6 =>
        m_l (mu M 1 1 ((M 1 1) + 1)) fun M_7 =>
        m_b1 (fP_setStock M_7 x6_6 x1 x2 x3 x4) fun M_8 =>
        m_b1 (fG_forget M_8) fun M_9 =>
        some (x6_6, M_9)
      else
        some ((-1), M)
def fG_stock_B20 (x1 : Int32) (x2 : Int32) (x3 : Int32) (x4 : Int32) (M : mMem) : Option (Int32 × mMem) :=
  fG_stock_B21 x1 x2 x3 x4 M 0
def fG_stock (M : mMem) (x1 : Int32) (x2 : Int32) (x3 : Int32) (x4 : Int32) : Option (Int32 × mMem) :=
  if x2 < 0 then
    fG_stock_B20 x1 x2 x3 x4 M
  else
    if x3 < x2 then
      fG_stock_B20 x1 x2 x3 x4 M
    else
      if 100 < x3 then
        fG_stock_B20 x1 x2 x3 x4 M
      else
        fG_stock_B21 x1 x2 x3 x4 M 1
def fP_hasStock (M : mMem) (x1 : Int32) : Option (Int32) :=
  if x1 < 0 then
    some 0
  else
    if (M 1 1) ≤ x1 then
      some 0
    else
      some 1
def fP_setPassing (M : mMem) (x1 : Int32) (x2 : Int32) (x3 : Int32) (x4 : Int32) : Option (mMem) :=
  m_g (inb x1 4) <|
  m_g (inb x2 6) <|
  m_l (mu M (9 + 1 + x1.toNatClampNeg) (x2.toNatClampNeg) x3) fun M_1 =>
  m_l (mu M_1 (14 + 1 + x1.toNatClampNeg) (x2.toNatClampNeg) (if 0 < (x3 - x4) then (x3 - x4) else 0)) fun M_2 =>
  m_l (mu M_2 (19 + 1 + x1.toNatClampNeg) (x2.toNatClampNeg) (if (x3 + x4) < 1000 then (x3 + x4) else 1000)) fun M_3 =>
  some M_3
def fG_passes (M : mMem) (x1 : Int32) (x2 : Int32) (x3 : Int32) (x4 : Int32) : Option (Int32 × mMem) :=
  m_b1 (fP_hasStock M x1) fun r_1 =>
  if r_1 = 0 then
    some (0, M)
  else
    m_b1 (fP_hasSieve M x2) fun r_3 =>
    if r_3 = 0 then
      some (0, M)
    else
      m_b1 (fG_within M x3 0 1000) fun r_5 =>
      if r_5 = 0 then
        some (0, M)
      else
        m_b1 (fG_within M x4 0 300) fun r_7 =>
        if r_7 = 0 then
          some (0, M)
        else
          m_b1 (fP_setPassing M x1 x2 x3 x4) fun M_9 =>
          m_b1 (fG_forget M_9) fun M_10 =>
          some (1, M_10)
def fG_cap (M : mMem) (x1 : Int32) : Option (Int32 × mMem) :=
  m_b1 (fG_within M x1 0 100) fun r_1 =>
  if r_1 = 0 then
    some ((-1), M)
  else
    m_l (M 1 2) fun x2_3 =>
    m_l (mu M 1 2 x1) fun M_4 =>
    m_b1 (fG_forget M_4) fun M_5 =>
    some (x2_3, M_5)
def fG_step (M : mMem) (x1 : Int32) : Option (Int32 × mMem) :=
  if x1 < 1 then
    some ((-1), M)
  else
    m_g (¬ x1 = 0) <|
    if (100 - 100 / x1 * x1) = 0 then
      m_l (M 1 3) fun x2_4 =>
      m_l (mu M 1 3 x1) fun M_5 =>
      m_b1 (fG_forget M_5) fun M_6 =>
      some (x2_4, M_6)
    else
      some ((-1), M)
def fT_collect (M : mMem) (x1 : Int32) : Option (Int32 × mMem) :=
  m_b1 (fG_within M x1 32 126) fun r_1 =>
  if r_1 = 0 then
    some (0, M)
  else
    if (M 62 3) < 60 then
      m_g (inb (M 62 3) 60) <|
      m_l (mu M 65 ((M 62 3).toNatClampNeg) x1) fun M_5 =>
      m_l (mu M_5 62 3 ((M_5 62 3) + 1)) fun M_6 =>
      some (1, M_6)
    else
      some (0, M)
def fG_unit (M : mMem) (x1 : Int32) : Option (Int32 × mMem) :=
  m_b2 (fT_collect M x1) fun r_1 M_2 =>
  m_g (vp_nar .boolean r_1 = r_1) <|
  some (r_1, M_2)
def fT_parseNumber_L4  : Nat → mMem → Int32 → Int32 → Option (Int32 × mMem)
  | 0, _, _, _ => none
  | n + 1, M, x1, x2 =>
    if 4 ≤ x2 then
      some (x1, M)
    else
      if (M 62 3) ≤ (M 62 4) then
        some (x1, M)
      else
        m_g (inb (M 62 4) 60) <|
        m_b1 (fG_within M (M 65 (M 62 4).toNatClampNeg) 48 57) fun r_4 =>
        if r_4 = 0 then
          some (x1, M)
        else
          m_l ((((if 0 < x1 then x1 else 0) * 10) + (M 65 (M 62 4).toNatClampNeg)) - 48) fun x1_6 =>
          m_l (mu M 62 4 ((M 62 4) + 1)) fun M_7 =>
          m_l (x2 + 1) fun x2_8 =>
          (fT_parseNumber_L4 n) M_7 x1_6 x2_8
def fT_parseNumber (M : mMem)  : Option (Int32 × mMem) :=
  fT_parseNumber_L4 128 M (-1) 0
def fT_skip (M : mMem) (x1 : Int32) : Option (Int32 × mMem) :=
  if (M 62 3) ≤ (M 62 4) then
    some (0, M)
  else
    m_g (inb (M 62 4) 60) <|
    if (M 65 (M 62 4).toNatClampNeg) = x1 then
      m_l (mu M 62 4 ((M 62 4) + 1)) fun M_4 =>
      some (1, M_4)
    else
      some (0, M)
def fT_parseBand (M : mMem) (x1 : Int32) (x2 : Int32) : Option (Int32 × mMem) :=
  m_l (M 62 4) fun x3_1 =>
  if x2 ≤ x1 then
    some (x3_1, M)
  else
    if x1 < 6 then
      m_b2 (fT_parseNumber M) fun r_4 M_5 =>
      if r_4 < 0 then
        some (M_5 62 4, M_5)
      else
        m_b2 (fT_skip M_5 45) fun r_7 M_8 =>
        if r_7 = 0 then
          some (M_8 62 4, M_8)
        else
          m_b2 (fT_parseNumber M_8) fun r_10 M_11 =>
          if 0 ≤ r_10 then
            m_b1 (fG_mayBeBand M_11 r_4 r_10) fun r_13 =>
            if r_13 = 0 then
              some (x3_1, M_11)
            else
              m_g (inb x1 6) <|
              m_l (mu M_11 63 (x1.toNatClampNeg) r_4) fun M_15 =>
              m_l (mu M_15 64 (x1.toNatClampNeg) r_10) fun M_16 =>
              some ((-1), M_16)
          else
            some (M_11 62 4, M_11)
    else
      some (x3_1, M)
def fT_parse_B61 (M : mMem) : Option (Int32 × mMem) :=
  some ((-1) - (M 62 4), M)
def fT_parse_L7 (x1 : Int32) : Nat → mMem → Int32 → Option (Int32 × mMem)
  | 0, _, _ => none
  | n + 1, M, x2 =>
    if 6 < x2 then
      fT_parse_B61 M
    else
      m_b2 (fT_parseBand M x2 x1) fun r_3 M_4 =>
      if r_3 < 0 then
        if (M_4 62 4) < (M_4 62 3) then
          m_b2 (fT_skip M_4 44) fun r_7 M_8 =>
          if r_7 = 0 then
            fT_parse_B61 M_8
          else
            m_l (x2 + 1) fun x2_10 =>
            (fT_parse_L7 x1 n) M_8 x2_10
        else
          some (x2 + 1, M_4)
      else
        some ((-1) - r_3, M_4)
def fT_parse (M : mMem) (x1 : Int32) : Option (Int32 × mMem) :=
  m_l (mu M 62 4 0) fun M_1 =>
  fT_parse_L7 x1 128 M_1 0
def fT_clear (M : mMem)  : Option (mMem) :=
  m_l (mu M 62 3 0) fun M_1 =>
  some M_1
def fG_read_B73 (M : mMem) (x1 : Int32) : Option (Int32 × mMem) :=
  m_b1 (fG_forget M) fun M_6 =>
  some (x1, M_6)
def fG_read_L30 (x1 : Int32) : Nat → mMem → Int32 → Option (Int32 × mMem)
  | 0, _, _ => none
  | n + 1, M, x2 =>
    if x1 ≤ x2 then
      fG_read_B73 M x1
    else
      if 6 ≤ x2 then
        fG_read_B73 M x1
      else
        m_g (inb x2 6) <|
        m_b1 (fP_setBand M x2 (M 63 x2.toNatClampNeg) (M 64 x2.toNatClampNeg)) fun M_9 =>
        m_l (x2 + 1) fun x2_10 =>
        (fG_read_L30 x1 n) M_9 x2_10
def fG_read (M : mMem)  : Option (Int32 × mMem) :=
  m_b2 (fT_parse M (M 1 0)) fun r_1 M_2 =>
  m_b1 (fT_clear M_2) fun M_3 =>
  if 0 ≤ r_1 then
    fG_read_L30 r_1 128 M_3 0
  else
    some (r_1, M_3)
def fS_useBands_L2 (b : Nat) : Nat → mMem → Int32 → Option (mMem)
  | 0, _, _ => none
  | n + 1, M, x1 =>
    if (M 1 0) ≤ x1 then
      some M
    else
      m_g (inb x1 6) <|
      m_l (mu M (b + 1) (x1.toNatClampNeg) (100 * (M 2 x1.toNatClampNeg))) fun M_3 =>
      m_l (mu M_3 (b + 2) (x1.toNatClampNeg) (100 * (M_3 3 x1.toNatClampNeg))) fun M_4 =>
      m_l (x1 + 1) fun x1_5 =>
      (fS_useBands_L2 b n) M_4 x1_5
def fS_useBands (M : mMem) (b : Nat) : Option (mMem) :=
  fS_useBands_L2 b 128 M 0
def fS_missOfAll_L43 (b : Nat) (x1 : Int32) (x2 : Int32) : Nat → mMem → Int32 → Int32 → Option (Int32 × mMem)
  | 0, _, _, _ => none
  | n + 1, M, x7, x8 =>
    if (M 1 0) ≤ x8 then
      some (x7, M)
    else
      m_g (inb x8 6) <|
      m_l (((M (b + 1) x8.toNatClampNeg) - (M ((b + 4) + 1 + x1.toNatClampNeg) x8.toNatClampNeg)) - (x2 * (M (14 + 1 + x1.toNatClampNeg) x8.toNatClampNeg))) fun x9_3 =>
      m_l (((M ((b + 9) + 1 + x1.toNatClampNeg) x8.toNatClampNeg) + (x2 * (M (19 + 1 + x1.toNatClampNeg) x8.toNatClampNeg))) - (M (b + 2) x8.toNatClampNeg)) fun x10_4 =>
      m_l ((if 0 < x9_3 then x9_3 else 0) + (if 0 < x10_4 then x10_4 else 0)) fun x11_5 =>
      if x11_5 = 0 then
        m_l (mu M (b + 14) (x8.toNatClampNeg) 1) fun M_7 =>
        m_l (x7 + x11_5) fun x7_8 =>
        m_l (x8 + 1) fun x8_9 =>
        (fS_missOfAll_L43 b x1 x2 n) M_7 x7_8 x8_9
      else
        m_l (x7 + x11_5) fun x7_10 =>
        m_l (x8 + 1) fun x8_11 =>
        (fS_missOfAll_L43 b x1 x2 n) M x7_10 x8_11
def fS_missOfAll (M : mMem) (b : Nat) (x1 : Int32) (x2 : Int32) : Option (Int32 × mMem) :=
  m_g (inb x1 4) <|
  fS_missOfAll_L43 b x1 x2 128 M 0 0
def fX_set_B26 (k : Nat) (x2 : Int32) (x3 : Int32) (M : mMem) : Option (mMem) :=
  m_l (mu M k 2 x2) fun M_2 =>
  m_l (mu M_2 k 3 x3) fun M_3 =>
  m_l (mu M_3 k 0 1) fun M_4 =>
  some M_4
def fX_set_L3 (k : Nat) (k1 : Nat) (x2 : Int32) (x3 : Int32) : Nat → mMem → Int32 → Option (mMem)
  | 0, _, _ => none
  | n + 1, M, x4 =>
    if 4 ≤ x4 then
      fX_set_B26 k x2 x3 M
    else
      m_g (inb x4 4) <|
      m_l (mu M (k + 1) (x4.toNatClampNeg) (M k1 x4.toNatClampNeg)) fun M_6 =>
      m_l (x4 + 1) fun x4_7 =>
      (fX_set_L3 k k1 x2 x3 n) M_6 x4_7
def fX_set (M : mMem) (k : Nat) (k1 : Nat) (x2 : Int32) (x3 : Int32) : Option (mMem) :=
  fX_set_L3 k k1 x2 x3 128 M 0
def fS_lookAt_B58 (b : Nat) (x1 : Int32) (x2 : Int32) (M : mMem) : Option (mMem) :=
  if (M (b + 17) 0) = 0 then
    m_b1 (fX_set M (b + 17) (b + 3) x1 x2) fun M_7 =>
    some M_7
  else
    if x2 < (M (b + 17) 3) then
      m_b1 (fX_set M (b + 17) (b + 3) x1 x2) fun M_9 =>
      some M_9
    else
      if x2 = (M (b + 17) 3) then
        if (M (b + 17) 2) ≤ x1 then
          some M
        else
          m_b1 (fX_set M (b + 17) (b + 3) x1 x2) fun M_12 =>
          some M_12
      else
        some M
def fS_lookAt_B45 (b : Nat) (x1 : Int32) (x2 : Int32) (M : mMem) : Option (mMem) :=
  m_b1 (fX_set M (b + 15) (b + 3) x1 x2) fun M_5 =>
  fS_lookAt_B58 b x1 x2 M_5
def fS_lookAt (M : mMem) (b : Nat) (x1 : Int32) (x2 : Int32) : Option (mMem) :=
  m_l (mu M b 9 ((M b 9) + 1)) fun M_1 =>
  if x2 = 0 then
    m_l (mu M_1 b 10 ((M_1 b 10) + 1)) fun M_3 =>
    if (M_3 (b + 15) 0) = 0 then
      fS_lookAt_B45 b x1 x2 M_3
    else
      if (M_3 (b + 15) 2) ≤ x1 then
        fS_lookAt_B58 b x1 x2 M_3
      else
        fS_lookAt_B45 b x1 x2 M_3
  else
    fS_lookAt_B58 b x1 x2 M_1
def fS_putShare_L9 (b : Nat) (x1 : Int32) (x2 : Int32) : Nat → mMem → Int32 → Option (mMem)
  | 0, _, _ => none
  | n + 1, M, x3 =>
    if (M 1 0) ≤ x3 then
      some M
    else
      m_g (inb (x1 + 1) 4) <|
      m_g (inb x1 4) <|
      m_g (inb x3 6) <|
      m_l (mu M ((b + 4) + 1 + (x1 + 1).toNatClampNeg) (x3.toNatClampNeg) ((M ((b + 4) + 1 + x1.toNatClampNeg) x3.toNatClampNeg) + (x2 * (M (14 + 1 + x1.toNatClampNeg) x3.toNatClampNeg)))) fun M_5 =>
      m_l (mu M_5 ((b + 9) + 1 + (x1 + 1).toNatClampNeg) (x3.toNatClampNeg) ((M_5 ((b + 9) + 1 + x1.toNatClampNeg) x3.toNatClampNeg) + (x2 * (M_5 (19 + 1 + x1.toNatClampNeg) x3.toNatClampNeg)))) fun M_6 =>
      m_l (x3 + 1) fun x3_7 =>
      (fS_putShare_L9 b x1 x2 n) M_6 x3_7
def fS_putShare (M : mMem) (b : Nat) (x1 : Int32) (x2 : Int32) : Option (mMem) :=
  m_g (inb x1 4) <|
  m_l (mu M (b + 3) (x1.toNatClampNeg) x2) fun M_1 =>
  fS_putShare_L9 b x1 x2 128 M_1 0
def fS_fillFrom_B191 (K121 : mMem → Int32 → Option (mMem)) (F : mMem → Nat → Int32 → Int32 → Int32 → Int32 → Option (mMem)) (b : Nat) (x1 : Int32) (x2 : Int32) (x4 : Int32) (M : mMem) (x7 : Int32) (x8 : Int32) (s0 : Int32) : Option (mMem) :=
  m_g (inb x1 4) <|
  m_b1 (F M b (x1 + 1) (x2 - x8) s0 (x4 + (x8 * (M 4 x1.toNatClampNeg)))) fun M_19 =>
  m_l (x7 + 1) fun x7_20 =>
  K121 M_19 x7_20
def fS_fillFrom_L121 (F : mMem → Nat → Int32 → Int32 → Int32 → Int32 → Option (mMem)) (b : Nat) (x1 : Int32) (x2 : Int32) (x3 : Int32) (x4 : Int32) (x6 : Int32) : Nat → mMem → Int32 → Option (mMem)
  | 0, _, _ => none
  | n + 1, M, x7 =>
    if 100 < x7 then
      some M
    else
      m_l (x7 * (M 1 3)) fun x8_13 =>
      if x8_13 ≤ x6 then
        m_g (inb x1 4) <|
        if x8_13 < (M 5 x1.toNatClampNeg) then
          m_l (x7 + 1) fun x7_16 =>
          (fS_fillFrom_L121 F b x1 x2 x3 x4 x6 n) M x7_16
        else
          m_b1 (fS_putShare M b x1 x8_13) fun M_17 =>
          if (M_17 7 x1.toNatClampNeg) = 0 then
            fS_fillFrom_B191 (fS_fillFrom_L121 F b x1 x2 x3 x4 x6 n) F b x1 x2 x4 M_17 x7 x8_13 x3
          else
            fS_fillFrom_B191 (fS_fillFrom_L121 F b x1 x2 x3 x4 x6 n) F b x1 x2 x4 M_17 x7 x8_13 (x3 - x8_13)
      else
        some M
def fS_fillFrom_B37 (F : mMem → Nat → Int32 → Int32 → Int32 → Int32 → Option (mMem)) (b : Nat) (x1 : Int32) (x2 : Int32) (x3 : Int32) (x4 : Int32) (M : mMem) (s0 : Int32) : Option (mMem) :=
  m_g (inb x1 4) <|
  m_l ((if (M 6 x1.toNatClampNeg) < s0 then (M 6 x1.toNatClampNeg) else s0)) fun x6_4 =>
  if x1 = ((M 1 1) - 1) then
    m_b1 (fG_within M x2 (M 5 x1.toNatClampNeg) x6_4) fun r_6 =>
    if r_6 = 0 then
      some M
    else
      m_l (mu M (b + 3) (x1.toNatClampNeg) x2) fun M_8 =>
      m_b2 (fS_missOfAll M_8 b x1 x2) fun r_9 M_10 =>
      m_b1 (fS_lookAt M_10 b (x4 + (x2 * (M_8 4 x1.toNatClampNeg))) r_9) fun M_11 =>
      some M_11
  else
    fS_fillFrom_L121 F b x1 x2 x3 x4 x6_4 128 M 0
def fS_fillFrom : Nat → mMem → Nat → Int32 → Int32 → Int32 → Int32 → Option (mMem)
  | 0, _, _, _, _, _, _ => none
  | n + 1, M, b, x1, x2, x3, x4 =>
    if x1 < 0 then
      some M
    else
      if x1 < (M 1 1) then
        m_g (inb x1 4) <|
        if (M 7 x1.toNatClampNeg) = 0 then
          fS_fillFrom_B37 (fS_fillFrom n) b x1 x2 x3 x4 M x2
        else
          fS_fillFrom_B37 (fS_fillFrom n) b x1 x2 x3 x4 M (if x3 < x2 then x3 else x2)
      else
        some M
def fS_lookAtAll_B47 (b : Nat) (M : mMem) : Option (mMem) :=
  m_b1 (fS_fillFrom 6 M b 0 100 (M 1 2) 0) fun M_6 =>
  some M_6
def fS_lookAtAll_L28 (b : Nat) : Nat → mMem → Int32 → Option (mMem)
  | 0, _, _ => none
  | n + 1, M, x1 =>
    if 6 ≤ x1 then
      fS_lookAtAll_B47 b M
    else
      m_g (inb x1 6) <|
      m_l (mu M (b + 14) (x1.toNatClampNeg) 0) fun M_8 =>
      m_l (x1 + 1) fun x1_9 =>
      (fS_lookAtAll_L28 b n) M_8 x1_9
def fS_lookAtAll (M : mMem) (b : Nat) : Option (mMem) :=
  m_l (mu M b 9 0) fun M_1 =>
  m_l (mu M_1 b 10 0) fun M_2 =>
  m_l (mu M_2 (b + 15) 0 0) fun M_3 =>
  m_l (mu M_3 (b + 17) 0 0) fun M_4 =>
  fS_lookAtAll_L28 b 128 M_4 0
def fG_searchOnce (M : mMem)  : Option (mMem) :=
  if (M 0 7) = 0 then
    m_b1 (fS_useBands M 24) fun M_2 =>
    m_b1 (fS_lookAtAll M_2 24) fun M_3 =>
    m_l (mu M_3 0 7 1) fun M_4 =>
    some M_4
  else
    some M
def fG_takeInHand (M : mMem) (k1 : Nat) : Option (Int32 × mMem) :=
  if (M k1 0) = 0 then
    some (0, M)
  else
    m_b1 (fX_set M 66 (k1 + 1) (M k1 2) (M k1 3)) fun M_2 =>
    m_l (mu M_2 68 0 0) fun M_3 =>
    some (1, M_3)
def fG_run (M : mMem)  : Option (Int32 × mMem) :=
  m_b1 (fG_searchOnce M) fun M_1 =>
  m_b2 (fG_takeInHand M_1 39) fun r_2 M_3 =>
  if r_2 = 0 then
    some ((-1), M_3)
  else
    some (M_3 66 2, M_3)
def fG_near (M : mMem)  : Option (Int32 × mMem) :=
  m_b1 (fG_searchOnce M) fun M_1 =>
  m_b2 (fG_takeInHand M_1 41) fun r_2 M_3 =>
  if r_2 = 0 then
    some ((-1), M_3)
  else
    some (M_3 66 3, M_3)
def fG_share (M : mMem) (x1 : Int32) : Option (Int32) :=
  if (M 66 0) = 0 then
    some (-1)
  else
    m_b1 (fP_hasStock M x1) fun r_2 =>
    if r_2 = 0 then
      some (-1)
    else
      m_g (inb x1 4) <|
      some (M 67 x1.toNatClampNeg)
def fP_sumAt_L6 (x1 : Int32) (k2 : Nat) (k3 : Nat) (M : mMem) : Nat → Int32 → Int32 → Option (Int32)
  | 0, _, _ => none
  | n + 1, x4, x5 =>
    if (M 1 1) ≤ x5 then
      some x4
    else
      m_g (inb x5 4) <|
      m_g (inb x1 6) <|
      m_l (x4 + ((M (k3 + 1) x5.toNatClampNeg) * (M (k2 + 1 + x5.toNatClampNeg) x1.toNatClampNeg))) fun x4_3 =>
      m_l (x5 + 1) fun x5_4 =>
      (fP_sumAt_L6 x1 k2 k3 M n) x4_3 x5_4
def fP_sumAt (M : mMem) (x1 : Int32) (k2 : Nat) (k3 : Nat) : Option (Int32) :=
  fP_sumAt_L6 x1 k2 k3 M 128 0 0
def fP_missAt (M : mMem) (x1 : Int32) (k2 : Nat) : Option (Int32) :=
  m_g (inb x1 6) <|
  m_b1 (fP_sumAt M x1 14 k2) fun r_1 =>
  m_l ((100 * (M 2 x1.toNatClampNeg)) - r_1) fun x3_2 =>
  m_b1 (fP_sumAt M x1 19 k2) fun r_3 =>
  m_l (r_3 - (100 * (M 3 x1.toNatClampNeg))) fun x4_4 =>
  some ((if 0 < x3_2 then x3_2 else 0) + (if 0 < x4_4 then x4_4 else 0))
def fG_told (M : mMem) (x1 : Int32) (x2 : Int32) : Option (Int32) :=
  if (M 66 0) = 0 then
    some (-1)
  else
    m_b1 (fP_hasSieve M x1) fun r_2 =>
    if r_2 = 0 then
      some (-1)
    else
      if x2 = 0 then
        m_b1 (fP_sumAt M x1 9 66) fun r_5 =>
        some r_5
      else
      if x2 = 1 then
        m_b1 (fP_sumAt M x1 14 66) fun r_7 =>
        some r_7
      else
      if x2 = 2 then
        m_b1 (fP_sumAt M x1 19 66) fun r_9 =>
        some r_9
      else
      if x2 = 3 then
        m_b1 (fP_missAt M x1 66) fun r_11 =>
        some r_11
      else
      some (-1)
def fG_cost (M : mMem)  : Option (Int32) :=
  if (M 66 0) = 0 then
    some (-1)
  else
    some (M 66 2)
def fG_lonely_L20 (x1 : Int32) (M : mMem) : Nat → Int32 → Int32 → Option (Int32 × mMem)
  | 0, _, _ => none
  | n + 1, x2, x3 =>
    if (M 1 0) ≤ x3 then
      some ((-1), M)
    else
      m_g (inb x3 6) <|
      if (M 38 x3.toNatClampNeg) = 0 then
        if x2 = x1 then
          some (x3, M)
        else
          m_l (x2 + 1) fun x2_7 =>
          m_l (x3 + 1) fun x3_8 =>
          (fG_lonely_L20 x1 M n) x2_7 x3_8
      else
        m_l (x3 + 1) fun x3_9 =>
        (fG_lonely_L20 x1 M n) x2 x3_9
def fG_lonely (M : mMem) (x1 : Int32) : Option (Int32 × mMem) :=
  m_b1 (fG_searchOnce M) fun M_1 =>
  if (M_1 24 9) = 0 then
    some ((-1), M_1)
  else
    fG_lonely_L20 x1 M_1 128 0 0
def fS_widen (M : mMem) (b : Nat) (x1 : Int32) (x2 : Int32) (x3 : Int32) : Option (mMem) :=
  if x2 = 0 then
    m_g (inb x1 6) <|
    m_l (mu M (b + 1) (x1.toNatClampNeg) (100 * (if 0 < ((M 2 x1.toNatClampNeg) - x3) then ((M 2 x1.toNatClampNeg) - x3) else 0))) fun M_2 =>
    some M_2
  else
    m_g (inb x1 6) <|
    m_l (mu M (b + 2) (x1.toNatClampNeg) (100 * (if ((M 3 x1.toNatClampNeg) + x3) < 1000 then ((M 3 x1.toNatClampNeg) + x3) else 1000))) fun M_3 =>
    some M_3
def fG_worth (M : mMem) (x1 : Int32) (x2 : Int32) (x3 : Int32) : Option (Int32 × mMem) :=
  m_b1 (fP_hasSieve M x1) fun r_1 =>
  if r_1 = 0 then
    some ((-1), M)
  else
    m_b1 (fG_within M x3 0 1000) fun r_3 =>
    if r_3 = 0 then
      some ((-1), M)
    else
      m_b1 (fG_searchOnce M) fun M_5 =>
      if (M_5 39 0) = 0 then
        some ((-1), M_5)
      else
        m_b1 (fS_useBands M_5 43) fun M_7 =>
        m_b1 (fS_widen M_7 43 x1 x2 x3) fun M_8 =>
        m_b1 (fS_lookAtAll M_8 43) fun M_9 =>
        some ((M_9 39 2) - (M_9 58 2), M_9)
def fG_water (M : mMem) (x1 : Int32) (x2 : Int32) : Option (Int32 × mMem) :=
  m_b1 (fP_hasStock M x1) fun r_1 =>
  if r_1 = 0 then
    some ((-1), M)
  else
    m_b1 (fG_within M x2 0 300) fun r_3 =>
    if r_3 = 0 then
      some ((-1), M)
    else
      m_g (inb x1 4) <|
      m_l (M 8 x1.toNatClampNeg) fun x3_5 =>
      m_l (mu M 8 (x1.toNatClampNeg) x2) fun M_6 =>
      some (x3_5, M_6)
def fB_fill_B109 (M : mMem) (x6 : Int32) : Option (Int32 × mMem) :=
  m_l (mu M 68 0 1) fun M_2 =>
  some (x6, M_2)
def fB_fill_L12 (x1 : Int32) (k2 : Nat) : Nat → mMem → Int32 → Int32 → Int32 → Int32 → Option (Int32 × mMem)
  | 0, _, _, _, _, _ => none
  | n + 1, M, x4, x5, x6, x7 =>
    if (M 1 1) ≤ x7 then
      fB_fill_B109 M x6
    else
      m_g (inb x7 4) <|
      m_l (x4 + (M (k2 + 1) x7.toNatClampNeg)) fun x4_4 =>
      m_l ((x1 * x4_4) / 100) fun x8_5 =>
      m_l (mu M 69 (x7.toNatClampNeg) (x8_5 - x5)) fun M_6 =>
      m_l (((M_6 69 x7.toNatClampNeg) * (M_6 8 x7.toNatClampNeg)) / 1000) fun x9_7 =>
      m_l (mu M_6 70 (x7.toNatClampNeg) ((M_6 69 x7.toNatClampNeg) + x9_7)) fun M_8 =>
      m_l (x6 + x9_7) fun x6_9 =>
      m_l (x7 + 1) fun x7_10 =>
      (fB_fill_L12 x1 k2 n) M_8 x4_4 x8_5 x6_9 x7_10
def fB_fill (M : mMem) (x1 : Int32) (k2 : Nat) : Option (Int32 × mMem) :=
  fB_fill_L12 x1 k2 128 M 0 0 0 0
def fG_batch (M : mMem) (x1 : Int32) : Option (Int32 × mMem) :=
  if (M 66 0) = 0 then
    some ((-1), M)
  else
    m_b1 (fG_within M x1 0 1000000) fun r_2 =>
    if r_2 = 0 then
      some ((-1), M)
    else
      m_b2 (fB_fill M x1 66) fun r_4 M_5 =>
      some (r_4, M_5)
def fG_mass (M : mMem) (x1 : Int32) (x2 : Int32) : Option (Int32) :=
  if (M 68 0) = 0 then
    some (-1)
  else
    m_b1 (fP_hasStock M x1) fun r_2 =>
    if r_2 = 0 then
      some (-1)
    else
      if x2 = 0 then
        m_g (inb x1 4) <|
        some (M 69 x1.toNatClampNeg)
      else
        m_g (inb x1 4) <|
        some (M 70 x1.toNatClampNeg)
def fG_limit (M : mMem) (x1 : Int32) : Option (Int32 × mMem) :=
  m_b1 (fG_within M x1 1 1000) fun r_1 =>
  if r_1 = 0 then
    some ((-1), M)
  else
    m_l (M 0 8) fun x2_3 =>
    m_l (mu M 0 8 x1) fun M_4 =>
    some (x2_3, M_4)
def fL_add (M : mMem) (x1 : Int32) (x2 : Int32) : Option (mMem) :=
  m_g (inb x1 6) <|
  m_g (inb (M 72 x1.toNatClampNeg) 100) <|
  m_l (mu M (73 + 1 + x1.toNatClampNeg) ((M 72 x1.toNatClampNeg).toNatClampNeg) x2) fun M_2 =>
  m_l (mu M_2 72 (x1.toNatClampNeg) ((M_2 72 x1.toNatClampNeg) + 1)) fun M_3 =>
  m_l (mu M_3 71 0 ((M_3 71 0) + 1)) fun M_4 =>
  some M_4
def fL_drifts_B75 (M : mMem) (x4 : Int32) (x5 : Int32) : Option (Int32) :=
  if x4 = 5 then
    some 1
  else
    if x5 = 5 then
      some 1
    else
      some 0
def fL_drifts_L25 (x1 : Int32) (x2 : Int32) (M : mMem) (x3 : Int32) : Nat → Int32 → Int32 → Int32 → Option (Int32)
  | 0, _, _, _ => none
  | n + 1, x4, x5, x6 =>
    if x3 ≤ x6 then
      fL_drifts_B75 M x4 x5
    else
      m_g (inb x1 6) <|
      m_g (inb x6 100) <|
      if (M (73 + 1 + x1.toNatClampNeg) x6.toNatClampNeg) ≤ (x2 + 10) then
        if (x2 - 10) ≤ (M (73 + 1 + x1.toNatClampNeg) x6.toNatClampNeg) then
          m_l (x6 + 1) fun x6_10 =>
          (fL_drifts_L25 x1 x2 M x3 n) x4 x5 x6_10
        else
          m_l (x5 + 1) fun x5_11 =>
          m_l (x6 + 1) fun x6_12 =>
          (fL_drifts_L25 x1 x2 M x3 n) x4 x5_11 x6_12
      else
        m_l (x4 + 1) fun x4_13 =>
        if (x2 - 10) ≤ (M (73 + 1 + x1.toNatClampNeg) x6.toNatClampNeg) then
          m_l (x6 + 1) fun x6_15 =>
          (fL_drifts_L25 x1 x2 M x3 n) x4_13 x5 x6_15
        else
          m_l (x5 + 1) fun x5_16 =>
          m_l (x6 + 1) fun x6_17 =>
          (fL_drifts_L25 x1 x2 M x3 n) x4_13 x5_16 x6_17
def fL_drifts (M : mMem) (x1 : Int32) (x2 : Int32) : Option (Int32) :=
  m_g (inb x1 6) <|
  m_l (M 72 x1.toNatClampNeg) fun x3_1 =>
  if 5 ≤ x3_1 then
    m_l (x3_1 - 5) fun x6_3 =>
    fL_drifts_L25 x1 x2 M x3_1 128 0 0 x6_3
  else
    some 0
def fL_jumps (M : mMem) (x1 : Int32) (x2 : Int32) : Option (Int32) :=
  m_g (inb x1 6) <|
  m_l (M 72 x1.toNatClampNeg) fun x3_1 =>
  if x3_1 < 2 then
    some 0
  else
    m_g (inb (x3_1 - 1) 100) <|
    m_g (inb (x3_1 - 2) 100) <|
    if (if 0 ≤ ((M (73 + 1 + x1.toNatClampNeg) (x3_1 - 1).toNatClampNeg) - (M (73 + 1 + x1.toNatClampNeg) (x3_1 - 2).toNatClampNeg)) then ((M (73 + 1 + x1.toNatClampNeg) (x3_1 - 1).toNatClampNeg) - (M (73 + 1 + x1.toNatClampNeg) (x3_1 - 2).toNatClampNeg)) else 0 - ((M (73 + 1 + x1.toNatClampNeg) (x3_1 - 1).toNatClampNeg) - (M (73 + 1 + x1.toNatClampNeg) (x3_1 - 2).toNatClampNeg))) ≤ x2 then
      some 0
    else
      some 1
def fG_firstRule (M : mMem) (x1 : Int32) (x2 : Int32) : Option (Int32) :=
  m_g (inb x1 6) <|
  m_b1 (fG_within M x2 (M 2 x1.toNatClampNeg) (M 3 x1.toNatClampNeg)) fun r_1 =>
  if r_1 = 0 then
    some 1
  else
    if (M 66 0) = 0 then
      m_b1 (fL_jumps M x1 (M 0 8)) fun r_4 =>
      if r_4 = 0 then
        some 0
      else
        some 3
    else
      m_b1 (fP_sumAt M x1 9 66) fun r_6 =>
      m_b1 (fL_drifts M x1 (r_6 / 100)) fun r_7 =>
      if r_7 = 0 then
        m_b1 (fL_jumps M x1 (M 0 8)) fun r_9 =>
        if r_9 = 0 then
          some 0
        else
          some 3
      else
        some 2
def fL_addFired (M : mMem) (x1 : Int32) (x2 : Int32) : Option (mMem) :=
  m_g (inb (M 71 3) 100) <|
  m_l (mu M 80 ((M 71 3).toNatClampNeg) x1) fun M_2 =>
  m_g (inb x1 6) <|
  m_g (inb (M_2 71 3) 100) <|
  m_l (mu M_2 81 ((M_2 71 3).toNatClampNeg) ((M_2 72 x1.toNatClampNeg) - 1)) fun M_4 =>
  m_g (inb (M_4 71 3) 100) <|
  m_l (mu M_4 82 ((M_4 71 3).toNatClampNeg) x2) fun M_6 =>
  m_l (mu M_6 71 3 ((M_6 71 3) + 1)) fun M_7 =>
  some M_7
def fG_test (M : mMem) (x1 : Int32) (x2 : Int32) : Option (Int32 × mMem) :=
  m_b1 (fP_hasSieve M x1) fun r_1 =>
  if r_1 = 0 then
    some ((-1), M)
  else
    m_b1 (fG_within M x2 0 1000) fun r_3 =>
    if r_3 = 0 then
      some ((-1), M)
    else
      if (M 71 0) < 100 then
        m_b1 (fL_add M x1 x2) fun M_6 =>
        m_b1 (fG_firstRule M_6 x1 x2) fun r_7 =>
        if r_7 = 0 then
          some (r_7, M_6)
        else
          m_b1 (fL_addFired M_6 x1 r_7) fun M_9 =>
          some (r_7, M_9)
      else
        some ((-1), M)
def fG_fired (M : mMem) (x1 : Int32) (x2 : Int32) : Option (Int32) :=
  if x1 < 0 then
    some (-1)
  else
    if x1 < (M 71 3) then
      if x2 = 0 then
        m_g (inb x1 100) <|
        some (M 80 x1.toNatClampNeg)
      else
      if x2 = 1 then
        m_g (inb x1 100) <|
        some (M 81 x1.toNatClampNeg)
      else
      if x2 = 2 then
        m_g (inb x1 100) <|
        some (M 82 x1.toNatClampNeg)
      else
      some (-1)
    else
      some (-1)
def fG_count (M : mMem) (x1 : Int32) : Option (Int32 × mMem) :=
  if x1 = 0 then
    some (M 1 0, M)
  else
  if x1 = 1 then
    some (M 1 1, M)
  else
  if x1 = 2 then
    some (M 71 0, M)
  else
  if x1 = 3 then
    some (M 71 3, M)
  else
  if x1 = 4 then
    m_b1 (fG_searchOnce M) fun M_6 =>
    some (M_6 24 9, M_6)
  else
  if x1 = 5 then
    m_b1 (fG_searchOnce M) fun M_8 =>
    some (M_8 24 10, M_8)
  else
  some ((-1), M)
end
section
def fM_within (M : mMem) (x0 : Int32) (x1 : Int32) (x2 : Int32) : Option (Int32) :=
  if x0 < x1 then
    some 0
  else
    if x2 < x0 then
      some 0
    else
      some 1
def fM_isSieve (M : mMem) (x1 : Int32) : Option (Int32) :=
  if x1 < 0 then
    some 0
  else
    if (M 0 0) ≤ x1 then
      some 0
    else
      some 1
def fM_isStock (M : mMem) (x1 : Int32) : Option (Int32) :=
  if x1 < 0 then
    some 0
  else
    if (M 0 3) ≤ x1 then
      some 0
    else
      some 1
def fM_isBand (M : mMem) (x0 : Int32) (x1 : Int32) : Option (Int32) :=
  if x0 < 0 then
    some 0
  else
    if x1 < x0 then
      some 0
    else
      if 1000 < x1 then
        some 0
      else
        some 1
def fM_changed (M : mMem)  : Option (mMem) :=
  m_l (mu M 0 18 0) fun M_1 =>
  m_l (mu M_1 0 28 0) fun M_2 =>
  m_l (mu M_2 0 32 0) fun M_3 =>
  some M_3
def fM_sieve (M : mMem) (x1 : Int32) (x2 : Int32) : Option (Int32 × mMem) :=
  m_b1 (fM_isBand M x1 x2) fun r_1 =>
  if r_1 = 0 then
    some ((-1), M)
  else
    if (M 0 0) = 6 then
      some ((-1), M)
    else
      m_g (inb (M 0 0) 6) <|
      m_l (mu M 1 ((M 0 0).toNatClampNeg) x1) fun M_5 =>
      m_g (inb (M_5 0 0) 6) <|
      m_l (mu M_5 2 ((M_5 0 0).toNatClampNeg) x2) fun M_7 =>
      m_l (mu M_7 0 0 ((M_7 0 0) + 1)) fun M_8 =>
      m_b1 (fM_changed M_8) fun M_9 =>
      some ((M_9 0 0) - 1, M_9)
def fM_band (M : mMem) (x1 : Int32) (x2 : Int32) (x3 : Int32) : Option (Int32 × mMem) :=
  m_b1 (fM_isSieve M x1) fun r_1 =>
  if r_1 = 0 then
    some (0, M)
  else
    m_b1 (fM_isBand M x2 x3) fun r_3 =>
    if r_3 = 0 then
      some (0, M)
    else
      m_g (inb x1 6) <|
      m_l (mu M 1 (x1.toNatClampNeg) x2) fun M_5 =>
      m_l (mu M_5 2 (x1.toNatClampNeg) x3) fun M_6 =>
      m_b1 (fM_changed M_6) fun M_7 =>
      some (1, M_7)
def fM_stock (M : mMem) (x1 : Int32) (x2 : Int32) (x3 : Int32) (x4 : Int32) : Option (Int32 × mMem) :=
  m_b1 (fM_within M x1 0 100000) fun r_1 =>
  if r_1 = 0 then
    some ((-1), M)
  else
    if x2 < 0 then
      some ((-1), M)
    else
      if x3 < x2 then
        some ((-1), M)
      else
        if 100 < x3 then
          some ((-1), M)
        else
          if (M 0 3) = 4 then
            some ((-1), M)
          else
            m_g (inb (M 0 3) 4) <|
            m_l (mu M 3 ((M 0 3).toNatClampNeg) x1) fun M_8 =>
            m_g (inb (M_8 0 3) 4) <|
            m_l (mu M_8 4 ((M_8 0 3).toNatClampNeg) x2) fun M_10 =>
            m_g (inb (M_10 0 3) 4) <|
            m_l (mu M_10 5 ((M_10 0 3).toNatClampNeg) x3) fun M_12 =>
            m_g (inb (M_12 0 3) 4) <|
            m_l (mu M_12 6 ((M_12 0 3).toNatClampNeg) (vp_nar .boolean x4)) fun M_14 =>
            m_l (mu M_14 0 3 ((M_14 0 3) + 1)) fun M_15 =>
            m_b1 (fM_changed M_15) fun M_16 =>
            some ((M_16 0 3) - 1, M_16)
def fM_passes (M : mMem) (x1 : Int32) (x2 : Int32) (x3 : Int32) (x4 : Int32) : Option (Int32 × mMem) :=
  m_b1 (fM_isStock M x1) fun r_1 =>
  if r_1 = 0 then
    some (0, M)
  else
    m_b1 (fM_isSieve M x2) fun r_3 =>
    if r_3 = 0 then
      some (0, M)
    else
      m_b1 (fM_within M x3 0 1000) fun r_5 =>
      if r_5 = 0 then
        some (0, M)
      else
        m_b1 (fM_within M x4 0 300) fun r_7 =>
        if r_7 = 0 then
          some (0, M)
        else
          m_g (inb ((6 * x1) + x2) 24) <|
          m_l (mu M 8 (((6 * x1) + x2).toNatClampNeg) x3) fun M_10 =>
          m_l (mu M_10 9 (((6 * x1) + x2).toNatClampNeg) x4) fun M_11 =>
          m_b1 (fM_changed M_11) fun M_12 =>
          some (1, M_12)
def fM_cap (M : mMem) (x1 : Int32) : Option (Int32 × mMem) :=
  m_b1 (fM_within M x1 0 100) fun r_1 =>
  if r_1 = 0 then
    some ((-1), M)
  else
    m_l (M 0 11) fun x2_3 =>
    m_l (mu M 0 11 x1) fun M_4 =>
    m_b1 (fM_changed M_4) fun M_5 =>
    some (x2_3, M_5)
def fM_step_B22 (x1 : Int32) (M : mMem) (s0 : Int32) : Option (Int32 × mMem) :=
  if s0 = 0 then
    some ((-1), M)
  else
    m_l (M 0 12) fun x3_3 =>
    m_l (mu M 0 12 x1) fun M_4 =>
    m_b1 (fM_changed M_4) fun M_5 =>
    some (x3_3, M_5)
def fM_step_B21 (x1 : Int32) (M : mMem) : Option (Int32 × mMem) :=
  fM_step_B22 x1 M 0
def fM_step (M : mMem) (x1 : Int32) : Option (Int32 × mMem) :=
  if x1 ≤ 0 then
    fM_step_B21 x1 M
  else
    if 100 < x1 then
      fM_step_B21 x1 M
    else
      m_g (¬ x1 = 0) <|
      if (100 - 100 / x1 * x1) = 0 then
        fM_step_B22 x1 M 1
      else
        fM_step_B21 x1 M
def fM_unit (M : mMem) (x1 : Int32) : Option (Int32 × mMem) :=
  m_b1 (fM_within M x1 32 126) fun r_1 =>
  if r_1 = 0 then
    some (0, M)
  else
    if (M 0 13) = 60 then
      some (0, M)
    else
      m_g (inb (M 0 13) 60) <|
      m_l (mu M 10 ((M 0 13).toNatClampNeg) x1) fun M_5 =>
      m_l (mu M_5 0 13 ((M_5 0 13) + 1)) fun M_6 =>
      some (1, M_6)
def fM_isDigit (M : mMem)  : Option (Int32) :=
  if (M 0 13) ≤ (M 0 15) then
    some 0
  else
    m_g (inb (M 0 15) 60) <|
    if (M 10 (M 0 15).toNatClampNeg) < 48 then
      some 0
    else
      if 57 < (M 10 (M 0 15).toNatClampNeg) then
        some 0
      else
        some 1
def fM_number_B50 (M : mMem) (x1 : Int32) (x2 : Int32) : Option (Int32 × mMem) :=
  if x2 = 0 then
    some ((-1), M)
  else
    some (x1, M)
def fM_number_L4  : Nat → mMem → Int32 → Int32 → Option (Int32 × mMem)
  | 0, _, _, _ => none
  | n + 1, M, x1, x2 =>
    if 4 ≤ x2 then
      fM_number_B50 M x1 x2
    else
      m_b1 (fM_isDigit M) fun r_3 =>
      if r_3 = 0 then
        fM_number_B50 M x1 x2
      else
        m_g (inb (M 0 15) 60) <|
        m_l (((10 * x1) + (M 10 (M 0 15).toNatClampNeg)) - 48) fun x1_6 =>
        m_l (mu M 0 15 ((M 0 15) + 1)) fun M_7 =>
        m_l (x2 + 1) fun x2_8 =>
        (fM_number_L4 n) M_7 x1_6 x2_8
def fM_number (M : mMem)  : Option (Int32 × mMem) :=
  fM_number_L4 128 M 0 0
def fM_takes_B28 (M : mMem) : Option (Int32 × mMem) :=
  m_l (mu M 0 15 ((M 0 15) + 0)) fun M_2 =>
  some (0, M_2)
def fM_takes (M : mMem) (x1 : Int32) : Option (Int32 × mMem) :=
  if (M 0 13) ≤ (M 0 15) then
    fM_takes_B28 M
  else
    m_g (inb (M 0 15) 60) <|
    if (M 10 (M 0 15).toNatClampNeg) = x1 then
      m_l (mu M 0 15 ((M 0 15) + 1)) fun M_5 =>
      some (1, M_5)
    else
      fM_takes_B28 M
def fM_readBands_B128 (M : mMem) (x1 : Int32) : Option (Int32 × mMem) :=
  if (M 0 15) = (M 0 13) then
    some (x1, M)
  else
    some ((-1), M)
def fM_readBands_B68 (K9 : mMem → Int32 → Int32 → Option (Int32 × mMem)) (M : mMem) (x1 : Int32) (x3 : Int32) (x4 : Int32) (x5 : Int32) (s0 : Int32) : Option (Int32 × mMem) :=
  if x5 = 0 then
    some ((-1), M)
  else
    if 0 ≤ s0 then
      m_b1 (fM_isBand M x4 s0) fun r_12 =>
      if r_12 = 0 then
        m_l (mu M 0 15 x3) fun M_14 =>
        some ((-1), M_14)
      else
        m_g (inb x1 6) <|
        m_l (mu M 11 (x1.toNatClampNeg) x4) fun M_16 =>
        m_l (mu M_16 12 (x1.toNatClampNeg) s0) fun M_17 =>
        m_l (x1 + 1) fun x1_18 =>
        m_b2 (fM_takes M_17 44) fun r_19 M_20 =>
        K9 M_20 x1_18 r_19
    else
      some ((-1), M)
def fM_readBands_B53 (K9 : mMem → Int32 → Int32 → Option (Int32 × mMem)) (M : mMem) (x1 : Int32) (x3 : Int32) (x4 : Int32) (s0 : Int32) : Option (Int32 × mMem) :=
  if s0 = 0 then
    fM_readBands_B68 K9 M x1 x3 x4 s0 (-1)
  else
    m_b2 (fM_number M) fun r_21 M_22 =>
    fM_readBands_B68 K9 M_22 x1 x3 x4 s0 r_21
def fM_readBands_B52 (K9 : mMem → Int32 → Int32 → Option (Int32 × mMem)) (M : mMem) (x1 : Int32) (x3 : Int32) (x4 : Int32) : Option (Int32 × mMem) :=
  fM_readBands_B53 K9 M x1 x3 x4 0
def fM_readBands_L9  : Nat → mMem → Int32 → Int32 → Option (Int32 × mMem)
  | 0, _, _, _ => none
  | n + 1, M, x1, x2 =>
    if x2 = 0 then
      fM_readBands_B128 M x1
    else
      m_l (M 0 15) fun x3_4 =>
      if x1 = (M 0 0) then
        some ((-1), M)
      else
        m_b2 (fM_number M) fun r_6 M_7 =>
        if r_6 < 0 then
          fM_readBands_B52 (fM_readBands_L9 n) M_7 x1 x3_4 r_6
        else
          m_b2 (fM_takes M_7 45) fun r_23 M_24 =>
          if r_23 = 0 then
            fM_readBands_B52 (fM_readBands_L9 n) M_24 x1 x3_4 r_6
          else
            fM_readBands_B53 (fM_readBands_L9 n) M_24 x1 x3_4 r_6 1
def fM_readBands (M : mMem)  : Option (Int32 × mMem) :=
  m_l (mu M 0 15 0) fun M_1 =>
  fM_readBands_L9 128 M_1 0 1
def fM_read_B58 (M : mMem) (x1 : Int32) : Option (Int32 × mMem) :=
  m_b1 (fM_changed M) fun M_6 =>
  some (x1, M_6)
def fM_read_L23 (x1 : Int32) : Nat → mMem → Int32 → Option (Int32 × mMem)
  | 0, _, _ => none
  | n + 1, M, x2 =>
    if x1 ≤ x2 then
      fM_read_B58 M x1
    else
      m_g (inb x2 6) <|
      m_l (mu M 1 (x2.toNatClampNeg) (M 11 x2.toNatClampNeg)) fun M_8 =>
      m_l (mu M_8 2 (x2.toNatClampNeg) (M_8 12 x2.toNatClampNeg)) fun M_9 =>
      m_l (x2 + 1) fun x2_10 =>
      (fM_read_L23 x1 n) M_9 x2_10
def fM_read (M : mMem)  : Option (Int32 × mMem) :=
  m_b2 (fM_readBands M) fun r_1 M_2 =>
  m_l (mu M_2 0 13 0) fun M_3 =>
  if 0 ≤ r_1 then
    fM_read_L23 r_1 128 M_3 0
  else
    some ((-1) - (M_3 0 15), M_3)
def fM_lowerPart (M : mMem) (x1 : Int32) (x2 : Int32) : Option (Int32) :=
  m_g (inb ((6 * x1) + x2) 24) <|
  m_l ((M 8 ((6 * x1) + x2).toNatClampNeg) - (M 9 ((6 * x1) + x2).toNatClampNeg)) fun x3_2 =>
  if 0 ≤ x3_2 then
    some x3_2
  else
    some 0
def fM_upperPart (M : mMem) (x1 : Int32) (x2 : Int32) : Option (Int32) :=
  m_g (inb ((6 * x1) + x2) 24) <|
  m_l ((M 8 ((6 * x1) + x2).toNatClampNeg) + (M 9 ((6 * x1) + x2).toNatClampNeg)) fun x3_2 =>
  if x3_2 ≤ 1000 then
    some x3_2
  else
    some 1000
def fM_endOf_L6 (k1 : Nat) (x2 : Int32) (x3 : Int32) (M : mMem) : Nat → Int32 → Int32 → Option (Int32)
  | 0, _, _ => none
  | n + 1, x4, x5 =>
    if (M 0 3) ≤ x5 then
      some x4
    else
      if x3 = 0 then
        m_g (inb ((6 * x5) + x2) 24) <|
        m_l (M 8 ((6 * x5) + x2).toNatClampNeg) fun x6_4 =>
        m_g (inb x5 4) <|
        m_l (x4 + ((M k1 x5.toNatClampNeg) * x6_4)) fun x4_6 =>
        m_l (x5 + 1) fun x5_7 =>
        (fM_endOf_L6 k1 x2 x3 M n) x4_6 x5_7
      else
        if x3 = 1 then
          m_b1 (fM_lowerPart M x5 x2) fun r_9 =>
          m_g (inb x5 4) <|
          m_l (x4 + ((M k1 x5.toNatClampNeg) * r_9)) fun x4_11 =>
          m_l (x5 + 1) fun x5_12 =>
          (fM_endOf_L6 k1 x2 x3 M n) x4_11 x5_12
        else
          m_b1 (fM_upperPart M x5 x2) fun r_13 =>
          m_g (inb x5 4) <|
          m_l (x4 + ((M k1 x5.toNatClampNeg) * r_13)) fun x4_15 =>
          m_l (x5 + 1) fun x5_16 =>
          (fM_endOf_L6 k1 x2 x3 M n) x4_15 x5_16
def fM_endOf (M : mMem) (k1 : Nat) (x2 : Int32) (x3 : Int32) : Option (Int32) :=
  fM_endOf_L6 k1 x2 x3 M 128 0 0
def fM_missOf (M : mMem) (k1 : Nat) (x2 : Int32) (x3 : Int32) (x4 : Int32) : Option (Int32) :=
  m_b1 (fM_endOf M k1 x2 1) fun r_1 =>
  m_l ((100 * x3) - r_1) fun x5_2 =>
  m_b1 (fM_endOf M k1 x2 2) fun r_3 =>
  m_l (r_3 - (100 * x4)) fun x6_4 =>
  if x5_2 ≤ 0 then
    if x6_4 ≤ 0 then
      some (0 + 0)
    else
      some (0 + x6_4)
  else
    if x6_4 ≤ 0 then
      some (x5_2 + 0)
    else
      some (x5_2 + x6_4)
def fM_costOf_L4 (k1 : Nat) (M : mMem) : Nat → Int32 → Int32 → Option (Int32)
  | 0, _, _ => none
  | n + 1, x2, x3 =>
    if (M 0 3) ≤ x3 then
      some x2
    else
      m_g (inb x3 4) <|
      m_l (x2 + ((M k1 x3.toNatClampNeg) * (M 3 x3.toNatClampNeg))) fun x2_3 =>
      m_l (x3 + 1) fun x3_4 =>
      (fM_costOf_L4 k1 M n) x2_3 x3_4
def fM_costOf (M : mMem) (k1 : Nat) : Option (Int32) :=
  fM_costOf_L4 k1 M 128 0 0
def fM_isMix_B111 (M : mMem) (x1 : Int32) (x2 : Int32) : Option (Int32) :=
  if x1 = 100 then
    if (M 0 11) < x2 then
      some 0
    else
      some 1
  else
    some 0
def fM_isMix_B57 (K6 : Int32 → Int32 → Int32 → Option (Int32)) (M : mMem) (x1 : Int32) (x2 : Int32) (x3 : Int32) (s0 : Int32) : Option (Int32) :=
  if s0 = 0 then
    some 0
  else
    m_g (inb x3 4) <|
    m_l (x1 + (M 14 x3.toNatClampNeg)) fun x1_9 =>
    if (M 0 3) ≤ x3 then
      m_l (x2 + 0) fun x2_11 =>
      m_l (x3 + 1) fun x3_12 =>
      K6 x1_9 x2_11 x3_12
    else
      if (M 6 x3.toNatClampNeg) = 0 then
        m_l (x2 + 0) fun x2_14 =>
        m_l (x3 + 1) fun x3_15 =>
        K6 x1_9 x2_14 x3_15
      else
        m_l (x2 + (M 14 x3.toNatClampNeg)) fun x2_16 =>
        m_l (x3 + 1) fun x3_17 =>
        K6 x1_9 x2_16 x3_17
def fM_isMix_L6 (M : mMem) : Nat → Int32 → Int32 → Int32 → Option (Int32)
  | 0, _, _, _ => none
  | n + 1, x1, x2, x3 =>
    if 4 ≤ x3 then
      fM_isMix_B111 M x1 x2
    else
      if (M 0 3) ≤ x3 then
        m_g (inb x3 4) <|
        if (M 14 x3.toNatClampNeg) = 0 then
          fM_isMix_B57 (fM_isMix_L6 M n) M x1 x2 x3 1
        else
          fM_isMix_B57 (fM_isMix_L6 M n) M x1 x2 x3 0
      else
        m_g (inb x3 4) <|
        m_b1 (fM_within M (M 14 x3.toNatClampNeg) (M 4 x3.toNatClampNeg) (M 5 x3.toNatClampNeg)) fun r_19 =>
        fM_isMix_B57 (fM_isMix_L6 M n) M x1 x2 x3 r_19
def fM_isMix (M : mMem)  : Option (Int32) :=
  fM_isMix_L6 M 128 0 0 0
def fM_look_L223  : Nat → mMem → Int32 → Option (mMem)
  | 0, _, _ => none
  | n + 1, M, x8 =>
    if 4 ≤ x8 then
      some M
    else
      m_g (inb x8 4) <|
      m_l (mu M 15 (x8.toNatClampNeg) (M 14 x8.toNatClampNeg)) fun M_15 =>
      m_l (x8 + 1) fun x8_16 =>
      (fM_look_L223 n) M_15 x8_16
def fM_look_B198 (M : mMem) (x5 : Int32) (x6 : Int32) (x7 : Int32) : Option (mMem) :=
  if x7 = 0 then
    some M
  else
    m_l (mu M 0 22 1) fun M_10 =>
    m_l (mu M_10 0 23 x5) fun M_11 =>
    m_l (mu M_11 0 24 x6) fun M_12 =>
    fM_look_L223 128 M_12 0
def fM_look_B187 (x1 : Int32) (M : mMem) (x5 : Int32) (x6 : Int32) (s0 : Int32) : Option (mMem) :=
  if x1 = 0 then
    if x5 = 0 then
      fM_look_B198 M x5 x6 s0
    else
      some M
  else
    fM_look_B198 M x5 x6 s0
def fM_look_B182 (x1 : Int32) (M : mMem) (x5 : Int32) (x6 : Int32) : Option (mMem) :=
  fM_look_B187 x1 M x5 x6 1
def fM_look_B186 (x1 : Int32) (M : mMem) (x5 : Int32) (x6 : Int32) : Option (mMem) :=
  fM_look_B187 x1 M x5 x6 0
def fM_look_B173 (x1 : Int32) (M : mMem) (x5 : Int32) (x6 : Int32) : Option (mMem) :=
  if (M 0 24) ≤ x6 then
    fM_look_B186 x1 M x5 x6
  else
    fM_look_B182 x1 M x5 x6
def fM_look_B127 (x1 : Int32) (M : mMem) (x5 : Int32) (s1 : Int32) (s2 : Int32) : Option (mMem) :=
  m_l (mu M 0 26 (s1 + s2)) fun M_4 =>
  m_b1 (fM_costOf M_4 14) fun r_5 =>
  if (M_4 0 22) = 0 then
    fM_look_B182 x1 M_4 x5 r_5
  else
    if x1 = 0 then
      fM_look_B173 x1 M_4 x5 r_5
    else
      if x5 = (M_4 0 23) then
        fM_look_B173 x1 M_4 x5 r_5
      else
        if (M_4 0 23) ≤ x5 then
          fM_look_B186 x1 M_4 x5 r_5
        else
          fM_look_B182 x1 M_4 x5 r_5
def fM_look_B102 (x1 : Int32) (M : mMem) (x5 : Int32) : Option (mMem) :=
  m_l (mu M 0 25 ((M 0 25) + 1)) fun M_2 =>
  if x5 = 0 then
    fM_look_B127 x1 M_2 x5 (M_2 0 26) 1
  else
    fM_look_B127 x1 M_2 x5 (M_2 0 26) 0
def fM_look_B57 (K6 : mMem → Int32 → Int32 → Option (mMem)) (M : mMem) (x5 : Int32) (x6 : Int32) (s2 : Int32) (s3 : Int32) (s4 : Int32) : Option (mMem) :=
  m_b1 (fM_missOf M 14 s2 s3 s4) fun r_23 =>
  m_g (inb x6 6) <|
  if (M 16 x6.toNatClampNeg) = 0 then
    if r_23 = 0 then
      m_l (mu M 16 (x6.toNatClampNeg) 1) fun M_27 =>
      m_l (x5 + r_23) fun x5_28 =>
      m_l (x6 + 1) fun x6_29 =>
      K6 M_27 x5_28 x6_29
    else
      m_l (mu M 16 (x6.toNatClampNeg) 0) fun M_30 =>
      m_l (x5 + r_23) fun x5_31 =>
      m_l (x6 + 1) fun x6_32 =>
      K6 M_30 x5_31 x6_32
  else
    m_l (mu M 16 (x6.toNatClampNeg) 1) fun M_33 =>
    m_l (x5 + r_23) fun x5_34 =>
    m_l (x6 + 1) fun x6_35 =>
    K6 M_33 x5_34 x6_35
def fM_look_B39 (K6 : mMem → Int32 → Int32 → Option (mMem)) (x2 : Int32) (x4 : Int32) (M : mMem) (x5 : Int32) (x6 : Int32) (s2 : Int32) (s3 : Int32) : Option (mMem) :=
  if x6 = x2 then
    fM_look_B57 K6 M x5 x6 s2 s3 x4
  else
    m_g (inb x6 6) <|
    fM_look_B57 K6 M x5 x6 s2 s3 (M 2 x6.toNatClampNeg)
def fM_look_L6 (x1 : Int32) (x2 : Int32) (x3 : Int32) (x4 : Int32) : Nat → mMem → Int32 → Int32 → Option (mMem)
  | 0, _, _, _ => none
  | n + 1, M, x5, x6 =>
    if (M 0 0) ≤ x6 then
      fM_look_B102 x1 M x5
    else
      if x6 = x2 then
        fM_look_B39 (fM_look_L6 x1 x2 x3 x4 n) x2 x4 M x5 x6 x6 x3
      else
        m_g (inb x6 6) <|
        fM_look_B39 (fM_look_L6 x1 x2 x3 x4 n) x2 x4 M x5 x6 x6 (M 1 x6.toNatClampNeg)
def fM_look (M : mMem) (x1 : Int32) (x2 : Int32) (x3 : Int32) (x4 : Int32) : Option (mMem) :=
  fM_look_L6 x1 x2 x3 x4 128 M 0 0
def fM_goThrough_B197 (K42 : mMem → Int32 → Option (mMem)) (M : mMem) (x5 : Int32) : Option (mMem) :=
  m_l (x5 + (M 0 12)) fun x5_8 =>
  K42 M x5_8
def fM_goThrough_B185 (K60 : mMem → Int32 → Option (mMem)) (M : mMem) (x6 : Int32) : Option (mMem) :=
  m_l (x6 + (M 0 12)) fun x6_12 =>
  K60 M x6_12
def fM_goThrough_B156 (K94 : mMem → Int32 → Option (mMem)) (x1 : Int32) (x2 : Int32) (x3 : Int32) (x4 : Int32) (M : mMem) (x7 : Int32) (s2 : Int32) : Option (mMem) :=
  m_l (mu M 14 3 s2) fun M_16 =>
  m_b1 (fM_isMix M_16) fun r_17 =>
  if r_17 = 0 then
    m_l (x7 + (M_16 0 12)) fun x7_19 =>
    K94 M_16 x7_19
  else
    m_b1 (fM_look M_16 x1 x2 x3 x4) fun M_20 =>
    m_l (x7 + (M_20 0 12)) fun x7_21 =>
    K94 M_20 x7_21
def fM_goThrough_B120 (K94 : mMem → Int32 → Option (mMem)) (x1 : Int32) (x2 : Int32) (x3 : Int32) (x4 : Int32) (x5 : Int32) (x6 : Int32) (M : mMem) (x7 : Int32) : Option (mMem) :=
  m_l (mu M 14 2 x7) fun M_14 =>
  if (M_14 0 3) ≤ 3 then
    fM_goThrough_B156 K94 x1 x2 x3 x4 M_14 x7 0
  else
    fM_goThrough_B156 K94 x1 x2 x3 x4 M_14 x7 (((100 - x5) - x6) - x7)
def fM_goThrough_L94 (K60 : mMem → Int32 → Option (mMem)) (x1 : Int32) (x2 : Int32) (x3 : Int32) (x4 : Int32) (x5 : Int32) (x6 : Int32) : Nat → mMem → Int32 → Option (mMem)
  | 0, _, _ => none
  | n + 1, M, x7 =>
    if 100 < ((x5 + x6) + x7) then
      fM_goThrough_B185 K60 M x6
    else
      if x7 = 0 then
        fM_goThrough_B120 (fM_goThrough_L94 K60 x1 x2 x3 x4 x5 x6 n) x1 x2 x3 x4 x5 x6 M x7
      else
        if (M 0 3) ≤ 2 then
          fM_goThrough_B185 K60 M x6
        else
          fM_goThrough_B120 (fM_goThrough_L94 K60 x1 x2 x3 x4 x5 x6 n) x1 x2 x3 x4 x5 x6 M x7
def fM_goThrough_L60 (K42 : mMem → Int32 → Option (mMem)) (x1 : Int32) (x2 : Int32) (x3 : Int32) (x4 : Int32) (x5 : Int32) : Nat → mMem → Int32 → Option (mMem)
  | 0, _, _ => none
  | n + 1, M, x6 =>
    if 100 < (x5 + x6) then
      fM_goThrough_B197 K42 M x5
    else
      if x6 = 0 then
        m_l (mu M 14 1 x6) fun M_10 =>
        fM_goThrough_L94 (fM_goThrough_L60 K42 x1 x2 x3 x4 x5 n) x1 x2 x3 x4 x5 x6 128 M_10 0
      else
        if (M 0 3) ≤ 1 then
          fM_goThrough_B197 K42 M x5
        else
          m_l (mu M 14 1 x6) fun M_24 =>
          fM_goThrough_L94 (fM_goThrough_L60 K42 x1 x2 x3 x4 x5 n) x1 x2 x3 x4 x5 x6 128 M_24 0
def fM_goThrough_L42 (x1 : Int32) (x2 : Int32) (x3 : Int32) (x4 : Int32) : Nat → mMem → Int32 → Option (mMem)
  | 0, _, _ => none
  | n + 1, M, x5 =>
    if 100 < x5 then
      some M
    else
      m_l (mu M 14 0 x5) fun M_6 =>
      fM_goThrough_L60 (fM_goThrough_L42 x1 x2 x3 x4 n) x1 x2 x3 x4 x5 128 M_6 0
def fM_goThrough_L18 (x1 : Int32) (x2 : Int32) (x3 : Int32) (x4 : Int32) : Nat → mMem → Int32 → Option (mMem)
  | 0, _, _ => none
  | n + 1, M, x5 =>
    if 6 ≤ x5 then
      fM_goThrough_L42 x1 x2 x3 x4 128 M 0
    else
      m_g (inb x5 6) <|
      m_l (mu M 16 (x5.toNatClampNeg) 0) fun M_26 =>
      m_l (x5 + 1) fun x5_27 =>
      (fM_goThrough_L18 x1 x2 x3 x4 n) M_26 x5_27
def fM_goThrough (M : mMem) (x1 : Int32) (x2 : Int32) (x3 : Int32) (x4 : Int32) : Option (mMem) :=
  m_l (mu M 0 22 0) fun M_1 =>
  m_l (mu M_1 0 25 0) fun M_2 =>
  m_l (mu M_2 0 26 0) fun M_3 =>
  fM_goThrough_L18 x1 x2 x3 x4 128 M_3 0
def fM_take_B25 (M : mMem) : Option (mMem) :=
  m_l (mu M 0 18 1) fun M_2 =>
  m_l (mu M_2 0 28 0) fun M_3 =>
  some M_3
def fM_take_L2  : Nat → mMem → Int32 → Option (mMem)
  | 0, _, _ => none
  | n + 1, M, x1 =>
    if 4 ≤ x1 then
      fM_take_B25 M
    else
      m_g (inb x1 4) <|
      m_l (mu M 13 (x1.toNatClampNeg) (M 15 x1.toNatClampNeg)) fun M_5 =>
      m_l (x1 + 1) fun x1_6 =>
      (fM_take_L2 n) M_5 x1_6
def fM_take (M : mMem)  : Option (mMem) :=
  fM_take_L2 128 M 0
def fM_run (M : mMem)  : Option (Int32 × mMem) :=
  m_b1 (fM_goThrough M 0 (-1) 0 0) fun M_1 =>
  if (M_1 0 22) = 0 then
    some ((-1), M_1)
  else
    m_b1 (fM_take M_1) fun M_3 =>
    some (M_3 0 24, M_3)
def fM_near (M : mMem)  : Option (Int32 × mMem) :=
  m_b1 (fM_goThrough M 1 (-1) 0 0) fun M_1 =>
  if (M_1 0 22) = 0 then
    some ((-1), M_1)
  else
    m_b1 (fM_take M_1) fun M_3 =>
    some (M_3 0 23, M_3)
def fM_share (M : mMem) (x1 : Int32) : Option (Int32) :=
  if (M 0 18) = 0 then
    some (-1)
  else
    m_b1 (fM_isStock M x1) fun r_2 =>
    if r_2 = 0 then
      some (-1)
    else
      m_g (inb x1 4) <|
      some (M 13 x1.toNatClampNeg)
def fM_told (M : mMem) (x1 : Int32) (x2 : Int32) : Option (Int32) :=
  if (M 0 18) = 0 then
    some (-1)
  else
    m_b1 (fM_isSieve M x1) fun r_2 =>
    if r_2 = 0 then
      some (-1)
    else
      m_b1 (fM_within M x2 0 3) fun r_4 =>
      if r_4 = 0 then
        some (-1)
      else
        if x2 = 3 then
          m_g (inb x1 6) <|
          m_b1 (fM_missOf M 13 x1 (M 1 x1.toNatClampNeg) (M 2 x1.toNatClampNeg)) fun r_7 =>
          some r_7
        else
          m_b1 (fM_endOf M 13 x1 x2) fun r_8 =>
          some r_8
def fM_cost (M : mMem)  : Option (Int32) :=
  if (M 0 18) = 0 then
    some (-1)
  else
    m_b1 (fM_costOf M 13) fun r_2 =>
    some r_2
def fM_lonely_L12 (M : mMem) : Nat → Int32 → Int32 → Option (Int32 × mMem)
  | 0, _, _ => none
  | n + 1, x2, x3 =>
    if (M 0 0) ≤ x3 then
      some ((-1), M)
    else
      if x2 < 0 then
        some ((-1), M)
      else
        if (M 0 25) ≤ 0 then
          some ((-1), M)
        else
          m_g (inb x3 6) <|
          if (M 16 x3.toNatClampNeg) = 0 then
            if x2 = 0 then
              some (x3, M)
            else
              m_l (x2 + (-1)) fun x2_8 =>
              m_l (x3 + 1) fun x3_9 =>
              (fM_lonely_L12 M n) x2_8 x3_9
          else
            m_l (x3 + 1) fun x3_10 =>
            (fM_lonely_L12 M n) x2 x3_10
def fM_lonely (M : mMem) (x1 : Int32) : Option (Int32 × mMem) :=
  m_b1 (fM_goThrough M 1 (-1) 0 0) fun M_1 =>
  fM_lonely_L12 M_1 128 x1 0
def fM_worth_B131 (x1 : Int32) (M : mMem) (x4 : Int32) (x5 : Int32) (s0 : Int32) : Option (Int32 × mMem) :=
  m_b1 (fM_goThrough M 0 x1 x5 s0) fun M_12 =>
  some (x4 - (M_12 0 24), M_12)
def fM_worth_B104 (x1 : Int32) (x2 : Int32) (M : mMem) (x4 : Int32) (x5 : Int32) : Option (Int32 × mMem) :=
  if x2 = 0 then
    m_g (inb x1 6) <|
    fM_worth_B131 x1 M x4 x5 (M 2 x1.toNatClampNeg)
  else
    fM_worth_B131 x1 M x4 x5 1000
def fM_worth_B84 (x1 : Int32) (x2 : Int32) (x3 : Int32) (M : mMem) (x4 : Int32) (s0 : Int32) : Option (Int32 × mMem) :=
  if x2 = 0 then
    fM_worth_B104 x1 x2 M x4 s0
  else
    m_g (inb x1 6) <|
    if ((M 2 x1.toNatClampNeg) + x3) ≤ 1000 then
      fM_worth_B131 x1 M x4 s0 ((M 2 x1.toNatClampNeg) + x3)
    else
      fM_worth_B104 x1 x2 M x4 s0
def fM_worth_B59 (x1 : Int32) (x2 : Int32) (x3 : Int32) (M : mMem) (x4 : Int32) : Option (Int32 × mMem) :=
  if x2 = 0 then
    fM_worth_B84 x1 x2 x3 M x4 0
  else
    m_g (inb x1 6) <|
    fM_worth_B84 x1 x2 x3 M x4 (M 1 x1.toNatClampNeg)
def fM_worth (M : mMem) (x1 : Int32) (x2 : Int32) (x3 : Int32) : Option (Int32 × mMem) :=
  m_b1 (fM_isSieve M x1) fun r_1 =>
  if r_1 = 0 then
    some ((-1), M)
  else
    m_b1 (fM_within M x3 0 1000) fun r_3 =>
    if r_3 = 0 then
      some ((-1), M)
    else
      m_b1 (fM_goThrough M 0 (-1) 0 0) fun M_5 =>
      if (M_5 0 22) = 0 then
        some ((-1), M_5)
      else
        m_l (M_5 0 24) fun x4_7 =>
        if x2 = 0 then
          m_g (inb x1 6) <|
          if 0 ≤ ((M_5 1 x1.toNatClampNeg) - x3) then
            fM_worth_B84 x1 x2 x3 M_5 x4_7 ((M_5 1 x1.toNatClampNeg) - x3)
          else
            fM_worth_B59 x1 x2 x3 M_5 x4_7
        else
          fM_worth_B59 x1 x2 x3 M_5 x4_7
def fM_water (M : mMem) (x1 : Int32) (x2 : Int32) : Option (Int32 × mMem) :=
  m_b1 (fM_isStock M x1) fun r_1 =>
  if r_1 = 0 then
    some ((-1), M)
  else
    m_b1 (fM_within M x2 0 300) fun r_3 =>
    if r_3 = 0 then
      some ((-1), M)
    else
      m_g (inb x1 4) <|
      m_l (M 7 x1.toNatClampNeg) fun x3_5 =>
      m_l (mu M 7 (x1.toNatClampNeg) x2) fun M_6 =>
      some (x3_5, M_6)
def fM_batch_B128 (M : mMem) (x4 : Int32) : Option (Int32 × mMem) :=
  m_l (mu M 0 28 1) fun M_5 =>
  some (x4, M_5)
def fM_batch_L29 (x1 : Int32) : Nat → mMem → Int32 → Int32 → Int32 → Int32 → Option (Int32 × mMem)
  | 0, _, _, _, _, _ => none
  | n + 1, M, x2, x3, x4, x5 =>
    if (M 0 3) ≤ x5 then
      fM_batch_B128 M x4
    else
      m_g (inb x5 4) <|
      m_l (x2 + (M 13 x5.toNatClampNeg)) fun x2_7 =>
      m_l (((((x1).toInt64) * ((x2_7).toInt64)) / 100).toInt32) fun x6_8 =>
      m_l (mu M 17 (x5.toNatClampNeg) (x6_8 - x3)) fun M_9 =>
      m_l (((((M_9 17 x5.toNatClampNeg).toInt64) * ((M_9 7 x5.toNatClampNeg).toInt64)) / 1000).toInt32) fun x7_10 =>
      m_l (mu M_9 18 (x5.toNatClampNeg) ((M_9 17 x5.toNatClampNeg) + x7_10)) fun M_11 =>
      m_l (x4 + x7_10) fun x4_12 =>
      m_l (x5 + 1) fun x5_13 =>
      (fM_batch_L29 x1 n) M_11 x2_7 x6_8 x4_12 x5_13
def fM_batch (M : mMem) (x1 : Int32) : Option (Int32 × mMem) :=
  if (M 0 18) = 0 then
    some ((-1), M)
  else
    m_b1 (fM_within M x1 0 1000000) fun r_2 =>
    if r_2 = 0 then
      some ((-1), M)
    else
      fM_batch_L29 x1 128 M 0 0 0 0
def fM_mass (M : mMem) (x1 : Int32) (x2 : Int32) : Option (Int32) :=
  if (M 0 28) = 0 then
    some (-1)
  else
    m_b1 (fM_isStock M x1) fun r_2 =>
    if r_2 = 0 then
      some (-1)
    else
      if x2 = 0 then
        m_g (inb x1 4) <|
        some (M 17 x1.toNatClampNeg)
      else
        m_g (inb x1 4) <|
        some (M 18 x1.toNatClampNeg)
def fM_limit (M : mMem) (x1 : Int32) : Option (Int32 × mMem) :=
  m_b1 (fM_within M x1 1 1000) fun r_1 =>
  if r_1 = 0 then
    some ((-1), M)
  else
    m_l (M 0 31) fun x2_3 =>
    m_l (mu M 0 31 x1) fun M_4 =>
    some (x2_3, M_4)
def fM_driftsOff_B108 (M : mMem) (x4 : Int32) (x5 : Int32) : Option (Int32) :=
  if x4 = 5 then
    some 1
  else
    if x5 = 5 then
      some 1
    else
      some 0
def fM_driftsOff_B75 (K30 : Int32 → Int32 → Int32 → Int32 → Option (Int32)) (x2 : Int32) (M : mMem) (x3 : Int32) (x5 : Int32) (x6 : Int32) (s0 : Int32) (s1 : Int32) : Option (Int32) :=
  m_l (s0 + s1) fun x4_12 =>
  m_g (inb x6 100) <|
  if (x2 - 10) ≤ (M 20 x6.toNatClampNeg) then
    m_l (x5 + 0) fun x5_15 =>
    m_l (x6 + (-1)) fun x6_16 =>
    K30 x3 x4_12 x5_15 x6_16
  else
    m_l (x5 + 1) fun x5_17 =>
    m_l (x6 + (-1)) fun x6_18 =>
    K30 x3 x4_12 x5_17 x6_18
def fM_driftsOff_L30 (x1 : Int32) (M : mMem) (x2 : Int32) : Nat → Int32 → Int32 → Int32 → Int32 → Option (Int32)
  | 0, _, _, _, _ => none
  | n + 1, x3, x4, x5, x6 =>
    if x6 < 0 then
      fM_driftsOff_B108 M x4 x5
    else
      if 5 ≤ x3 then
        fM_driftsOff_B108 M x4 x5
      else
        m_g (inb x6 100) <|
        if (M 19 x6.toNatClampNeg) = x1 then
          m_l (x3 + 1) fun x3_10 =>
          if (M 20 x6.toNatClampNeg) ≤ (x2 + 10) then
            fM_driftsOff_B75 (fM_driftsOff_L30 x1 M x2 n) x2 M x3_10 x5 x6 x4 0
          else
            fM_driftsOff_B75 (fM_driftsOff_L30 x1 M x2 n) x2 M x3_10 x5 x6 x4 1
        else
          m_l (x6 + (-1)) fun x6_19 =>
          (fM_driftsOff_L30 x1 M x2 n) x3 x4 x5 x6_19
def fM_driftsOff (M : mMem) (x1 : Int32) : Option (Int32) :=
  m_b1 (fM_endOf M 13 x1 0) fun r_1 =>
  m_l (r_1 / 100) fun x2_2 =>
  m_l ((M 0 32) - 1) fun x6_3 =>
  fM_driftsOff_L30 x1 M x2_2 128 0 0 0 x6_3
def fM_test_B178 (M : mMem) (x5 : Int32) : Option (Int32 × mMem) :=
  if x5 ≤ (M 0 31) then
    m_g (inb ((M 0 32) - 1) 100) <|
    m_l (mu M 22 (((M 0 32) - 1).toNatClampNeg) 0) fun M_22 =>
    some (0, M_22)
  else
    m_g (inb ((M 0 32) - 1) 100) <|
    m_l (mu M 22 (((M 0 32) - 1).toNatClampNeg) 3) fun M_24 =>
    some (3, M_24)
def fM_test_B133 (x1 : Int32) (x2 : Int32) (M : mMem) (s0 : Int32) : Option (Int32 × mMem) :=
  m_g (inb x1 6) <|
  if x2 < (M 1 x1.toNatClampNeg) then
    m_g (inb ((M 0 32) - 1) 100) <|
    m_l (mu M 22 (((M 0 32) - 1).toNatClampNeg) 1) fun M_17 =>
    some (1, M_17)
  else
    if x2 ≤ (M 2 x1.toNatClampNeg) then
      if (M 0 18) = 0 then
        fM_test_B178 M s0
      else
        m_b1 (fM_driftsOff M x1) fun r_25 =>
        if r_25 = 0 then
          fM_test_B178 M s0
        else
          m_g (inb ((M 0 32) - 1) 100) <|
          m_l (mu M 22 (((M 0 32) - 1).toNatClampNeg) 2) fun M_28 =>
          some (2, M_28)
    else
      m_g (inb ((M 0 32) - 1) 100) <|
      m_l (mu M 22 (((M 0 32) - 1).toNatClampNeg) 1) fun M_30 =>
      some (1, M_30)
def fM_test_B76 (x1 : Int32) (x2 : Int32) (M : mMem) (x3 : Int32) (x4 : Int32) : Option (Int32 × mMem) :=
  m_g (inb (M 0 32) 100) <|
  m_l (mu M 19 ((M 0 32).toNatClampNeg) x1) fun M_8 =>
  m_g (inb (M_8 0 32) 100) <|
  m_l (mu M_8 20 ((M_8 0 32).toNatClampNeg) x2) fun M_10 =>
  m_g (inb (M_10 0 32) 100) <|
  m_l (mu M_10 21 ((M_10 0 32).toNatClampNeg) x3) fun M_12 =>
  m_l (mu M_12 0 32 ((M_12 0 32) + 1)) fun M_13 =>
  if x2 ≤ x4 then
    fM_test_B133 x1 x2 M_13 (x4 - x2)
  else
    fM_test_B133 x1 x2 M_13 (x2 - x4)
def fM_test_L38 (x1 : Int32) (x2 : Int32) (M : mMem) : Nat → Int32 → Int32 → Int32 → Option (Int32 × mMem)
  | 0, _, _, _ => none
  | n + 1, x3, x4, x5 =>
    if (M 0 32) ≤ x5 then
      fM_test_B76 x1 x2 M x3 x4
    else
      m_g (inb x5 100) <|
      if (M 19 x5.toNatClampNeg) = x1 then
        m_l (x3 + 1) fun x3_33 =>
        m_l (M 20 x5.toNatClampNeg) fun x4_34 =>
        m_l (x5 + 1) fun x5_35 =>
        (fM_test_L38 x1 x2 M n) x3_33 x4_34 x5_35
      else
        m_l (x5 + 1) fun x5_36 =>
        (fM_test_L38 x1 x2 M n) x3 x4 x5_36
def fM_test (M : mMem) (x1 : Int32) (x2 : Int32) : Option (Int32 × mMem) :=
  m_b1 (fM_isSieve M x1) fun r_1 =>
  if r_1 = 0 then
    some ((-1), M)
  else
    m_b1 (fM_within M x2 0 1000) fun r_3 =>
    if r_3 = 0 then
      some ((-1), M)
    else
      if (M 0 32) = 100 then
        some ((-1), M)
      else
        fM_test_L38 x1 x2 M 128 0 x2 0
def fM_fired_L16 (x2 : Int32) (M : mMem) : Nat → Int32 → Int32 → Option (Int32)
  | 0, _, _ => none
  | n + 1, x3, x4 =>
    if (M 0 32) ≤ x4 then
      some (-1)
    else
      if x3 < 0 then
        some (-1)
      else
        m_g (inb x4 100) <|
        if (M 22 x4.toNatClampNeg) ≤ 0 then
          m_l (x4 + 1) fun x4_7 =>
          (fM_fired_L16 x2 M n) x3 x4_7
        else
          if x3 = 0 then
            if x2 = 0 then
              some (M 19 x4.toNatClampNeg)
            else
              if x2 = 1 then
                some (M 21 x4.toNatClampNeg)
              else
                some (M 22 x4.toNatClampNeg)
          else
            m_l (x3 + (-1)) fun x3_11 =>
            m_l (x4 + 1) fun x4_12 =>
            (fM_fired_L16 x2 M n) x3_11 x4_12
def fM_fired (M : mMem) (x1 : Int32) (x2 : Int32) : Option (Int32) :=
  m_b1 (fM_within M x2 0 2) fun r_1 =>
  if r_1 = 0 then
    some (-1)
  else
    fM_fired_L16 x2 M 128 x1 0
def fM_count_L57 (M : mMem) : Nat → Int32 → Int32 → Option (Int32 × mMem)
  | 0, _, _ => none
  | n + 1, x2, x3 =>
    if (M 0 32) ≤ x3 then
      some (x2, M)
    else
      m_g (inb x3 100) <|
      if (M 22 x3.toNatClampNeg) ≤ 0 then
        m_l (x2 + 0) fun x2_8 =>
        m_l (x3 + 1) fun x3_9 =>
        (fM_count_L57 M n) x2_8 x3_9
      else
        m_l (x2 + 1) fun x2_10 =>
        m_l (x3 + 1) fun x3_11 =>
        (fM_count_L57 M n) x2_10 x3_11
def fM_count (M : mMem) (x1 : Int32) : Option (Int32 × mMem) :=
  if x1 = 0 then
    some (M 0 0, M)
  else
  if x1 = 1 then
    some (M 0 3, M)
  else
  if x1 = 2 then
    some (M 0 32, M)
  else
  if x1 = 3 then
    fM_count_L57 M 128 0 0
  else
  if x1 = 4 then
    m_b1 (fM_goThrough M 1 (-1) 0 0) fun M_13 =>
    some (M_13 0 25, M_13)
  else
  if x1 = 5 then
    m_b1 (fM_goThrough M 1 (-1) 0 0) fun M_15 =>
    some (M_15 0 26, M_15)
  else
  some ((-1), M)
end
section
abbrev rmG_mayBeBand : Room := { frames := 0, cells := 0, slots := 0, locals := 0 }
set_option maxHeartbeats 4000000 in
set_option maxRecDepth 100000 in
theorem cG_mayBeBand (l : Launch) (D : va_G) (ad : Nat → Nat) (c3 : ClassId × ClassId × ClassId) (M : mMem) (x0 : Int32) (x1 : Int32)  {r : Int32} (hf : fG_mayBeBand M x0 x1 = some r) : kPX l D ad c3 yG_mayBeBand wG_mayBeBand rmG_mayBeBand [.int x0, .int x1] M r := by
  refine m_oP (cc := bG_mayBeBand) (maxL := 2) (ty := .boolean) (own := R_G) nestX (by decide) rfl (Nat.le_of_ble_eq_true rfl) rfl (fun p e s m args below meth c Q hx hb hml hown hts hK hN hret ls hZ hl => ?_)
  have hl : lv_has ls 2 [(0, .int x0), (1, .int x1)] := hl
  unfold fG_mayBeBand at hf
  refine lv_iconst (v := 0) hx hb dG_mayBeBand_0 (by decide) ?_
  refine lv_iload_n hx hb dG_mayBeBand_1 rfl (lv_at hl 0 rfl) ?_
  refine lv_icmp_gt (tgt := 21) hx hb dG_mayBeBand_2 (by decide) (fun c_1 => ?_) (fun c_1 => ?_)
  · have hf := m_t hf c_1
    refine lv_iconst (v := 0) hx hb dG_mayBeBand_21 (by decide) ?_
    exact hret _ _ _ _ _ (fun _ _ => 0) hf rfl hZ dG_mayBeBand_22
  · have hf := m_f hf c_1
    refine lv_iload_n hx hb dG_mayBeBand_5 rfl (lv_at hl 0 rfl) ?_
    refine lv_iload_n hx hb dG_mayBeBand_6 rfl (lv_at hl 1 rfl) ?_
    refine lv_icmp_gt (tgt := 21) hx hb dG_mayBeBand_7 (by decide) (fun c_2 => ?_) (fun c_2 => ?_)
    · have hf := m_t hf c_2
      refine lv_iconst (v := 0) hx hb dG_mayBeBand_21 (by decide) ?_
      exact hret _ _ _ _ _ (fun _ _ => 0) hf rfl hZ dG_mayBeBand_22
    · have hf := m_f hf c_2
      refine lv_iload_n hx hb dG_mayBeBand_10 rfl (lv_at hl 1 rfl) ?_
      refine lv_sipush (v := 1000) hx hb dG_mayBeBand_11 (by decide) ?_
      refine lv_icmp_gt (tgt := 21) hx hb dG_mayBeBand_14 (by decide) (fun c_3 => ?_) (fun c_3 => ?_)
      · have hf := m_t hf c_3
        refine lv_iconst (v := 0) hx hb dG_mayBeBand_21 (by decide) ?_
        exact hret _ _ _ _ _ (fun _ _ => 0) hf rfl hZ dG_mayBeBand_22
      · have hf := m_f hf c_3
        refine lv_iconst (v := 1) hx hb dG_mayBeBand_17 (by decide) ?_
        refine lv_goto (tgt := 22) hx hb dG_mayBeBand_18 (by decide) ?_
        exact hret _ _ _ _ _ (fun _ _ => 0) hf rfl hZ dG_mayBeBand_22
abbrev rmP_setBand : Room := { frames := 0, cells := 0, slots := 0, locals := 0 }
set_option maxHeartbeats 4000000 in
set_option maxRecDepth 100000 in
theorem cP_setBand (l : Launch) (D : va_G) (ad : Nat → Nat) (c3 : ClassId × ClassId × ClassId) (M : mMem) (x1 : Int32) (x2 : Int32) (x3 : Int32)  {M' : mMem} (hf : fP_setBand M x1 x2 x3 = some M') : kVX l D ad c3 yP_setBand wP_setBand rmP_setBand [.ref (ad 1), .int x1, .int x2, .int x3] M M' := by
  refine m_oV (cc := bP_setBand) (maxL := 4) (own := R_P) nestX (by decide) rfl (Nat.le_of_ble_eq_true rfl) rfl (fun p e s m args below meth c Q hx hb hml hown hts hK hN hret ls hZ hl => ?_)
  have hl : lv_has ls 4 [(0, .ref (ad 1)), (1, .int x1), (2, .int x2), (3, .int x3)] := hl
  unfold fP_setBand at hf
  refine lv_aload_n hx hb dP_setBand_0 rfl (lv_at hl 0 rfl) ?_
  refine m_getR (k' := 2) hx hb hts in_P hown hK hZ (by decide) rfl rfl 4 (by decide) (hts _ k1_39) (fun _ h9 => h9) rfl dP_setBand_1 ?_
  refine lv_iload_n hx hb dP_setBand_4 rfl (lv_at hl 1 rfl) ?_
  refine lv_iload_n hx hb dP_setBand_5 rfl (lv_at hl 2 rfl) ?_
  obtain ⟨h_inb_x1_6, hf⟩ := m_gx hf
  obtain ⟨M_1, eM_1, hf⟩ := m_lx hf
  refine m_iast hx hb hK hZ (by decide) rfl h_inb_x1_6 dP_setBand_6 eM_1 (fun H locs hZ => ?_)
  refine lv_aload_n hx hb dP_setBand_7 rfl (lv_at hl 0 rfl) ?_
  refine m_getR (k' := 3) hx hb hts in_P hown hK hZ (by decide) rfl rfl 5 (by decide) (hts _ k1_42) (fun _ h9 => h9) rfl dP_setBand_8 ?_
  refine lv_iload_n hx hb dP_setBand_11 rfl (lv_at hl 1 rfl) ?_
  refine lv_iload_n hx hb dP_setBand_12 rfl (lv_at hl 3 rfl) ?_
  obtain ⟨M_2, eM_2, hf⟩ := m_lx hf
  refine m_iast hx hb hK hZ (by decide) rfl h_inb_x1_6 dP_setBand_13 eM_2 (fun H locs hZ => ?_)
  exact hret _ _ _ _ _ hf hZ dP_setBand_14
abbrev rmL_clear : Room := { frames := 0, cells := 0, slots := 0, locals := 0 }
set_option maxHeartbeats 4000000 in
set_option maxRecDepth 100000 in
theorem cL_clear (l : Launch) (D : va_G) (ad : Nat → Nat) (c3 : ClassId × ClassId × ClassId) (M : mMem)   {M' : mMem} (hf : fL_clear M  = some M') : kVX l D ad c3 yL_clear wL_clear rmL_clear [.ref (ad 71)] M M' := by
  refine m_oV (cc := bL_clear) (maxL := 2) (own := R_L) nestX (by decide) rfl (Nat.le_of_ble_eq_true rfl) rfl (fun p e s m args below meth c Q hx hb hml hown hts hK hN hret ls hZ hl => ?_)
  have hl : lv_has ls 2 [(0, .ref (ad 71))] := hl
  unfold fL_clear at hf
  have L12 : ∀ (n12 : Nat) (M : mMem) (x1 : Int32), fL_clear_L12 n12 M x1 = some M' → ∀ (H : Heap) (locs : List Loc) (ls : Array Slot), zX D ad c3 s H locs M → lv_has ls 2 [(0, .ref (ad 71)), (1, .int x1)] → W p l e rmL_clear s m args below meth c H locs 0 0 Q (F0 m 12 ls []) := by
    intro n12
    induction n12 with
    | zero => intro M x1 hf; exact m_none hf
    | succ n12 ih12 =>
      intro M x1 hf H locs ls hZ hl
      rw [fL_clear_L12] at hf
      refine lv_iload_n hx hb dL_clear_12 rfl (lv_at hl 1 rfl) ?_
      refine lv_bipush (v := 6) hx hb dL_clear_13 (by decide) ?_
      refine lv_icmp_ge (tgt := 31) hx hb dL_clear_15 (by decide) (fun c_3 => ?_) (fun c_3 => ?_)
      · have hf := m_t hf c_3
        exact hret _ _ _ _ _ hf hZ dL_clear_31
      · have hf := m_f hf c_3
        refine lv_aload_n hx hb dL_clear_18 rfl (lv_at hl 0 rfl) ?_
        refine m_getR (k' := 72) hx hb hts in_L hown hK hZ (by decide) rfl rfl 1 (by decide) (hts _ k1_223) (fun _ h9 => h9) rfl dL_clear_19 ?_
        refine lv_iload_n hx hb dL_clear_22 rfl (lv_at hl 1 rfl) ?_
        refine lv_iconst (v := 0) hx hb dL_clear_23 (by decide) ?_
        obtain ⟨h_4, hf⟩ := m_gx hf
        obtain ⟨M_5, eM_5, hf⟩ := m_lx hf
        refine m_iast hx hb hK hZ (by decide) rfl h_4 dL_clear_24 eM_5 (fun H locs hZ => ?_)
        obtain ⟨x1_6, ex1_6, hf⟩ := m_lx hf
        refine lv_iinc (v := x1_6) (lv' := [(1, .int x1_6), (0, .ref (ad 71))]) hx hb dL_clear_25 hl (k := 1) rfl (by rw [ex1_6]; rfl) (by decide) rfl (fun ls hl => ?_)
        refine lv_goto (tgt := 12) hx hb dL_clear_28 (by decide) ?_
        exact ih12 _ _ hf _ _ _ hZ (lv_sub hl [1, 0] rfl)
  refine lv_aload_n hx hb dL_clear_0 rfl (lv_at hl 0 rfl) ?_
  refine lv_iconst (v := 0) hx hb dL_clear_1 (by decide) ?_
  obtain ⟨M_1, eM_1, hf⟩ := m_lx hf
  refine m_put (ty := .int) hx hb hts in_L ⟨ty_L_ok, nm_L_ok⟩ hown hK hZ (by decide) rfl rfl 0 (by decide) (hts _ k1_221) (fun _ h9 => h9) rfl (by decide +kernel) rfl rfl rfl dL_clear_2 eM_1 (fun H locs hZ => ?_)
  refine lv_aload_n hx hb dL_clear_5 rfl (lv_at hl 0 rfl) ?_
  refine lv_iconst (v := 0) hx hb dL_clear_6 (by decide) ?_
  obtain ⟨M_2, eM_2, hf⟩ := m_lx hf
  refine m_put (ty := .int) hx hb hts in_L ⟨ty_L_ok, nm_L_ok⟩ hown hK hZ (by decide) rfl rfl 3 (by decide) (hts _ k1_225) (fun _ h9 => h9) rfl (by decide +kernel) rfl rfl rfl dL_clear_7 eM_2 (fun H locs hZ => ?_)
  refine lv_iconst (v := 0) hx hb dL_clear_10 (by decide) ?_
  refine lv_istore_n (lv' := [(1, .int 0), (0, .ref (ad 71))]) hx hb dL_clear_11 rfl hl (by decide) rfl (fun ls hl => ?_)
  exact L12 128 M_2 0 hf _ _ _ hZ (lv_sub hl [1, 0] rfl)
abbrev rmG_forget : Room := { frames := 1, cells := 0, slots := 0, locals := 21 }
set_option maxHeartbeats 4000000 in
set_option maxRecDepth 100000 in
theorem cG_forget (l : Launch) (D : va_G) (ad : Nat → Nat) (c3 : ClassId × ClassId × ClassId) (M : mMem)   {M' : mMem} (hf : fG_forget M  = some M') : kVX l D ad c3 yG_forget wG_forget rmG_forget [.ref (ad 0)] M M' := by
  refine m_oV (cc := bG_forget) (maxL := 1) (own := R_G) nestX (by decide) rfl (Nat.le_of_ble_eq_true rfl) rfl (fun p e s m args below meth c Q hx hb hml hown hts hK hN hret ls hZ hl => ?_)
  have hl : lv_has ls 1 [(0, .ref (ad 0))] := hl
  unfold fG_forget at hf
  refine lv_aload_n hx hb dG_forget_0 rfl (lv_at hl 0 rfl) ?_
  refine m_getR (k' := 66) hx hb hts in_G hown hK hZ (by decide) rfl rfl 4 (by decide) (hts _ k2_12) (fun _ h9 => h9) rfl dG_forget_1 ?_
  refine lv_iconst (v := 0) hx hb dG_forget_4 (by decide) ?_
  obtain ⟨M_1, eM_1, hf⟩ := m_lx hf
  refine m_put (ty := .boolean) hx hb hts in_X ⟨ty_X_ok, nm_X_ok⟩ hown hK hZ (by decide) rfl rfl 0 (by decide) (hts _ k1_110) (fun _ h9 => h9) rfl (by decide +kernel) rfl rfl rfl dG_forget_5 eM_1 (fun H locs hZ => ?_)
  refine lv_aload_n hx hb dG_forget_8 rfl (lv_at hl 0 rfl) ?_
  refine m_getR (k' := 68) hx hb hts in_G hown hK hZ (by decide) rfl rfl 5 (by decide) (hts _ k2_13) (fun _ h9 => h9) rfl dG_forget_9 ?_
  refine lv_iconst (v := 0) hx hb dG_forget_12 (by decide) ?_
  obtain ⟨M_2, eM_2, hf⟩ := m_lx hf
  refine m_put (ty := .boolean) hx hb hts in_B ⟨ty_B_ok, nm_B_ok⟩ hown hK hZ (by decide) rfl rfl 0 (by decide) (hts _ k1_202) (fun _ h9 => h9) rfl (by decide +kernel) rfl rfl rfl dG_forget_13 eM_2 (fun H locs hZ => ?_)
  refine lv_aload_n hx hb dG_forget_16 rfl (lv_at hl 0 rfl) ?_
  refine m_getR (k' := 71) hx hb hts in_G hown hK hZ (by decide) rfl rfl 6 (by decide) (hts _ k2_14) (fun _ h9 => h9) rfl dG_forget_17 ?_
  obtain ⟨M_3, hc, hf⟩ := m_b1x hf
  refine m_cv (va_runV (As := []) (rest := []) ⟨hx, hb, hml, hown, hts⟩ (cL_clear l D ad c3 M_2 hc) (cwV 0 hts (gV k2_51 k2_52 k2_53 k1_7 kc_L_clear) rfl rfl rfl (by decide +kernel) ⟨by decide, by decide⟩) (m_preV hK hN hZ (by decide) rfl rfl) rfl rfl hl.1 rfl (lv_room (Nat.le_of_ble_eq_true rfl)) dG_forget_20 ⟨Nat.zero_le _, Nat.zero_le _⟩) hZ (fun H locs hZ => ?_)
  refine lv_aload_n hx hb dG_forget_23 rfl (lv_at hl 0 rfl) ?_
  refine lv_iconst (v := 0) hx hb dG_forget_24 (by decide) ?_
  obtain ⟨M_4, eM_4, hf⟩ := m_lx hf
  refine m_put (ty := .boolean) hx hb hts in_G ⟨ty_G_ok, nm_G_ok⟩ hown hK hZ (by decide) rfl rfl 7 (by decide) (hts _ k2_15) (fun _ h9 => h9) rfl (by decide +kernel) rfl rfl rfl dG_forget_25 eM_4 (fun H locs hZ => ?_)
  exact hret _ _ _ _ _ hf hZ dG_forget_28
abbrev rmG_sieve : Room := { frames := 2, cells := 0, slots := 0, locals := 41 }
set_option maxHeartbeats 4000000 in
set_option maxRecDepth 100000 in
theorem cG_sieve (l : Launch) (D : va_G) (ad : Nat → Nat) (c3 : ClassId × ClassId × ClassId) (M : mMem) (x1 : Int32) (x2 : Int32)  {r : Int32} {M' : mMem} (hf : fG_sieve M x1 x2 = some (r, M')) : kIX l D ad c3 yG_sieve wG_sieve rmG_sieve [.ref (ad 0), .int x1, .int x2] M r M' := by
  refine m_oI (cc := bG_sieve) (maxL := 4) (ty := .int) (own := R_G) nestX (by decide) rfl (Nat.le_of_ble_eq_true rfl) rfl (fun p e s m args below meth c Q hx hb hml hown hts hK hN hret ls hZ hl => ?_)
  have hl : lv_has ls 4 [(0, .ref (ad 0)), (1, .int x1), (2, .int x2)] := hl
  unfold fG_sieve at hf
  refine lv_iload_n hx hb dG_sieve_0 rfl (lv_at hl 1 rfl) ?_
  refine lv_iload_n hx hb dG_sieve_1 rfl (lv_at hl 2 rfl) ?_
  obtain ⟨r_1, hc, hf⟩ := m_b1x hf
  refine m_ci (va_runS (As := [.int x1, .int x2]) (rest := []) ⟨hx, hb, hml, hown, hts⟩ (cG_mayBeBand l D ad c3 M x1 x2 hc) (cwS 2 hts (gS9 k2_40 k2_41 k1_1 kc_G_mayBeBand) rfl rfl rfl (by decide +kernel) ⟨by decide, by decide⟩) (m_preS hK hN hZ) rfl rfl hl.1 rfl (lv_room (Nat.le_of_ble_eq_true rfl)) dG_sieve_2 ⟨Nat.zero_le _, Nat.zero_le _⟩) hZ (fun H locs hZ => ?_)
  refine lv_if_eq (tgt := 20) hx hb dG_sieve_5 (by decide) (fun c_2 => ?_) (fun c_2 => ?_)
  · have hf := m_t hf c_2
    refine lv_iconst (v := (-1)) hx hb dG_sieve_20 (by decide) ?_
    exact hret _ _ _ _ _ _ hf rfl hZ dG_sieve_21
  · have hf := m_f hf c_2
    refine lv_aload_n hx hb dG_sieve_8 rfl (lv_at hl 0 rfl) ?_
    refine m_getR (k' := 1) hx hb hts in_G hown hK hZ (by decide) rfl rfl 0 (by decide) (hts _ k2_8) (fun _ h9 => h9) rfl dG_sieve_9 ?_
    refine m_get hx hb hts in_P hown hK hZ (by decide) rfl rfl 0 (by decide) (hts _ k1_28) (fun _ h9 => h9) rfl dG_sieve_12 ?_
    refine lv_bipush (v := 6) hx hb dG_sieve_15 (by decide) ?_
    refine lv_icmp_lt (tgt := 22) hx hb dG_sieve_17 (by decide) (fun c_3 => ?_) (fun c_3 => ?_)
    · have hf := m_t hf c_3
      refine lv_aload_n hx hb dG_sieve_22 rfl (lv_at hl 0 rfl) ?_
      refine m_getR (k' := 1) hx hb hts in_G hown hK hZ (by decide) rfl rfl 0 (by decide) (hts _ k2_8) (fun _ h9 => h9) rfl dG_sieve_23 ?_
      refine m_get hx hb hts in_P hown hK hZ (by decide) rfl rfl 0 (by decide) (hts _ k1_28) (fun _ h9 => h9) rfl dG_sieve_26 ?_
      obtain ⟨x3_4, ex3_4, hf⟩ := m_lx hf
      refine m_topi ex3_4 ?_
      refine lv_istore_n (lv' := [(3, .int x3_4), (0, .ref (ad 0)), (1, .int x1), (2, .int x2)]) hx hb dG_sieve_29 rfl hl (by decide) rfl (fun ls hl => ?_)
      refine lv_aload_n hx hb dG_sieve_30 rfl (lv_at hl 1 rfl) ?_
      refine m_getR (k' := 1) hx hb hts in_G hown hK hZ (by decide) rfl rfl 0 (by decide) (hts _ k2_8) (fun _ h9 => h9) rfl dG_sieve_31 ?_
      refine lv_dup hx hb dG_sieve_34 rfl ?_
      refine m_get hx hb hts in_P hown hK hZ (by decide) rfl rfl 0 (by decide) (hts _ k1_28) (fun _ h9 => h9) rfl dG_sieve_35 ?_
      refine lv_iconst (v := 1) hx hb dG_sieve_38 (by decide) ?_
      refine lv_iadd hx hb dG_sieve_39 ?_
      obtain ⟨M_5, eM_5, hf⟩ := m_lx hf
      refine m_put (ty := .int) hx hb hts in_P ⟨ty_P_ok, nm_P_ok⟩ hown hK hZ (by decide) rfl rfl 0 (by decide) (hts _ k1_28) (fun _ h9 => h9) rfl (by decide +kernel) rfl rfl rfl dG_sieve_40 eM_5 (fun H locs hZ => ?_)
      refine lv_aload_n hx hb dG_sieve_43 rfl (lv_at hl 1 rfl) ?_
      refine m_getR (k' := 1) hx hb hts in_G hown hK hZ (by decide) rfl rfl 0 (by decide) (hts _ k2_8) (fun _ h9 => h9) rfl dG_sieve_44 ?_
      refine lv_iload_n hx hb dG_sieve_47 rfl (lv_at hl 0 rfl) ?_
      refine lv_iload_n hx hb dG_sieve_48 rfl (lv_at hl 2 rfl) ?_
      refine lv_iload_n hx hb dG_sieve_49 rfl (lv_at hl 3 rfl) ?_
      obtain ⟨M_6, hc, hf⟩ := m_b1x hf
      refine m_cv (va_runV (As := [.int x3_4, .int x1, .int x2]) (rest := []) ⟨hx, hb, hml, hown, hts⟩ (cP_setBand l D ad c3 M_5 x3_4 x1 x2 hc) (cwV 3 hts (gV k2_43 k2_44 k2_45 k1_2 kc_P_setBand) rfl rfl rfl (by decide +kernel) ⟨by decide, by decide⟩) (m_preV hK hN hZ (by decide) rfl rfl) rfl rfl hl.1 rfl (lv_room (Nat.le_of_ble_eq_true rfl)) dG_sieve_50 ⟨Nat.zero_le _, Nat.zero_le _⟩) hZ (fun H locs hZ => ?_)
      refine lv_aload_n hx hb dG_sieve_53 rfl (lv_at hl 1 rfl) ?_
      obtain ⟨M_7, hc, hf⟩ := m_b1x hf
      refine m_cv (va_runV (As := []) (rest := []) ⟨hx, hb, hml, hown, hts⟩ (cG_forget l D ad c3 M_6 hc) (cwV 0 hts (gV k2_47 k2_49 kp_0 k1_1 kc_G_forget) rfl rfl rfl (by decide +kernel) ⟨by decide, by decide⟩) (m_preV hK hN hZ (by decide) rfl rfl) rfl rfl hl.1 rfl (lv_room (Nat.le_of_ble_eq_true rfl)) dG_sieve_54 ⟨Nat.zero_le _, Nat.zero_le _⟩) hZ (fun H locs hZ => ?_)
      refine lv_iload_n hx hb dG_sieve_57 rfl (lv_at hl 0 rfl) ?_
      exact hret _ _ _ _ _ _ hf rfl hZ dG_sieve_58
    · have hf := m_f hf c_3
      refine lv_iconst (v := (-1)) hx hb dG_sieve_20 (by decide) ?_
      exact hret _ _ _ _ _ _ hf rfl hZ dG_sieve_21
abbrev rmP_hasSieve : Room := { frames := 0, cells := 0, slots := 0, locals := 0 }
set_option maxHeartbeats 4000000 in
set_option maxRecDepth 100000 in
theorem cP_hasSieve (l : Launch) (D : va_G) (ad : Nat → Nat) (c3 : ClassId × ClassId × ClassId) (M : mMem) (x1 : Int32)  {r : Int32} (hf : fP_hasSieve M x1 = some r) : kPX l D ad c3 yP_hasSieve wP_hasSieve rmP_hasSieve [.ref (ad 1), .int x1] M r := by
  refine m_oP (cc := bP_hasSieve) (maxL := 2) (ty := .boolean) (own := R_P) nestX (by decide) rfl (Nat.le_of_ble_eq_true rfl) rfl (fun p e s m args below meth c Q hx hb hml hown hts hK hN hret ls hZ hl => ?_)
  have hl : lv_has ls 2 [(0, .ref (ad 1)), (1, .int x1)] := hl
  unfold fP_hasSieve at hf
  refine lv_iconst (v := 0) hx hb dP_hasSieve_0 (by decide) ?_
  refine lv_iload_n hx hb dP_hasSieve_1 rfl (lv_at hl 1 rfl) ?_
  refine lv_icmp_gt (tgt := 17) hx hb dP_hasSieve_2 (by decide) (fun c_1 => ?_) (fun c_1 => ?_)
  · have hf := m_t hf c_1
    refine lv_iconst (v := 0) hx hb dP_hasSieve_17 (by decide) ?_
    exact hret _ _ _ _ _ (fun _ _ => 0) hf rfl hZ dP_hasSieve_18
  · have hf := m_f hf c_1
    refine lv_iload_n hx hb dP_hasSieve_5 rfl (lv_at hl 1 rfl) ?_
    refine lv_aload_n hx hb dP_hasSieve_6 rfl (lv_at hl 0 rfl) ?_
    refine m_get hx hb hts in_P hown hK hZ (by decide) rfl rfl 0 (by decide) (hts _ k1_26) (fun _ h9 => h9) rfl dP_hasSieve_7 ?_
    refine lv_icmp_ge (tgt := 17) hx hb dP_hasSieve_10 (by decide) (fun c_2 => ?_) (fun c_2 => ?_)
    · have hf := m_t hf c_2
      refine lv_iconst (v := 0) hx hb dP_hasSieve_17 (by decide) ?_
      exact hret _ _ _ _ _ (fun _ _ => 0) hf rfl hZ dP_hasSieve_18
    · have hf := m_f hf c_2
      refine lv_iconst (v := 1) hx hb dP_hasSieve_13 (by decide) ?_
      refine lv_goto (tgt := 18) hx hb dP_hasSieve_14 (by decide) ?_
      exact hret _ _ _ _ _ (fun _ _ => 0) hf rfl hZ dP_hasSieve_18
abbrev rmG_band : Room := { frames := 2, cells := 0, slots := 0, locals := 41 }
set_option maxHeartbeats 4000000 in
set_option maxRecDepth 100000 in
theorem cG_band (l : Launch) (D : va_G) (ad : Nat → Nat) (c3 : ClassId × ClassId × ClassId) (M : mMem) (x1 : Int32) (x2 : Int32) (x3 : Int32)  {r : Int32} {M' : mMem} (hf : fG_band M x1 x2 x3 = some (r, M')) : kIX l D ad c3 yG_band wG_band rmG_band [.ref (ad 0), .int x1, .int x2, .int x3] M r M' := by
  refine m_oI (cc := bG_band) (maxL := 4) (ty := .boolean) (own := R_G) nestX (by decide) rfl (Nat.le_of_ble_eq_true rfl) rfl (fun p e s m args below meth c Q hx hb hml hown hts hK hN hret ls hZ hl => ?_)
  have hl : lv_has ls 4 [(0, .ref (ad 0)), (1, .int x1), (2, .int x2), (3, .int x3)] := hl
  unfold fG_band at hf
  refine lv_aload_n hx hb dG_band_0 rfl (lv_at hl 0 rfl) ?_
  refine m_getR (k' := 1) hx hb hts in_G hown hK hZ (by decide) rfl rfl 0 (by decide) (hts _ k2_8) (fun _ h9 => h9) rfl dG_band_1 ?_
  refine lv_iload_n hx hb dG_band_4 rfl (lv_at hl 1 rfl) ?_
  obtain ⟨r_1, hc, hf⟩ := m_b1x hf
  refine m_ci (va_runV (As := [.int x1]) (rest := []) ⟨hx, hb, hml, hown, hts⟩ (cP_hasSieve l D ad c3 M x1 hc) (cwV 1 hts (gV k2_59 k2_60 k2_61 k1_2 kc_P_hasSieve) rfl rfl rfl (by decide +kernel) ⟨by decide, by decide⟩) (m_preV hK hN hZ (by decide) rfl rfl) rfl rfl hl.1 rfl (lv_room (Nat.le_of_ble_eq_true rfl)) dG_band_5 ⟨Nat.zero_le _, Nat.zero_le _⟩) hZ (fun H locs hZ => ?_)
  refine lv_if_eq (tgt := 19) hx hb dG_band_8 (by decide) (fun c_2 => ?_) (fun c_2 => ?_)
  · have hf := m_t hf c_2
    refine lv_iconst (v := 0) hx hb dG_band_19 (by decide) ?_
    exact hret _ _ _ _ _ _ hf rfl hZ dG_band_20
  · have hf := m_f hf c_2
    refine lv_iload_n hx hb dG_band_11 rfl (lv_at hl 2 rfl) ?_
    refine lv_iload_n hx hb dG_band_12 rfl (lv_at hl 3 rfl) ?_
    obtain ⟨r_3, hc, hf⟩ := m_b1x hf
    refine m_ci (va_runS (As := [.int x2, .int x3]) (rest := []) ⟨hx, hb, hml, hown, hts⟩ (cG_mayBeBand l D ad c3 M x2 x3 hc) (cwS 2 hts (gS9 k2_40 k2_41 k1_1 kc_G_mayBeBand) rfl rfl rfl (by decide +kernel) ⟨by decide, by decide⟩) (m_preS hK hN hZ) rfl rfl hl.1 rfl (lv_room (Nat.le_of_ble_eq_true rfl)) dG_band_13 ⟨Nat.zero_le _, Nat.zero_le _⟩) hZ (fun H locs hZ => ?_)
    refine lv_if_ne (tgt := 21) hx hb dG_band_16 (by decide) (fun c_4 => ?_) (fun c_4 => ?_)
    · have hf := m_f hf c_4
      refine lv_aload_n hx hb dG_band_21 rfl (lv_at hl 0 rfl) ?_
      refine m_getR (k' := 1) hx hb hts in_G hown hK hZ (by decide) rfl rfl 0 (by decide) (hts _ k2_8) (fun _ h9 => h9) rfl dG_band_22 ?_
      refine lv_iload_n hx hb dG_band_25 rfl (lv_at hl 1 rfl) ?_
      refine lv_iload_n hx hb dG_band_26 rfl (lv_at hl 2 rfl) ?_
      refine lv_iload_n hx hb dG_band_27 rfl (lv_at hl 3 rfl) ?_
      obtain ⟨M_5, hc, hf⟩ := m_b1x hf
      refine m_cv (va_runV (As := [.int x1, .int x2, .int x3]) (rest := []) ⟨hx, hb, hml, hown, hts⟩ (cP_setBand l D ad c3 M x1 x2 x3 hc) (cwV 3 hts (gV k2_43 k2_44 k2_45 k1_2 kc_P_setBand) rfl rfl rfl (by decide +kernel) ⟨by decide, by decide⟩) (m_preV hK hN hZ (by decide) rfl rfl) rfl rfl hl.1 rfl (lv_room (Nat.le_of_ble_eq_true rfl)) dG_band_28 ⟨Nat.zero_le _, Nat.zero_le _⟩) hZ (fun H locs hZ => ?_)
      refine lv_aload_n hx hb dG_band_31 rfl (lv_at hl 0 rfl) ?_
      obtain ⟨M_6, hc, hf⟩ := m_b1x hf
      refine m_cv (va_runV (As := []) (rest := []) ⟨hx, hb, hml, hown, hts⟩ (cG_forget l D ad c3 M_5 hc) (cwV 0 hts (gV k2_47 k2_49 kp_0 k1_1 kc_G_forget) rfl rfl rfl (by decide +kernel) ⟨by decide, by decide⟩) (m_preV hK hN hZ (by decide) rfl rfl) rfl rfl hl.1 rfl (lv_room (Nat.le_of_ble_eq_true rfl)) dG_band_32 ⟨Nat.zero_le _, Nat.zero_le _⟩) hZ (fun H locs hZ => ?_)
      refine lv_iconst (v := 1) hx hb dG_band_35 (by decide) ?_
      exact hret _ _ _ _ _ _ hf rfl hZ dG_band_36
    · have hf := m_t hf c_4
      refine lv_iconst (v := 0) hx hb dG_band_19 (by decide) ?_
      exact hret _ _ _ _ _ _ hf rfl hZ dG_band_20
abbrev rmG_within : Room := { frames := 0, cells := 0, slots := 0, locals := 0 }
set_option maxHeartbeats 4000000 in
set_option maxRecDepth 100000 in
theorem cG_within (l : Launch) (D : va_G) (ad : Nat → Nat) (c3 : ClassId × ClassId × ClassId) (M : mMem) (x0 : Int32) (x1 : Int32) (x2 : Int32)  {r : Int32} (hf : fG_within M x0 x1 x2 = some r) : kPX l D ad c3 yG_within wG_within rmG_within [.int x0, .int x1, .int x2] M r := by
  refine m_oP (cc := bG_within) (maxL := 3) (ty := .boolean) (own := R_G) nestX (by decide) rfl (Nat.le_of_ble_eq_true rfl) rfl (fun p e s m args below meth c Q hx hb hml hown hts hK hN hret ls hZ hl => ?_)
  have hl : lv_has ls 3 [(0, .int x0), (1, .int x1), (2, .int x2)] := hl
  unfold fG_within at hf
  refine lv_iload_n hx hb dG_within_0 rfl (lv_at hl 1 rfl) ?_
  refine lv_iload_n hx hb dG_within_1 rfl (lv_at hl 0 rfl) ?_
  refine lv_icmp_gt (tgt := 14) hx hb dG_within_2 (by decide) (fun c_1 => ?_) (fun c_1 => ?_)
  · have hf := m_t hf c_1
    refine lv_iconst (v := 0) hx hb dG_within_14 (by decide) ?_
    exact hret _ _ _ _ _ (fun _ _ => 0) hf rfl hZ dG_within_15
  · have hf := m_f hf c_1
    refine lv_iload_n hx hb dG_within_5 rfl (lv_at hl 0 rfl) ?_
    refine lv_iload_n hx hb dG_within_6 rfl (lv_at hl 2 rfl) ?_
    refine lv_icmp_gt (tgt := 14) hx hb dG_within_7 (by decide) (fun c_2 => ?_) (fun c_2 => ?_)
    · have hf := m_t hf c_2
      refine lv_iconst (v := 0) hx hb dG_within_14 (by decide) ?_
      exact hret _ _ _ _ _ (fun _ _ => 0) hf rfl hZ dG_within_15
    · have hf := m_f hf c_2
      refine lv_iconst (v := 1) hx hb dG_within_10 (by decide) ?_
      refine lv_goto (tgt := 15) hx hb dG_within_11 (by decide) ?_
      exact hret _ _ _ _ _ (fun _ _ => 0) hf rfl hZ dG_within_15
abbrev rmP_setStock : Room := { frames := 0, cells := 0, slots := 0, locals := 0 }
set_option maxHeartbeats 4000000 in
set_option maxRecDepth 100000 in
theorem cP_setStock (l : Launch) (D : va_G) (ad : Nat → Nat) (c3 : ClassId × ClassId × ClassId) (M : mMem) (x1 : Int32) (x2 : Int32) (x3 : Int32) (x4 : Int32) (x5 : Int32)  {M' : mMem} (hf : fP_setStock M x1 x2 x3 x4 x5 = some M') : kVX l D ad c3 yP_setStock wP_setStock rmP_setStock [.ref (ad 1), .int x1, .int x2, .int x3, .int x4, .int x5] M M' := by
  refine m_oV (cc := bP_setStock) (maxL := 6) (own := R_P) nestX (by decide) rfl (Nat.le_of_ble_eq_true rfl) rfl (fun p e s m args below meth c Q hx hb hml hown hts hK hN hret ls hZ hl => ?_)
  have hl : lv_has ls 6 [(0, .ref (ad 1)), (1, .int x1), (2, .int x2), (3, .int x3), (4, .int x4), (5, .int x5)] := hl
  unfold fP_setStock at hf
  refine lv_aload_n hx hb dP_setStock_0 rfl (lv_at hl 0 rfl) ?_
  refine m_getR (k' := 4) hx hb hts in_P hown hK hZ (by decide) rfl rfl 6 (by decide) (hts _ k1_45) (fun _ h9 => h9) rfl dP_setStock_1 ?_
  refine lv_iload_n hx hb dP_setStock_4 rfl (lv_at hl 1 rfl) ?_
  refine lv_iload_n hx hb dP_setStock_5 rfl (lv_at hl 2 rfl) ?_
  obtain ⟨h_inb_x1_4, hf⟩ := m_gx hf
  obtain ⟨M_1, eM_1, hf⟩ := m_lx hf
  refine m_iast hx hb hK hZ (by decide) rfl h_inb_x1_4 dP_setStock_6 eM_1 (fun H locs hZ => ?_)
  refine lv_aload_n hx hb dP_setStock_7 rfl (lv_at hl 0 rfl) ?_
  refine m_getR (k' := 5) hx hb hts in_P hown hK hZ (by decide) rfl rfl 7 (by decide) (hts _ k1_47) (fun _ h9 => h9) rfl dP_setStock_8 ?_
  refine lv_iload_n hx hb dP_setStock_11 rfl (lv_at hl 1 rfl) ?_
  refine lv_iload_n hx hb dP_setStock_12 rfl (lv_at hl 3 rfl) ?_
  obtain ⟨M_2, eM_2, hf⟩ := m_lx hf
  refine m_iast hx hb hK hZ (by decide) rfl h_inb_x1_4 dP_setStock_13 eM_2 (fun H locs hZ => ?_)
  refine lv_aload_n hx hb dP_setStock_14 rfl (lv_at hl 0 rfl) ?_
  refine m_getR (k' := 6) hx hb hts in_P hown hK hZ (by decide) rfl rfl 8 (by decide) (hts _ k1_49) (fun _ h9 => h9) rfl dP_setStock_15 ?_
  refine lv_iload_n hx hb dP_setStock_18 rfl (lv_at hl 1 rfl) ?_
  refine lv_iload hx hb dP_setStock_19 (lv_at hl 4 rfl) ?_
  obtain ⟨M_3, eM_3, hf⟩ := m_lx hf
  refine m_iast hx hb hK hZ (by decide) rfl h_inb_x1_4 dP_setStock_21 eM_3 (fun H locs hZ => ?_)
  refine lv_aload_n hx hb dP_setStock_22 rfl (lv_at hl 0 rfl) ?_
  refine m_getR (k' := 7) hx hb hts in_P hown hK hZ (by decide) rfl rfl 9 (by decide) (hts _ k1_51) (fun _ h9 => h9) rfl dP_setStock_23 ?_
  refine lv_iload_n hx hb dP_setStock_26 rfl (lv_at hl 1 rfl) ?_
  refine lv_iload hx hb dP_setStock_27 (lv_at hl 5 rfl) ?_
  obtain ⟨M_4, eM_4, hf⟩ := m_lx hf
  refine m_zast hx hb hK hZ (by decide) rfl h_inb_x1_4 dP_setStock_29 eM_4 rfl (fun H locs hZ => ?_)
  exact hret _ _ _ _ _ hf hZ dP_setStock_30
end
section
abbrev rmG_stock : Room := { frames := 2, cells := 0, slots := 0, locals := 41 }
set_option maxHeartbeats 4000000 in
set_option maxRecDepth 100000 in
theorem cG_stock (l : Launch) (D : va_G) (ad : Nat → Nat) (c3 : ClassId × ClassId × ClassId) (M : mMem) (x1 : Int32) (x2 : Int32) (x3 : Int32) (x4 : Int32)  {r : Int32} {M' : mMem} (hf : fG_stock M x1 x2 x3 x4 = some (r, M')) : kIX l D ad c3 yG_stock wG_stock rmG_stock [.ref (ad 0), .int x1, .int x2, .int x3, .int x4] M r M' := by
  refine m_oI (cc := bG_stock) (maxL := 7) (ty := .int) (own := R_G) nestX (by decide) rfl (Nat.le_of_ble_eq_true rfl) rfl (fun p e s m args below meth c Q hx hb hml hown hts hK hN hret ls hZ hl => ?_)
  have hl : lv_has ls 7 [(0, .ref (ad 0)), (1, .int x1), (2, .int x2), (3, .int x3), (4, .int x4)] := hl
  unfold fG_stock at hf
  have B21 : ∀ (M : mMem) (s0 : Int32), fG_stock_B21 x1 x2 x3 x4 M s0 = some (r, M') → ∀ (H : Heap) (locs : List Loc) (ls : Array Slot), zX D ad c3 s H locs M → lv_has ls 7 [(0, .ref (ad 0)), (1, .int x1), (2, .int x2), (3, .int x3), (4, .int x4)] → W p l e rmG_stock s m args below meth c H locs 0 0 Q (F0 m 21 ls [.int s0]) := by
    intro M s0 hf H locs ls hZ hl
    unfold fG_stock_B21 at hf
    refine lv_istore (lv' := [(5, .int s0), (0, .ref (ad 0)), (1, .int x1), (2, .int x2), (3, .int x3), (4, .int x4)]) hx hb dG_stock_21 hl (by decide) rfl (fun ls hl => ?_)
    refine lv_iload_n hx hb dG_stock_23 rfl (lv_at hl 2 rfl) ?_
    refine lv_iconst (v := 0) hx hb dG_stock_24 (by decide) ?_
    refine lv_ldc (v := 100000) hx hb hown (hts _ k2_67) dG_stock_25 ?_
    obtain ⟨r_2, hc, hf⟩ := m_b1x hf
    refine m_ci (va_runS (As := [.int x1, .int 0, .int 100000]) (rest := []) ⟨hx, hb, hml, hown, hts⟩ (cG_within l D ad c3 M x1 0 100000 hc) (cwS 3 hts (gS9 k2_68 k2_69 k1_1 kc_G_within) rfl rfl rfl (by decide +kernel) ⟨by decide, by decide⟩) (m_preS hK hN hZ) rfl rfl hl.1 rfl (lv_room (Nat.le_of_ble_eq_true rfl)) dG_stock_27 ⟨Nat.zero_le _, Nat.zero_le _⟩) hZ (fun H locs hZ => ?_)
    refine lv_if_eq (tgt := 49) hx hb dG_stock_30 (by decide) (fun c_3 => ?_) (fun c_3 => ?_)
    · have hf := m_t hf c_3
      refine lv_iconst (v := (-1)) hx hb dG_stock_49 (by decide) ?_
      exact hret _ _ _ _ _ _ hf rfl hZ dG_stock_50
    · have hf := m_f hf c_3
      refine lv_iload hx hb dG_stock_33 (lv_at hl 0 rfl) ?_
      refine lv_if_eq (tgt := 49) hx hb dG_stock_35 (by decide) (fun c_4 => ?_) (fun c_4 => ?_)
      · have hf := m_t hf c_4
        refine lv_iconst (v := (-1)) hx hb dG_stock_49 (by decide) ?_
        exact hret _ _ _ _ _ _ hf rfl hZ dG_stock_50
      · have hf := m_f hf c_4
        refine lv_aload_n hx hb dG_stock_38 rfl (lv_at hl 1 rfl) ?_
        refine m_getR (k' := 1) hx hb hts in_G hown hK hZ (by decide) rfl rfl 0 (by decide) (hts _ k2_8) (fun _ h9 => h9) rfl dG_stock_39 ?_
        refine m_get hx hb hts in_P hown hK hZ (by decide) rfl rfl 1 (by decide) (hts _ k1_31) (fun _ h9 => h9) rfl dG_stock_42 ?_
        refine lv_iconst (v := 4) hx hb dG_stock_45 (by decide) ?_
        refine lv_icmp_lt (tgt := 51) hx hb dG_stock_46 (by decide) (fun c_5 => ?_) (fun c_5 => ?_)
        · have hf := m_t hf c_5
          refine lv_aload_n hx hb dG_stock_51 rfl (lv_at hl 1 rfl) ?_
          refine m_getR (k' := 1) hx hb hts in_G hown hK hZ (by decide) rfl rfl 0 (by decide) (hts _ k2_8) (fun _ h9 => h9) rfl dG_stock_52 ?_
          refine m_get hx hb hts in_P hown hK hZ (by decide) rfl rfl 1 (by decide) (hts _ k1_31) (fun _ h9 => h9) rfl dG_stock_55 ?_
          obtain ⟨x6_6, ex6_6, hf⟩ := m_lx hf
          refine m_topi ex6_6 ?_
          refine lv_istore (lv' := [(6, .int x6_6), (5, .int s0), (0, .ref (ad 0)), (1, .int x1), (2, .int x2), (3, .int x3), (4, .int x4)]) hx hb dG_stock_58 hl (by decide) rfl (fun ls hl => ?_)
          refine lv_aload_n hx hb dG_stock_60 rfl (lv_at hl 2 rfl) ?_
          refine m_getR (k' := 1) hx hb hts in_G hown hK hZ (by decide) rfl rfl 0 (by decide) (hts _ k2_8) (fun _ h9 => h9) rfl dG_stock_61 ?_
          refine lv_dup hx hb dG_stock_64 rfl ?_
          refine m_get hx hb hts in_P hown hK hZ (by decide) rfl rfl 1 (by decide) (hts _ k1_31) (fun _ h9 => h9) rfl dG_stock_65 ?_
          refine lv_iconst (v := 1) hx hb dG_stock_68 (by decide) ?_
          refine lv_iadd hx hb dG_stock_69 ?_
          obtain ⟨M_7, eM_7, hf⟩ := m_lx hf
          refine m_put (ty := .int) hx hb hts in_P ⟨ty_P_ok, nm_P_ok⟩ hown hK hZ (by decide) rfl rfl 1 (by decide) (hts _ k1_31) (fun _ h9 => h9) rfl (by decide +kernel) rfl rfl rfl dG_stock_70 eM_7 (fun H locs hZ => ?_)
          refine lv_aload_n hx hb dG_stock_73 rfl (lv_at hl 2 rfl) ?_
          refine m_getR (k' := 1) hx hb hts in_G hown hK hZ (by decide) rfl rfl 0 (by decide) (hts _ k2_8) (fun _ h9 => h9) rfl dG_stock_74 ?_
          refine lv_iload hx hb dG_stock_77 (lv_at hl 0 rfl) ?_
          refine lv_iload_n hx hb dG_stock_79 rfl (lv_at hl 3 rfl) ?_
          refine lv_iload_n hx hb dG_stock_80 rfl (lv_at hl 4 rfl) ?_
          refine lv_iload_n hx hb dG_stock_81 rfl (lv_at hl 5 rfl) ?_
          refine lv_iload hx hb dG_stock_82 (lv_at hl 6 rfl) ?_
          obtain ⟨M_8, hc, hf⟩ := m_b1x hf
          refine m_cv (va_runV (As := [.int x6_6, .int x1, .int x2, .int x3, .int x4]) (rest := []) ⟨hx, hb, hml, hown, hts⟩ (cP_setStock l D ad c3 M_7 x6_6 x1 x2 x3 x4 hc) (cwV 5 hts (gV k2_71 k2_72 k2_73 k1_2 kc_P_setStock) rfl rfl rfl (by decide +kernel) ⟨by decide, by decide⟩) (m_preV hK hN hZ (by decide) rfl rfl) rfl rfl hl.1 rfl (lv_room (Nat.le_of_ble_eq_true rfl)) dG_stock_84 ⟨Nat.zero_le _, Nat.zero_le _⟩) hZ (fun H locs hZ => ?_)
          refine lv_aload_n hx hb dG_stock_87 rfl (lv_at hl 2 rfl) ?_
          obtain ⟨M_9, hc, hf⟩ := m_b1x hf
          refine m_cv (va_runV (As := []) (rest := []) ⟨hx, hb, hml, hown, hts⟩ (cG_forget l D ad c3 M_8 hc) (cwV 0 hts (gV k2_47 k2_49 kp_0 k1_1 kc_G_forget) rfl rfl rfl (by decide +kernel) ⟨by decide, by decide⟩) (m_preV hK hN hZ (by decide) rfl rfl) rfl rfl hl.1 rfl (lv_room (Nat.le_of_ble_eq_true rfl)) dG_stock_88 ⟨Nat.zero_le _, Nat.zero_le _⟩) hZ (fun H locs hZ => ?_)
          refine lv_iload hx hb dG_stock_91 (lv_at hl 0 rfl) ?_
          exact hret _ _ _ _ _ _ hf rfl hZ dG_stock_93
        · have hf := m_f hf c_5
          refine lv_iconst (v := (-1)) hx hb dG_stock_49 (by decide) ?_
          exact hret _ _ _ _ _ _ hf rfl hZ dG_stock_50
  have B20 : ∀ (M : mMem), fG_stock_B20 x1 x2 x3 x4 M = some (r, M') → ∀ (H : Heap) (locs : List Loc) (ls : Array Slot), zX D ad c3 s H locs M → lv_has ls 7 [(0, .ref (ad 0)), (1, .int x1), (2, .int x2), (3, .int x3), (4, .int x4)] → W p l e rmG_stock s m args below meth c H locs 0 0 Q (F0 m 20 ls []) := by
    intro M hf H locs ls hZ hl
    unfold fG_stock_B20 at hf
    refine lv_iconst (v := 0) hx hb dG_stock_20 (by decide) ?_
    exact B21 M 0 hf _ _ _ hZ (lv_sub hl [0, 1, 2, 3, 4] rfl)
  refine lv_iconst (v := 0) hx hb dG_stock_0 (by decide) ?_
  refine lv_iload_n hx hb dG_stock_1 rfl (lv_at hl 2 rfl) ?_
  refine lv_icmp_gt (tgt := 20) hx hb dG_stock_2 (by decide) (fun c_1 => ?_) (fun c_1 => ?_)
  · have hf := m_t hf c_1
    exact B20 M hf _ _ _ hZ (lv_sub hl [0, 1, 2, 3, 4] rfl)
  · have hf := m_f hf c_1
    refine lv_iload_n hx hb dG_stock_5 rfl (lv_at hl 2 rfl) ?_
    refine lv_iload_n hx hb dG_stock_6 rfl (lv_at hl 3 rfl) ?_
    refine lv_icmp_gt (tgt := 20) hx hb dG_stock_7 (by decide) (fun c_10 => ?_) (fun c_10 => ?_)
    · have hf := m_t hf c_10
      exact B20 M hf _ _ _ hZ (lv_sub hl [0, 1, 2, 3, 4] rfl)
    · have hf := m_f hf c_10
      refine lv_iload_n hx hb dG_stock_10 rfl (lv_at hl 3 rfl) ?_
      refine lv_bipush (v := 100) hx hb dG_stock_11 (by decide) ?_
      refine lv_icmp_gt (tgt := 20) hx hb dG_stock_13 (by decide) (fun c_11 => ?_) (fun c_11 => ?_)
      · have hf := m_t hf c_11
        exact B20 M hf _ _ _ hZ (lv_sub hl [0, 1, 2, 3, 4] rfl)
      · have hf := m_f hf c_11
        refine lv_iconst (v := 1) hx hb dG_stock_16 (by decide) ?_
        refine lv_goto (tgt := 21) hx hb dG_stock_17 (by decide) ?_
        exact B21 M 1 hf _ _ _ hZ (lv_sub hl [0, 1, 2, 3, 4] rfl)
abbrev rmP_hasStock : Room := { frames := 0, cells := 0, slots := 0, locals := 0 }
set_option maxHeartbeats 4000000 in
set_option maxRecDepth 100000 in
theorem cP_hasStock (l : Launch) (D : va_G) (ad : Nat → Nat) (c3 : ClassId × ClassId × ClassId) (M : mMem) (x1 : Int32)  {r : Int32} (hf : fP_hasStock M x1 = some r) : kPX l D ad c3 yP_hasStock wP_hasStock rmP_hasStock [.ref (ad 1), .int x1] M r := by
  refine m_oP (cc := bP_hasStock) (maxL := 2) (ty := .boolean) (own := R_P) nestX (by decide) rfl (Nat.le_of_ble_eq_true rfl) rfl (fun p e s m args below meth c Q hx hb hml hown hts hK hN hret ls hZ hl => ?_)
  have hl : lv_has ls 2 [(0, .ref (ad 1)), (1, .int x1)] := hl
  unfold fP_hasStock at hf
  refine lv_iconst (v := 0) hx hb dP_hasStock_0 (by decide) ?_
  refine lv_iload_n hx hb dP_hasStock_1 rfl (lv_at hl 1 rfl) ?_
  refine lv_icmp_gt (tgt := 17) hx hb dP_hasStock_2 (by decide) (fun c_1 => ?_) (fun c_1 => ?_)
  · have hf := m_t hf c_1
    refine lv_iconst (v := 0) hx hb dP_hasStock_17 (by decide) ?_
    exact hret _ _ _ _ _ (fun _ _ => 0) hf rfl hZ dP_hasStock_18
  · have hf := m_f hf c_1
    refine lv_iload_n hx hb dP_hasStock_5 rfl (lv_at hl 1 rfl) ?_
    refine lv_aload_n hx hb dP_hasStock_6 rfl (lv_at hl 0 rfl) ?_
    refine m_get hx hb hts in_P hown hK hZ (by decide) rfl rfl 1 (by decide) (hts _ k1_29) (fun _ h9 => h9) rfl dP_hasStock_7 ?_
    refine lv_icmp_ge (tgt := 17) hx hb dP_hasStock_10 (by decide) (fun c_2 => ?_) (fun c_2 => ?_)
    · have hf := m_t hf c_2
      refine lv_iconst (v := 0) hx hb dP_hasStock_17 (by decide) ?_
      exact hret _ _ _ _ _ (fun _ _ => 0) hf rfl hZ dP_hasStock_18
    · have hf := m_f hf c_2
      refine lv_iconst (v := 1) hx hb dP_hasStock_13 (by decide) ?_
      refine lv_goto (tgt := 18) hx hb dP_hasStock_14 (by decide) ?_
      exact hret _ _ _ _ _ (fun _ _ => 0) hf rfl hZ dP_hasStock_18
abbrev rmP_setPassing : Room := { frames := 1, cells := 0, slots := 0, locals := 24 }
set_option maxHeartbeats 4000000 in
set_option maxRecDepth 100000 in
theorem cP_setPassing (l : Launch) (D : va_G) (ad : Nat → Nat) (c3 : ClassId × ClassId × ClassId) (M : mMem) (x1 : Int32) (x2 : Int32) (x3 : Int32) (x4 : Int32)  {M' : mMem} (hf : fP_setPassing M x1 x2 x3 x4 = some M') : kVX l D ad c3 yP_setPassing wP_setPassing rmP_setPassing [.ref (ad 1), .int x1, .int x2, .int x3, .int x4] M M' := by
  refine m_oV (cc := bP_setPassing) (maxL := 5) (own := R_P) nestX (by decide) rfl (Nat.le_of_ble_eq_true rfl) rfl (fun p e s m args below meth c Q hx hb hml hown hts hK hN hret ls hZ hl => ?_)
  have hl : lv_has ls 5 [(0, .ref (ad 1)), (1, .int x1), (2, .int x2), (3, .int x3), (4, .int x4)] := hl
  unfold fP_setPassing at hf
  refine lv_aload_n hx hb dP_setPassing_0 rfl (lv_at hl 0 rfl) ?_
  refine m_getR (k' := 9) hx hb hts in_P hown hK hZ (by decide) rfl rfl 11 (by decide) (hts _ k1_56) (fun _ h9 => h9) rfl dP_setPassing_1 ?_
  refine lv_iload_n hx hb dP_setPassing_4 rfl (lv_at hl 1 rfl) ?_
  obtain ⟨h_inb_x1_4, hf⟩ := m_gx hf
  refine m_aald hx hb hK hZ (by decide) rfl h_inb_x1_4 dP_setPassing_5 ?_
  refine lv_iload_n hx hb dP_setPassing_6 rfl (lv_at hl 2 rfl) ?_
  refine lv_iload_n hx hb dP_setPassing_7 rfl (lv_at hl 3 rfl) ?_
  obtain ⟨h_inb_x2_6, hf⟩ := m_gx hf
  obtain ⟨M_1, eM_1, hf⟩ := m_lx hf
  refine m_iast hx hb hK hZ (grX_9 _ (m_lt h_inb_x1_4)).2 (grX_9 _ (m_lt h_inb_x1_4)).1 h_inb_x2_6 dP_setPassing_8 eM_1 (fun H locs hZ => ?_)
  refine lv_aload_n hx hb dP_setPassing_9 rfl (lv_at hl 0 rfl) ?_
  refine m_getR (k' := 14) hx hb hts in_P hown hK hZ (by decide) rfl rfl 12 (by decide) (hts _ k1_58) (fun _ h9 => h9) rfl dP_setPassing_10 ?_
  refine lv_iload_n hx hb dP_setPassing_13 rfl (lv_at hl 1 rfl) ?_
  refine m_aald hx hb hK hZ (by decide) rfl h_inb_x1_4 dP_setPassing_14 ?_
  refine lv_iload_n hx hb dP_setPassing_15 rfl (lv_at hl 2 rfl) ?_
  refine lv_iconst (v := 0) hx hb dP_setPassing_16 (by decide) ?_
  refine lv_iload_n hx hb dP_setPassing_17 rfl (lv_at hl 3 rfl) ?_
  refine lv_iload hx hb dP_setPassing_18 (lv_at hl 4 rfl) ?_
  refine lv_isub hx hb dP_setPassing_20 ?_
  refine va_mmax hx hb (hml.trans hl.1.symm) hown (hts _ k2_87) (hts _ k2_88) (hts _ k1_9) (hts _ kc_math_max) (by decide) (Nat.le_of_ble_eq_true rfl) (Nat.zero_le _) (Nat.zero_le _) dP_setPassing_21 ?_
  obtain ⟨M_2, eM_2, hf⟩ := m_lx hf
  refine m_iast hx hb hK hZ (grX_14 _ (m_lt h_inb_x1_4)).2 (grX_14 _ (m_lt h_inb_x1_4)).1 h_inb_x2_6 dP_setPassing_24 eM_2 (fun H locs hZ => ?_)
  refine lv_aload_n hx hb dP_setPassing_25 rfl (lv_at hl 0 rfl) ?_
  refine m_getR (k' := 19) hx hb hts in_P hown hK hZ (by decide) rfl rfl 13 (by decide) (hts _ k1_61) (fun _ h9 => h9) rfl dP_setPassing_26 ?_
  refine lv_iload_n hx hb dP_setPassing_29 rfl (lv_at hl 1 rfl) ?_
  refine m_aald hx hb hK hZ (by decide) rfl h_inb_x1_4 dP_setPassing_30 ?_
  refine lv_iload_n hx hb dP_setPassing_31 rfl (lv_at hl 2 rfl) ?_
  refine lv_sipush (v := 1000) hx hb dP_setPassing_32 (by decide) ?_
  refine lv_iload_n hx hb dP_setPassing_35 rfl (lv_at hl 3 rfl) ?_
  refine lv_iload hx hb dP_setPassing_36 (lv_at hl 4 rfl) ?_
  refine lv_iadd hx hb dP_setPassing_38 ?_
  refine va_mmin hx hb (hml.trans hl.1.symm) hown (hts _ k2_90) (hts _ k2_91) (hts _ k1_9) (hts _ kc_math_min) (by decide) (Nat.le_of_ble_eq_true rfl) (Nat.zero_le _) (Nat.zero_le _) dP_setPassing_39 ?_
  obtain ⟨M_3, eM_3, hf⟩ := m_lx hf
  refine m_iast hx hb hK hZ (grX_19 _ (m_lt h_inb_x1_4)).2 (grX_19 _ (m_lt h_inb_x1_4)).1 h_inb_x2_6 dP_setPassing_42 eM_3 (fun H locs hZ => ?_)
  exact hret _ _ _ _ _ hf hZ dP_setPassing_43
abbrev rmG_passes : Room := { frames := 2, cells := 0, slots := 0, locals := 48 }
set_option maxHeartbeats 4000000 in
set_option maxRecDepth 100000 in
theorem cG_passes (l : Launch) (D : va_G) (ad : Nat → Nat) (c3 : ClassId × ClassId × ClassId) (M : mMem) (x1 : Int32) (x2 : Int32) (x3 : Int32) (x4 : Int32)  {r : Int32} {M' : mMem} (hf : fG_passes M x1 x2 x3 x4 = some (r, M')) : kIX l D ad c3 yG_passes wG_passes rmG_passes [.ref (ad 0), .int x1, .int x2, .int x3, .int x4] M r M' := by
  refine m_oI (cc := bG_passes) (maxL := 5) (ty := .boolean) (own := R_G) nestX (by decide) rfl (Nat.le_of_ble_eq_true rfl) rfl (fun p e s m args below meth c Q hx hb hml hown hts hK hN hret ls hZ hl => ?_)
  have hl : lv_has ls 5 [(0, .ref (ad 0)), (1, .int x1), (2, .int x2), (3, .int x3), (4, .int x4)] := hl
  unfold fG_passes at hf
  refine lv_aload_n hx hb dG_passes_0 rfl (lv_at hl 0 rfl) ?_
  refine m_getR (k' := 1) hx hb hts in_G hown hK hZ (by decide) rfl rfl 0 (by decide) (hts _ k2_8) (fun _ h9 => h9) rfl dG_passes_1 ?_
  refine lv_iload_n hx hb dG_passes_4 rfl (lv_at hl 1 rfl) ?_
  obtain ⟨r_1, hc, hf⟩ := m_b1x hf
  refine m_ci (va_runV (As := [.int x1]) (rest := []) ⟨hx, hb, hml, hown, hts⟩ (cP_hasStock l D ad c3 M x1 hc) (cwV 1 hts (gV k2_79 k2_80 k2_81 k1_2 kc_P_hasStock) rfl rfl rfl (by decide +kernel) ⟨by decide, by decide⟩) (m_preV hK hN hZ (by decide) rfl rfl) rfl rfl hl.1 rfl (lv_room (Nat.le_of_ble_eq_true rfl)) dG_passes_5 ⟨Nat.zero_le _, Nat.zero_le _⟩) hZ (fun H locs hZ => ?_)
  refine lv_if_eq (tgt := 22) hx hb dG_passes_8 (by decide) (fun c_2 => ?_) (fun c_2 => ?_)
  · have hf := m_t hf c_2
    refine lv_iconst (v := 0) hx hb dG_passes_22 (by decide) ?_
    exact hret _ _ _ _ _ _ hf rfl hZ dG_passes_23
  · have hf := m_f hf c_2
    refine lv_aload_n hx hb dG_passes_11 rfl (lv_at hl 0 rfl) ?_
    refine m_getR (k' := 1) hx hb hts in_G hown hK hZ (by decide) rfl rfl 0 (by decide) (hts _ k2_8) (fun _ h9 => h9) rfl dG_passes_12 ?_
    refine lv_iload_n hx hb dG_passes_15 rfl (lv_at hl 2 rfl) ?_
    obtain ⟨r_3, hc, hf⟩ := m_b1x hf
    refine m_ci (va_runV (As := [.int x2]) (rest := []) ⟨hx, hb, hml, hown, hts⟩ (cP_hasSieve l D ad c3 M x2 hc) (cwV 1 hts (gV k2_59 k2_60 k2_61 k1_2 kc_P_hasSieve) rfl rfl rfl (by decide +kernel) ⟨by decide, by decide⟩) (m_preV hK hN hZ (by decide) rfl rfl) rfl rfl hl.1 rfl (lv_room (Nat.le_of_ble_eq_true rfl)) dG_passes_16 ⟨Nat.zero_le _, Nat.zero_le _⟩) hZ (fun H locs hZ => ?_)
    refine lv_if_ne (tgt := 24) hx hb dG_passes_19 (by decide) (fun c_4 => ?_) (fun c_4 => ?_)
    · have hf := m_f hf c_4
      refine lv_iload_n hx hb dG_passes_24 rfl (lv_at hl 3 rfl) ?_
      refine lv_iconst (v := 0) hx hb dG_passes_25 (by decide) ?_
      refine lv_sipush (v := 1000) hx hb dG_passes_26 (by decide) ?_
      obtain ⟨r_5, hc, hf⟩ := m_b1x hf
      refine m_ci (va_runS (As := [.int x3, .int 0, .int 1000]) (rest := []) ⟨hx, hb, hml, hown, hts⟩ (cG_within l D ad c3 M x3 0 1000 hc) (cwS 3 hts (gS9 k2_68 k2_69 k1_1 kc_G_within) rfl rfl rfl (by decide +kernel) ⟨by decide, by decide⟩) (m_preS hK hN hZ) rfl rfl hl.1 rfl (lv_room (Nat.le_of_ble_eq_true rfl)) dG_passes_29 ⟨Nat.zero_le _, Nat.zero_le _⟩) hZ (fun H locs hZ => ?_)
      refine lv_if_eq (tgt := 47) hx hb dG_passes_32 (by decide) (fun c_6 => ?_) (fun c_6 => ?_)
      · have hf := m_t hf c_6
        refine lv_iconst (v := 0) hx hb dG_passes_47 (by decide) ?_
        exact hret _ _ _ _ _ _ hf rfl hZ dG_passes_48
      · have hf := m_f hf c_6
        refine lv_iload hx hb dG_passes_35 (lv_at hl 4 rfl) ?_
        refine lv_iconst (v := 0) hx hb dG_passes_37 (by decide) ?_
        refine lv_sipush (v := 300) hx hb dG_passes_38 (by decide) ?_
        obtain ⟨r_7, hc, hf⟩ := m_b1x hf
        refine m_ci (va_runS (As := [.int x4, .int 0, .int 300]) (rest := []) ⟨hx, hb, hml, hown, hts⟩ (cG_within l D ad c3 M x4 0 300 hc) (cwS 3 hts (gS9 k2_68 k2_69 k1_1 kc_G_within) rfl rfl rfl (by decide +kernel) ⟨by decide, by decide⟩) (m_preS hK hN hZ) rfl rfl hl.1 rfl (lv_room (Nat.le_of_ble_eq_true rfl)) dG_passes_41 ⟨Nat.zero_le _, Nat.zero_le _⟩) hZ (fun H locs hZ => ?_)
        refine lv_if_ne (tgt := 49) hx hb dG_passes_44 (by decide) (fun c_8 => ?_) (fun c_8 => ?_)
        · have hf := m_f hf c_8
          refine lv_aload_n hx hb dG_passes_49 rfl (lv_at hl 0 rfl) ?_
          refine m_getR (k' := 1) hx hb hts in_G hown hK hZ (by decide) rfl rfl 0 (by decide) (hts _ k2_8) (fun _ h9 => h9) rfl dG_passes_50 ?_
          refine lv_iload_n hx hb dG_passes_53 rfl (lv_at hl 1 rfl) ?_
          refine lv_iload_n hx hb dG_passes_54 rfl (lv_at hl 2 rfl) ?_
          refine lv_iload_n hx hb dG_passes_55 rfl (lv_at hl 3 rfl) ?_
          refine lv_iload hx hb dG_passes_56 (lv_at hl 4 rfl) ?_
          obtain ⟨M_9, hc, hf⟩ := m_b1x hf
          refine m_cv (va_runV (As := [.int x1, .int x2, .int x3, .int x4]) (rest := []) ⟨hx, hb, hml, hown, hts⟩ (cP_setPassing l D ad c3 M x1 x2 x3 x4 hc) (cwV 4 hts (gV k2_83 k2_84 k2_85 k1_2 kc_P_setPassing) rfl rfl rfl (by decide +kernel) ⟨by decide, by decide⟩) (m_preV hK hN hZ (by decide) rfl rfl) rfl rfl hl.1 rfl (lv_room (Nat.le_of_ble_eq_true rfl)) dG_passes_58 ⟨Nat.zero_le _, Nat.zero_le _⟩) hZ (fun H locs hZ => ?_)
          refine lv_aload_n hx hb dG_passes_61 rfl (lv_at hl 0 rfl) ?_
          obtain ⟨M_10, hc, hf⟩ := m_b1x hf
          refine m_cv (va_runV (As := []) (rest := []) ⟨hx, hb, hml, hown, hts⟩ (cG_forget l D ad c3 M_9 hc) (cwV 0 hts (gV k2_47 k2_49 kp_0 k1_1 kc_G_forget) rfl rfl rfl (by decide +kernel) ⟨by decide, by decide⟩) (m_preV hK hN hZ (by decide) rfl rfl) rfl rfl hl.1 rfl (lv_room (Nat.le_of_ble_eq_true rfl)) dG_passes_62 ⟨Nat.zero_le _, Nat.zero_le _⟩) hZ (fun H locs hZ => ?_)
          refine lv_iconst (v := 1) hx hb dG_passes_65 (by decide) ?_
          exact hret _ _ _ _ _ _ hf rfl hZ dG_passes_66
        · have hf := m_t hf c_8
          refine lv_iconst (v := 0) hx hb dG_passes_47 (by decide) ?_
          exact hret _ _ _ _ _ _ hf rfl hZ dG_passes_48
    · have hf := m_t hf c_4
      refine lv_iconst (v := 0) hx hb dG_passes_22 (by decide) ?_
      exact hret _ _ _ _ _ _ hf rfl hZ dG_passes_23
abbrev rmG_cap : Room := { frames := 2, cells := 0, slots := 0, locals := 41 }
set_option maxHeartbeats 4000000 in
set_option maxRecDepth 100000 in
theorem cG_cap (l : Launch) (D : va_G) (ad : Nat → Nat) (c3 : ClassId × ClassId × ClassId) (M : mMem) (x1 : Int32)  {r : Int32} {M' : mMem} (hf : fG_cap M x1 = some (r, M')) : kIX l D ad c3 yG_cap wG_cap rmG_cap [.ref (ad 0), .int x1] M r M' := by
  refine m_oI (cc := bG_cap) (maxL := 3) (ty := .int) (own := R_G) nestX (by decide) rfl (Nat.le_of_ble_eq_true rfl) rfl (fun p e s m args below meth c Q hx hb hml hown hts hK hN hret ls hZ hl => ?_)
  have hl : lv_has ls 3 [(0, .ref (ad 0)), (1, .int x1)] := hl
  unfold fG_cap at hf
  refine lv_iload_n hx hb dG_cap_0 rfl (lv_at hl 1 rfl) ?_
  refine lv_iconst (v := 0) hx hb dG_cap_1 (by decide) ?_
  refine lv_bipush (v := 100) hx hb dG_cap_2 (by decide) ?_
  obtain ⟨r_1, hc, hf⟩ := m_b1x hf
  refine m_ci (va_runS (As := [.int x1, .int 0, .int 100]) (rest := []) ⟨hx, hb, hml, hown, hts⟩ (cG_within l D ad c3 M x1 0 100 hc) (cwS 3 hts (gS9 k2_68 k2_69 k1_1 kc_G_within) rfl rfl rfl (by decide +kernel) ⟨by decide, by decide⟩) (m_preS hK hN hZ) rfl rfl hl.1 rfl (lv_room (Nat.le_of_ble_eq_true rfl)) dG_cap_4 ⟨Nat.zero_le _, Nat.zero_le _⟩) hZ (fun H locs hZ => ?_)
  refine lv_if_ne (tgt := 12) hx hb dG_cap_7 (by decide) (fun c_2 => ?_) (fun c_2 => ?_)
  · have hf := m_f hf c_2
    refine lv_aload_n hx hb dG_cap_12 rfl (lv_at hl 0 rfl) ?_
    refine m_getR (k' := 1) hx hb hts in_G hown hK hZ (by decide) rfl rfl 0 (by decide) (hts _ k2_8) (fun _ h9 => h9) rfl dG_cap_13 ?_
    refine m_get hx hb hts in_P hown hK hZ (by decide) rfl rfl 2 (by decide) (hts _ k1_35) (fun _ h9 => h9) rfl dG_cap_16 ?_
    obtain ⟨x2_3, ex2_3, hf⟩ := m_lx hf
    refine m_topi ex2_3 ?_
    refine lv_istore_n (lv' := [(2, .int x2_3), (0, .ref (ad 0)), (1, .int x1)]) hx hb dG_cap_19 rfl hl (by decide) rfl (fun ls hl => ?_)
    refine lv_aload_n hx hb dG_cap_20 rfl (lv_at hl 1 rfl) ?_
    refine m_getR (k' := 1) hx hb hts in_G hown hK hZ (by decide) rfl rfl 0 (by decide) (hts _ k2_8) (fun _ h9 => h9) rfl dG_cap_21 ?_
    refine lv_iload_n hx hb dG_cap_24 rfl (lv_at hl 2 rfl) ?_
    obtain ⟨M_4, eM_4, hf⟩ := m_lx hf
    refine m_put (ty := .int) hx hb hts in_P ⟨ty_P_ok, nm_P_ok⟩ hown hK hZ (by decide) rfl rfl 2 (by decide) (hts _ k1_35) (fun _ h9 => h9) rfl (by decide +kernel) rfl rfl rfl dG_cap_25 eM_4 (fun H locs hZ => ?_)
    refine lv_aload_n hx hb dG_cap_28 rfl (lv_at hl 1 rfl) ?_
    obtain ⟨M_5, hc, hf⟩ := m_b1x hf
    refine m_cv (va_runV (As := []) (rest := []) ⟨hx, hb, hml, hown, hts⟩ (cG_forget l D ad c3 M_4 hc) (cwV 0 hts (gV k2_47 k2_49 kp_0 k1_1 kc_G_forget) rfl rfl rfl (by decide +kernel) ⟨by decide, by decide⟩) (m_preV hK hN hZ (by decide) rfl rfl) rfl rfl hl.1 rfl (lv_room (Nat.le_of_ble_eq_true rfl)) dG_cap_29 ⟨Nat.zero_le _, Nat.zero_le _⟩) hZ (fun H locs hZ => ?_)
    refine lv_iload_n hx hb dG_cap_32 rfl (lv_at hl 0 rfl) ?_
    exact hret _ _ _ _ _ _ hf rfl hZ dG_cap_33
  · have hf := m_t hf c_2
    refine lv_iconst (v := (-1)) hx hb dG_cap_10 (by decide) ?_
    exact hret _ _ _ _ _ _ hf rfl hZ dG_cap_11
abbrev rmG_step : Room := { frames := 2, cells := 0, slots := 0, locals := 41 }
set_option maxHeartbeats 4000000 in
set_option maxRecDepth 100000 in
theorem cG_step (l : Launch) (D : va_G) (ad : Nat → Nat) (c3 : ClassId × ClassId × ClassId) (M : mMem) (x1 : Int32)  {r : Int32} {M' : mMem} (hf : fG_step M x1 = some (r, M')) : kIX l D ad c3 yG_step wG_step rmG_step [.ref (ad 0), .int x1] M r M' := by
  refine m_oI (cc := bG_step) (maxL := 3) (ty := .int) (own := R_G) nestX (by decide) rfl (Nat.le_of_ble_eq_true rfl) rfl (fun p e s m args below meth c Q hx hb hml hown hts hK hN hret ls hZ hl => ?_)
  have hl : lv_has ls 3 [(0, .ref (ad 0)), (1, .int x1)] := hl
  unfold fG_step at hf
  refine lv_iload_n hx hb dG_step_0 rfl (lv_at hl 1 rfl) ?_
  refine lv_iconst (v := 1) hx hb dG_step_1 (by decide) ?_
  refine lv_icmp_lt (tgt := 12) hx hb dG_step_2 (by decide) (fun c_1 => ?_) (fun c_1 => ?_)
  · have hf := m_t hf c_1
    refine lv_iconst (v := (-1)) hx hb dG_step_12 (by decide) ?_
    exact hret _ _ _ _ _ _ hf rfl hZ dG_step_13
  · have hf := m_f hf c_1
    refine lv_bipush (v := 100) hx hb dG_step_5 (by decide) ?_
    refine lv_iload_n hx hb dG_step_7 rfl (lv_at hl 1 rfl) ?_
    obtain ⟨h_2, hf⟩ := m_gx hf
    refine lv_irem hx hb dG_step_8 h_2 ?_
    refine lv_if_eq (tgt := 14) hx hb dG_step_9 (by decide) (fun c_3 => ?_) (fun c_3 => ?_)
    · have hf := m_t hf c_3
      refine lv_aload_n hx hb dG_step_14 rfl (lv_at hl 0 rfl) ?_
      refine m_getR (k' := 1) hx hb hts in_G hown hK hZ (by decide) rfl rfl 0 (by decide) (hts _ k2_8) (fun _ h9 => h9) rfl dG_step_15 ?_
      refine m_get hx hb hts in_P hown hK hZ (by decide) rfl rfl 3 (by decide) (hts _ k1_38) (fun _ h9 => h9) rfl dG_step_18 ?_
      obtain ⟨x2_4, ex2_4, hf⟩ := m_lx hf
      refine m_topi ex2_4 ?_
      refine lv_istore_n (lv' := [(2, .int x2_4), (0, .ref (ad 0)), (1, .int x1)]) hx hb dG_step_21 rfl hl (by decide) rfl (fun ls hl => ?_)
      refine lv_aload_n hx hb dG_step_22 rfl (lv_at hl 1 rfl) ?_
      refine m_getR (k' := 1) hx hb hts in_G hown hK hZ (by decide) rfl rfl 0 (by decide) (hts _ k2_8) (fun _ h9 => h9) rfl dG_step_23 ?_
      refine lv_iload_n hx hb dG_step_26 rfl (lv_at hl 2 rfl) ?_
      obtain ⟨M_5, eM_5, hf⟩ := m_lx hf
      refine m_put (ty := .int) hx hb hts in_P ⟨ty_P_ok, nm_P_ok⟩ hown hK hZ (by decide) rfl rfl 3 (by decide) (hts _ k1_38) (fun _ h9 => h9) rfl (by decide +kernel) rfl rfl rfl dG_step_27 eM_5 (fun H locs hZ => ?_)
      refine lv_aload_n hx hb dG_step_30 rfl (lv_at hl 1 rfl) ?_
      obtain ⟨M_6, hc, hf⟩ := m_b1x hf
      refine m_cv (va_runV (As := []) (rest := []) ⟨hx, hb, hml, hown, hts⟩ (cG_forget l D ad c3 M_5 hc) (cwV 0 hts (gV k2_47 k2_49 kp_0 k1_1 kc_G_forget) rfl rfl rfl (by decide +kernel) ⟨by decide, by decide⟩) (m_preV hK hN hZ (by decide) rfl rfl) rfl rfl hl.1 rfl (lv_room (Nat.le_of_ble_eq_true rfl)) dG_step_31 ⟨Nat.zero_le _, Nat.zero_le _⟩) hZ (fun H locs hZ => ?_)
      refine lv_iload_n hx hb dG_step_34 rfl (lv_at hl 0 rfl) ?_
      exact hret _ _ _ _ _ _ hf rfl hZ dG_step_35
    · have hf := m_f hf c_3
      refine lv_iconst (v := (-1)) hx hb dG_step_12 (by decide) ?_
      exact hret _ _ _ _ _ _ hf rfl hZ dG_step_13
abbrev rmT_collect : Room := { frames := 1, cells := 0, slots := 0, locals := 22 }
set_option maxHeartbeats 4000000 in
set_option maxRecDepth 100000 in
theorem cT_collect (l : Launch) (D : va_G) (ad : Nat → Nat) (c3 : ClassId × ClassId × ClassId) (M : mMem) (x1 : Int32)  {r : Int32} {M' : mMem} (hf : fT_collect M x1 = some (r, M')) : kIX l D ad c3 yT_collect wT_collect rmT_collect [.ref (ad 62), .int x1] M r M' := by
  refine m_oI (cc := bT_collect) (maxL := 2) (ty := .boolean) (own := R_T) nestX (by decide) rfl (Nat.le_of_ble_eq_true rfl) rfl (fun p e s m args below meth c Q hx hb hml hown hts hK hN hret ls hZ hl => ?_)
  have hl : lv_has ls 2 [(0, .ref (ad 62)), (1, .int x1)] := hl
  unfold fT_collect at hf
  refine lv_iload_n hx hb dT_collect_0 rfl (lv_at hl 1 rfl) ?_
  refine lv_bipush (v := 32) hx hb dT_collect_1 (by decide) ?_
  refine lv_bipush (v := 126) hx hb dT_collect_3 (by decide) ?_
  obtain ⟨r_1, hc, hf⟩ := m_b1x hf
  refine m_ci (va_runSN (As := [.int x1, .int 32, .int 126]) (rest := []) ⟨hx, hb, hml, hown, hts⟩ (cG_within l D ad c3 M x1 32 126 hc) ⟨va_cnB 3 hts (gN kc_G_within) rfl rfl rfl (hN.2 _ nk_6) (hts _ k1_1) (by decide +kernel) ⟨by decide, by decide⟩, (hts _ k2_69), trivial⟩ (m_preS hK hN hZ) rfl rfl hl.1 rfl (lv_room (Nat.le_of_ble_eq_true rfl)) dT_collect_5 ⟨Nat.zero_le _, Nat.zero_le _⟩) hZ (fun H locs hZ => ?_)
  refine lv_if_eq (tgt := 20) hx hb dT_collect_8 (by decide) (fun c_2 => ?_) (fun c_2 => ?_)
  · have hf := m_t hf c_2
    refine lv_iconst (v := 0) hx hb dT_collect_20 (by decide) ?_
    exact hret _ _ _ _ _ _ hf rfl hZ dT_collect_21
  · have hf := m_f hf c_2
    refine lv_aload_n hx hb dT_collect_11 rfl (lv_at hl 0 rfl) ?_
    refine m_get hx hb hts in_T hown hK hZ (by decide) rfl rfl 3 (by decide) (hts _ k1_180) (fun _ h9 => h9) rfl dT_collect_12 ?_
    refine lv_bipush (v := 60) hx hb dT_collect_15 (by decide) ?_
    refine lv_icmp_lt (tgt := 22) hx hb dT_collect_17 (by decide) (fun c_3 => ?_) (fun c_3 => ?_)
    · have hf := m_t hf c_3
      refine lv_aload_n hx hb dT_collect_22 rfl (lv_at hl 0 rfl) ?_
      refine m_getR (k' := 65) hx hb hts in_T hown hK hZ (by decide) rfl rfl 2 (by decide) (hts _ k1_179) (fun _ h9 => h9) rfl dT_collect_23 ?_
      refine lv_aload_n hx hb dT_collect_26 rfl (lv_at hl 0 rfl) ?_
      refine m_get hx hb hts in_T hown hK hZ (by decide) rfl rfl 3 (by decide) (hts _ k1_180) (fun _ h9 => h9) rfl dT_collect_27 ?_
      refine lv_iload_n hx hb dT_collect_30 rfl (lv_at hl 1 rfl) ?_
      obtain ⟨h_4, hf⟩ := m_gx hf
      obtain ⟨M_5, eM_5, hf⟩ := m_lx hf
      refine m_iast hx hb hK hZ (by decide) rfl h_4 dT_collect_31 eM_5 (fun H locs hZ => ?_)
      refine lv_aload_n hx hb dT_collect_32 rfl (lv_at hl 0 rfl) ?_
      refine lv_dup hx hb dT_collect_33 rfl ?_
      refine m_get hx hb hts in_T hown hK hZ (by decide) rfl rfl 3 (by decide) (hts _ k1_180) (fun _ h9 => h9) rfl dT_collect_34 ?_
      refine lv_iconst (v := 1) hx hb dT_collect_37 (by decide) ?_
      refine lv_iadd hx hb dT_collect_38 ?_
      obtain ⟨M_6, eM_6, hf⟩ := m_lx hf
      refine m_put (ty := .int) hx hb hts in_T ⟨ty_T_ok, nm_T_ok⟩ hown hK hZ (by decide) rfl rfl 3 (by decide) (hts _ k1_180) (fun _ h9 => h9) rfl (by decide +kernel) rfl rfl rfl dT_collect_39 eM_6 (fun H locs hZ => ?_)
      refine lv_iconst (v := 1) hx hb dT_collect_42 (by decide) ?_
      exact hret _ _ _ _ _ _ hf rfl hZ dT_collect_43
    · have hf := m_f hf c_3
      refine lv_iconst (v := 0) hx hb dT_collect_20 (by decide) ?_
      exact hret _ _ _ _ _ _ hf rfl hZ dT_collect_21
end
section
abbrev rmG_unit : Room := { frames := 2, cells := 0, slots := 0, locals := 43 }
set_option maxHeartbeats 4000000 in
set_option maxRecDepth 100000 in
theorem cG_unit (l : Launch) (D : va_G) (ad : Nat → Nat) (c3 : ClassId × ClassId × ClassId) (M : mMem) (x1 : Int32)  {r : Int32} {M' : mMem} (hf : fG_unit M x1 = some (r, M')) : kIX l D ad c3 yG_unit wG_unit rmG_unit [.ref (ad 0), .int x1] M r M' := by
  refine m_oI (cc := bG_unit) (maxL := 2) (ty := .boolean) (own := R_G) nestX (by decide) rfl (Nat.le_of_ble_eq_true rfl) rfl (fun p e s m args below meth c Q hx hb hml hown hts hK hN hret ls hZ hl => ?_)
  have hl : lv_has ls 2 [(0, .ref (ad 0)), (1, .int x1)] := hl
  unfold fG_unit at hf
  refine lv_aload_n hx hb dG_unit_0 rfl (lv_at hl 0 rfl) ?_
  refine m_getR (k' := 62) hx hb hts in_G hown hK hZ (by decide) rfl rfl 3 (by decide) (hts _ k2_11) (fun _ h9 => h9) rfl dG_unit_1 ?_
  refine lv_iload_n hx hb dG_unit_4 rfl (lv_at hl 1 rfl) ?_
  obtain ⟨r_1, M_2, hc, hf⟩ := m_b2x hf
  refine m_ci (va_runV (As := [.int x1]) (rest := []) ⟨hx, hb, hml, hown, hts⟩ (cT_collect l D ad c3 M x1 hc) (cwV 1 hts (gV k2_105 k2_106 k2_107 k1_5 kc_T_collect) rfl rfl rfl (by decide +kernel) ⟨by decide, by decide⟩) (m_preV hK hN hZ (by decide) rfl rfl) rfl rfl hl.1 rfl (lv_room (Nat.le_of_ble_eq_true rfl)) dG_unit_5 ⟨Nat.zero_le _, Nat.zero_le _⟩) hZ (fun H locs hZ => ?_)
  obtain ⟨hz, hf⟩ := m_gx hf
  exact hret _ _ _ _ _ _ hf (m_narZ hz) hZ dG_unit_8
abbrev rmT_parseNumber : Room := { frames := 1, cells := 0, slots := 0, locals := 24 }
set_option maxHeartbeats 4000000 in
set_option maxRecDepth 100000 in
theorem cT_parseNumber (l : Launch) (D : va_G) (ad : Nat → Nat) (c3 : ClassId × ClassId × ClassId) (M : mMem)   {r : Int32} {M' : mMem} (hf : fT_parseNumber M  = some (r, M')) : kIX l D ad c3 yT_parseNumber wT_parseNumber rmT_parseNumber [.ref (ad 62)] M r M' := by
  refine m_oI (cc := bT_parseNumber) (maxL := 3) (ty := .int) (own := R_T) nestX (by decide) rfl (Nat.le_of_ble_eq_true rfl) rfl (fun p e s m args below meth c Q hx hb hml hown hts hK hN hret ls hZ hl => ?_)
  have hl : lv_has ls 3 [(0, .ref (ad 62))] := hl
  unfold fT_parseNumber at hf
  have L4 : ∀ (n4 : Nat) (M : mMem) (x1 : Int32) (x2 : Int32), fT_parseNumber_L4 n4 M x1 x2 = some (r, M') → ∀ (H : Heap) (locs : List Loc) (ls : Array Slot), zX D ad c3 s H locs M → lv_has ls 3 [(0, .ref (ad 62)), (1, .int x1), (2, .int x2)] → W p l e rmT_parseNumber s m args below meth c H locs 0 0 Q (F0 m 4 ls []) := by
    intro n4
    induction n4 with
    | zero => intro M x1 x2 hf; exact m_none hf
    | succ n4 ih4 =>
      intro M x1 x2 hf H locs ls hZ hl
      rw [fT_parseNumber_L4] at hf
      refine lv_iload_n hx hb dT_parseNumber_4 rfl (lv_at hl 2 rfl) ?_
      refine lv_iconst (v := 4) hx hb dT_parseNumber_5 (by decide) ?_
      refine lv_icmp_ge (tgt := 77) hx hb dT_parseNumber_6 (by decide) (fun c_1 => ?_) (fun c_1 => ?_)
      · have hf := m_t hf c_1
        refine lv_iload_n hx hb dT_parseNumber_77 rfl (lv_at hl 1 rfl) ?_
        exact hret _ _ _ _ _ _ hf rfl hZ dT_parseNumber_78
      · have hf := m_f hf c_1
        refine lv_aload_n hx hb dT_parseNumber_9 rfl (lv_at hl 0 rfl) ?_
        refine m_get hx hb hts in_T hown hK hZ (by decide) rfl rfl 4 (by decide) (hts _ k1_181) (fun _ h9 => h9) rfl dT_parseNumber_10 ?_
        refine lv_aload_n hx hb dT_parseNumber_13 rfl (lv_at hl 0 rfl) ?_
        refine m_get hx hb hts in_T hown hK hZ (by decide) rfl rfl 3 (by decide) (hts _ k1_180) (fun _ h9 => h9) rfl dT_parseNumber_14 ?_
        refine lv_icmp_ge (tgt := 77) hx hb dT_parseNumber_17 (by decide) (fun c_2 => ?_) (fun c_2 => ?_)
        · have hf := m_t hf c_2
          refine lv_iload_n hx hb dT_parseNumber_77 rfl (lv_at hl 1 rfl) ?_
          exact hret _ _ _ _ _ _ hf rfl hZ dT_parseNumber_78
        · have hf := m_f hf c_2
          refine lv_aload_n hx hb dT_parseNumber_20 rfl (lv_at hl 0 rfl) ?_
          refine m_getR (k' := 65) hx hb hts in_T hown hK hZ (by decide) rfl rfl 2 (by decide) (hts _ k1_179) (fun _ h9 => h9) rfl dT_parseNumber_21 ?_
          refine lv_aload_n hx hb dT_parseNumber_24 rfl (lv_at hl 0 rfl) ?_
          refine m_get hx hb hts in_T hown hK hZ (by decide) rfl rfl 4 (by decide) (hts _ k1_181) (fun _ h9 => h9) rfl dT_parseNumber_25 ?_
          obtain ⟨h_3, hf⟩ := m_gx hf
          refine m_iald hx hb hK hZ (by decide) rfl h_3 dT_parseNumber_28 ?_
          refine lv_bipush (v := 48) hx hb dT_parseNumber_29 (by decide) ?_
          refine lv_bipush (v := 57) hx hb dT_parseNumber_31 (by decide) ?_
          obtain ⟨r_4, hc, hf⟩ := m_b1x hf
          refine m_ci (va_runSN (As := [.int (M 65 (M 62 4).toNatClampNeg), .int 48, .int 57]) (rest := []) ⟨hx, hb, hml, hown, hts⟩ (cG_within l D ad c3 M (M 65 (M 62 4).toNatClampNeg) 48 57 hc) ⟨va_cnB 3 hts (gN kc_G_within) rfl rfl rfl (hN.2 _ nk_6) (hts _ k1_1) (by decide +kernel) ⟨by decide, by decide⟩, (hts _ k2_69), trivial⟩ (m_preS hK hN hZ) rfl rfl hl.1 rfl (lv_room (Nat.le_of_ble_eq_true rfl)) dT_parseNumber_33 ⟨Nat.zero_le _, Nat.zero_le _⟩) hZ (fun H locs hZ => ?_)
          refine lv_if_eq (tgt := 77) hx hb dT_parseNumber_36 (by decide) (fun c_5 => ?_) (fun c_5 => ?_)
          · have hf := m_t hf c_5
            refine lv_iload_n hx hb dT_parseNumber_77 rfl (lv_at hl 1 rfl) ?_
            exact hret _ _ _ _ _ _ hf rfl hZ dT_parseNumber_78
          · have hf := m_f hf c_5
            refine lv_iconst (v := 0) hx hb dT_parseNumber_39 (by decide) ?_
            refine lv_iload_n hx hb dT_parseNumber_40 rfl (lv_at hl 1 rfl) ?_
            refine va_mmax hx hb (hml.trans hl.1.symm) hown (hts _ k2_126) (hts _ k2_88) (hts _ k1_9) (hts _ kc_math_max) (by decide) (Nat.le_of_ble_eq_true rfl) (Nat.zero_le _) (Nat.zero_le _) dT_parseNumber_41 ?_
            refine lv_bipush (v := 10) hx hb dT_parseNumber_44 (by decide) ?_
            refine lv_imul hx hb dT_parseNumber_46 ?_
            refine lv_aload_n hx hb dT_parseNumber_47 rfl (lv_at hl 0 rfl) ?_
            refine m_getR (k' := 65) hx hb hts in_T hown hK hZ (by decide) rfl rfl 2 (by decide) (hts _ k1_179) (fun _ h9 => h9) rfl dT_parseNumber_48 ?_
            refine lv_aload_n hx hb dT_parseNumber_51 rfl (lv_at hl 0 rfl) ?_
            refine m_get hx hb hts in_T hown hK hZ (by decide) rfl rfl 4 (by decide) (hts _ k1_181) (fun _ h9 => h9) rfl dT_parseNumber_52 ?_
            refine m_iald hx hb hK hZ (by decide) rfl h_3 dT_parseNumber_55 ?_
            refine lv_iadd hx hb dT_parseNumber_56 ?_
            refine lv_bipush (v := 48) hx hb dT_parseNumber_57 (by decide) ?_
            refine lv_isub hx hb dT_parseNumber_59 ?_
            obtain ⟨x1_6, ex1_6, hf⟩ := m_lx hf
            refine m_topi ex1_6 ?_
            refine lv_istore_n (lv' := [(1, .int x1_6), (0, .ref (ad 62)), (2, .int x2)]) hx hb dT_parseNumber_60 rfl hl (by decide) rfl (fun ls hl => ?_)
            refine lv_aload_n hx hb dT_parseNumber_61 rfl (lv_at hl 1 rfl) ?_
            refine lv_dup hx hb dT_parseNumber_62 rfl ?_
            refine m_get hx hb hts in_T hown hK hZ (by decide) rfl rfl 4 (by decide) (hts _ k1_181) (fun _ h9 => h9) rfl dT_parseNumber_63 ?_
            refine lv_iconst (v := 1) hx hb dT_parseNumber_66 (by decide) ?_
            refine lv_iadd hx hb dT_parseNumber_67 ?_
            obtain ⟨M_7, eM_7, hf⟩ := m_lx hf
            refine m_put (ty := .int) hx hb hts in_T ⟨ty_T_ok, nm_T_ok⟩ hown hK hZ (by decide) rfl rfl 4 (by decide) (hts _ k1_181) (fun _ h9 => h9) rfl (by decide +kernel) rfl rfl rfl dT_parseNumber_68 eM_7 (fun H locs hZ => ?_)
            obtain ⟨x2_8, ex2_8, hf⟩ := m_lx hf
            refine lv_iinc (v := x2_8) (lv' := [(2, .int x2_8), (1, .int x1_6), (0, .ref (ad 62))]) hx hb dT_parseNumber_71 hl (k := 2) rfl (by rw [ex2_8]; rfl) (by decide) rfl (fun ls hl => ?_)
            refine lv_goto (tgt := 4) hx hb dT_parseNumber_74 (by decide) ?_
            exact ih4 _ _ _ hf _ _ _ hZ (lv_sub hl [2, 1, 0] rfl)
  refine lv_iconst (v := (-1)) hx hb dT_parseNumber_0 (by decide) ?_
  refine lv_istore_n (lv' := [(1, .int (-1)), (0, .ref (ad 62))]) hx hb dT_parseNumber_1 rfl hl (by decide) rfl (fun ls hl => ?_)
  refine lv_iconst (v := 0) hx hb dT_parseNumber_2 (by decide) ?_
  refine lv_istore_n (lv' := [(2, .int 0), (1, .int (-1)), (0, .ref (ad 62))]) hx hb dT_parseNumber_3 rfl hl (by decide) rfl (fun ls hl => ?_)
  exact L4 128 M (-1) 0 hf _ _ _ hZ (lv_sub hl [2, 1, 0] rfl)
abbrev rmT_skip : Room := { frames := 0, cells := 0, slots := 0, locals := 0 }
set_option maxHeartbeats 4000000 in
set_option maxRecDepth 100000 in
theorem cT_skip (l : Launch) (D : va_G) (ad : Nat → Nat) (c3 : ClassId × ClassId × ClassId) (M : mMem) (x1 : Int32)  {r : Int32} {M' : mMem} (hf : fT_skip M x1 = some (r, M')) : kIX l D ad c3 yT_skip wT_skip rmT_skip [.ref (ad 62), .int x1] M r M' := by
  refine m_oI (cc := bT_skip) (maxL := 2) (ty := .boolean) (own := R_T) nestX (by decide) rfl (Nat.le_of_ble_eq_true rfl) rfl (fun p e s m args below meth c Q hx hb hml hown hts hK hN hret ls hZ hl => ?_)
  have hl : lv_has ls 2 [(0, .ref (ad 62)), (1, .int x1)] := hl
  unfold fT_skip at hf
  refine lv_aload_n hx hb dT_skip_0 rfl (lv_at hl 0 rfl) ?_
  refine m_get hx hb hts in_T hown hK hZ (by decide) rfl rfl 4 (by decide) (hts _ k1_181) (fun _ h9 => h9) rfl dT_skip_1 ?_
  refine lv_aload_n hx hb dT_skip_4 rfl (lv_at hl 0 rfl) ?_
  refine m_get hx hb hts in_T hown hK hZ (by decide) rfl rfl 3 (by decide) (hts _ k1_180) (fun _ h9 => h9) rfl dT_skip_5 ?_
  refine lv_icmp_ge (tgt := 24) hx hb dT_skip_8 (by decide) (fun c_1 => ?_) (fun c_1 => ?_)
  · have hf := m_t hf c_1
    refine lv_iconst (v := 0) hx hb dT_skip_24 (by decide) ?_
    exact hret _ _ _ _ _ _ hf rfl hZ dT_skip_25
  · have hf := m_f hf c_1
    refine lv_aload_n hx hb dT_skip_11 rfl (lv_at hl 0 rfl) ?_
    refine m_getR (k' := 65) hx hb hts in_T hown hK hZ (by decide) rfl rfl 2 (by decide) (hts _ k1_179) (fun _ h9 => h9) rfl dT_skip_12 ?_
    refine lv_aload_n hx hb dT_skip_15 rfl (lv_at hl 0 rfl) ?_
    refine m_get hx hb hts in_T hown hK hZ (by decide) rfl rfl 4 (by decide) (hts _ k1_181) (fun _ h9 => h9) rfl dT_skip_16 ?_
    obtain ⟨h_2, hf⟩ := m_gx hf
    refine m_iald hx hb hK hZ (by decide) rfl h_2 dT_skip_19 ?_
    refine lv_iload_n hx hb dT_skip_20 rfl (lv_at hl 1 rfl) ?_
    refine lv_icmp_eq (tgt := 26) hx hb dT_skip_21 (by decide) (fun c_3 => ?_) (fun c_3 => ?_)
    · have hf := m_t hf c_3
      refine lv_aload_n hx hb dT_skip_26 rfl (lv_at hl 0 rfl) ?_
      refine lv_dup hx hb dT_skip_27 rfl ?_
      refine m_get hx hb hts in_T hown hK hZ (by decide) rfl rfl 4 (by decide) (hts _ k1_181) (fun _ h9 => h9) rfl dT_skip_28 ?_
      refine lv_iconst (v := 1) hx hb dT_skip_31 (by decide) ?_
      refine lv_iadd hx hb dT_skip_32 ?_
      obtain ⟨M_4, eM_4, hf⟩ := m_lx hf
      refine m_put (ty := .int) hx hb hts in_T ⟨ty_T_ok, nm_T_ok⟩ hown hK hZ (by decide) rfl rfl 4 (by decide) (hts _ k1_181) (fun _ h9 => h9) rfl (by decide +kernel) rfl rfl rfl dT_skip_33 eM_4 (fun H locs hZ => ?_)
      refine lv_iconst (v := 1) hx hb dT_skip_36 (by decide) ?_
      exact hret _ _ _ _ _ _ hf rfl hZ dT_skip_37
    · have hf := m_f hf c_3
      refine lv_iconst (v := 0) hx hb dT_skip_24 (by decide) ?_
      exact hret _ _ _ _ _ _ hf rfl hZ dT_skip_25
abbrev rmT_parseBand : Room := { frames := 2, cells := 0, slots := 0, locals := 46 }
set_option maxHeartbeats 4000000 in
set_option maxRecDepth 100000 in
theorem cT_parseBand (l : Launch) (D : va_G) (ad : Nat → Nat) (c3 : ClassId × ClassId × ClassId) (M : mMem) (x1 : Int32) (x2 : Int32)  {r : Int32} {M' : mMem} (hf : fT_parseBand M x1 x2 = some (r, M')) : kIX l D ad c3 yT_parseBand wT_parseBand rmT_parseBand [.ref (ad 62), .int x1, .int x2] M r M' := by
  refine m_oI (cc := bT_parseBand) (maxL := 6) (ty := .int) (own := R_T) nestX (by decide) rfl (Nat.le_of_ble_eq_true rfl) rfl (fun p e s m args below meth c Q hx hb hml hown hts hK hN hret ls hZ hl => ?_)
  have hl : lv_has ls 6 [(0, .ref (ad 62)), (1, .int x1), (2, .int x2)] := hl
  unfold fT_parseBand at hf
  refine lv_aload_n hx hb dT_parseBand_0 rfl (lv_at hl 0 rfl) ?_
  refine m_get hx hb hts in_T hown hK hZ (by decide) rfl rfl 4 (by decide) (hts _ k1_181) (fun _ h9 => h9) rfl dT_parseBand_1 ?_
  obtain ⟨x3_1, ex3_1, hf⟩ := m_lx hf
  refine m_topi ex3_1 ?_
  refine lv_istore_n (lv' := [(3, .int x3_1), (0, .ref (ad 62)), (1, .int x1), (2, .int x2)]) hx hb dT_parseBand_4 rfl hl (by decide) rfl (fun ls hl => ?_)
  refine lv_iload_n hx hb dT_parseBand_5 rfl (lv_at hl 2 rfl) ?_
  refine lv_iload_n hx hb dT_parseBand_6 rfl (lv_at hl 3 rfl) ?_
  refine lv_icmp_ge (tgt := 16) hx hb dT_parseBand_7 (by decide) (fun c_2 => ?_) (fun c_2 => ?_)
  · have hf := m_t hf c_2
    refine lv_iload_n hx hb dT_parseBand_16 rfl (lv_at hl 0 rfl) ?_
    exact hret _ _ _ _ _ _ hf rfl hZ dT_parseBand_17
  · have hf := m_f hf c_2
    refine lv_iload_n hx hb dT_parseBand_10 rfl (lv_at hl 2 rfl) ?_
    refine lv_bipush (v := 6) hx hb dT_parseBand_11 (by decide) ?_
    refine lv_icmp_lt (tgt := 18) hx hb dT_parseBand_13 (by decide) (fun c_3 => ?_) (fun c_3 => ?_)
    · have hf := m_t hf c_3
      refine lv_aload_n hx hb dT_parseBand_18 rfl (lv_at hl 1 rfl) ?_
      obtain ⟨r_4, M_5, hc, hf⟩ := m_b2x hf
      refine m_ci (va_runV (As := []) (rest := []) ⟨hx, hb, hml, hown, hts⟩ (cT_parseNumber l D ad c3 M hc) (cwV 0 hts (gV k2_122 k2_124 kp_2 k1_5 kc_T_parseNumber) rfl rfl rfl (by decide +kernel) ⟨by decide, by decide⟩) (m_preV hK hN hZ (by decide) rfl rfl) rfl rfl hl.1 rfl (lv_room (Nat.le_of_ble_eq_true rfl)) dT_parseBand_19 ⟨Nat.zero_le _, Nat.zero_le _⟩) hZ (fun H locs hZ => ?_)
      refine lv_istore (lv' := [(4, .int r_4), (3, .int x3_1), (0, .ref (ad 62)), (1, .int x1), (2, .int x2)]) hx hb dT_parseBand_22 hl (by decide) rfl (fun ls hl => ?_)
      refine lv_iload hx hb dT_parseBand_24 (lv_at hl 0 rfl) ?_
      refine lv_if_lt (tgt := 38) hx hb dT_parseBand_26 (by decide) (fun c_6 => ?_) (fun c_6 => ?_)
      · have hf := m_t hf c_6
        refine lv_aload_n hx hb dT_parseBand_38 rfl (lv_at hl 2 rfl) ?_
        refine m_get hx hb hts in_T hown hK hZ (by decide) rfl rfl 4 (by decide) (hts _ k1_181) (fun _ h9 => h9) rfl dT_parseBand_39 ?_
        exact hret _ _ _ _ _ _ hf rfl hZ dT_parseBand_42
      · have hf := m_f hf c_6
        refine lv_aload_n hx hb dT_parseBand_29 rfl (lv_at hl 2 rfl) ?_
        refine lv_bipush (v := 45) hx hb dT_parseBand_30 (by decide) ?_
        obtain ⟨r_7, M_8, hc, hf⟩ := m_b2x hf
        refine m_ci (va_runV (As := [.int 45]) (rest := []) ⟨hx, hb, hml, hown, hts⟩ (cT_skip l D ad c3 M_5 45 hc) (cwV 1 hts (gV k2_127 k2_129 kp_3 k1_5 kc_T_skip) rfl rfl rfl (by decide +kernel) ⟨by decide, by decide⟩) (m_preV hK hN hZ (by decide) rfl rfl) rfl rfl hl.1 rfl (lv_room (Nat.le_of_ble_eq_true rfl)) dT_parseBand_32 ⟨Nat.zero_le _, Nat.zero_le _⟩) hZ (fun H locs hZ => ?_)
        refine lv_if_ne (tgt := 43) hx hb dT_parseBand_35 (by decide) (fun c_9 => ?_) (fun c_9 => ?_)
        · have hf := m_f hf c_9
          refine lv_aload_n hx hb dT_parseBand_43 rfl (lv_at hl 2 rfl) ?_
          obtain ⟨r_10, M_11, hc, hf⟩ := m_b2x hf
          refine m_ci (va_runV (As := []) (rest := []) ⟨hx, hb, hml, hown, hts⟩ (cT_parseNumber l D ad c3 M_8 hc) (cwV 0 hts (gV k2_122 k2_124 kp_2 k1_5 kc_T_parseNumber) rfl rfl rfl (by decide +kernel) ⟨by decide, by decide⟩) (m_preV hK hN hZ (by decide) rfl rfl) rfl rfl hl.1 rfl (lv_room (Nat.le_of_ble_eq_true rfl)) dT_parseBand_44 ⟨Nat.zero_le _, Nat.zero_le _⟩) hZ (fun H locs hZ => ?_)
          refine lv_istore (lv' := [(5, .int r_10), (4, .int r_4), (3, .int x3_1), (0, .ref (ad 62)), (1, .int x1), (2, .int x2)]) hx hb dT_parseBand_47 hl (by decide) rfl (fun ls hl => ?_)
          refine lv_iload hx hb dT_parseBand_49 (lv_at hl 0 rfl) ?_
          refine lv_if_ge (tgt := 59) hx hb dT_parseBand_51 (by decide) (fun c_12 => ?_) (fun c_12 => ?_)
          · have hf := m_t hf c_12
            refine lv_iload hx hb dT_parseBand_59 (lv_at hl 1 rfl) ?_
            refine lv_iload hx hb dT_parseBand_61 (lv_at hl 0 rfl) ?_
            obtain ⟨r_13, hc, hf⟩ := m_b1x hf
            refine m_ci (va_runSN (As := [.int r_4, .int r_10]) (rest := []) ⟨hx, hb, hml, hown, hts⟩ (cG_mayBeBand l D ad c3 M_11 r_4 r_10 hc) ⟨va_cnB 2 hts (gN kc_G_mayBeBand) rfl rfl rfl (hN.2 _ nk_7) (hts _ k1_1) (by decide +kernel) ⟨by decide, by decide⟩, (hts _ k2_41), trivial⟩ (m_preS hK hN hZ) rfl rfl hl.1 rfl (lv_room (Nat.le_of_ble_eq_true rfl)) dT_parseBand_63 ⟨Nat.zero_le _, Nat.zero_le _⟩) hZ (fun H locs hZ => ?_)
            refine lv_if_ne (tgt := 71) hx hb dT_parseBand_66 (by decide) (fun c_14 => ?_) (fun c_14 => ?_)
            · have hf := m_f hf c_14
              refine lv_aload_n hx hb dT_parseBand_71 rfl (lv_at hl 3 rfl) ?_
              refine m_getR (k' := 63) hx hb hts in_T hown hK hZ (by decide) rfl rfl 0 (by decide) (hts _ k1_175) (fun _ h9 => h9) rfl dT_parseBand_72 ?_
              refine lv_iload_n hx hb dT_parseBand_75 rfl (lv_at hl 4 rfl) ?_
              refine lv_iload hx hb dT_parseBand_76 (lv_at hl 1 rfl) ?_
              obtain ⟨h_inb_x1_6, hf⟩ := m_gx hf
              obtain ⟨M_15, eM_15, hf⟩ := m_lx hf
              refine m_iast hx hb hK hZ (by decide) rfl h_inb_x1_6 dT_parseBand_78 eM_15 (fun H locs hZ => ?_)
              refine lv_aload_n hx hb dT_parseBand_79 rfl (lv_at hl 3 rfl) ?_
              refine m_getR (k' := 64) hx hb hts in_T hown hK hZ (by decide) rfl rfl 1 (by decide) (hts _ k1_177) (fun _ h9 => h9) rfl dT_parseBand_80 ?_
              refine lv_iload_n hx hb dT_parseBand_83 rfl (lv_at hl 4 rfl) ?_
              refine lv_iload hx hb dT_parseBand_84 (lv_at hl 0 rfl) ?_
              obtain ⟨M_16, eM_16, hf⟩ := m_lx hf
              refine m_iast hx hb hK hZ (by decide) rfl h_inb_x1_6 dT_parseBand_86 eM_16 (fun H locs hZ => ?_)
              refine lv_iconst (v := (-1)) hx hb dT_parseBand_87 (by decide) ?_
              exact hret _ _ _ _ _ _ hf rfl hZ dT_parseBand_88
            · have hf := m_t hf c_14
              refine lv_iload_n hx hb dT_parseBand_69 rfl (lv_at hl 2 rfl) ?_
              exact hret _ _ _ _ _ _ hf rfl hZ dT_parseBand_70
          · have hf := m_f hf c_12
            refine lv_aload_n hx hb dT_parseBand_54 rfl (lv_at hl 3 rfl) ?_
            refine m_get hx hb hts in_T hown hK hZ (by decide) rfl rfl 4 (by decide) (hts _ k1_181) (fun _ h9 => h9) rfl dT_parseBand_55 ?_
            exact hret _ _ _ _ _ _ hf rfl hZ dT_parseBand_58
        · have hf := m_t hf c_9
          refine lv_aload_n hx hb dT_parseBand_38 rfl (lv_at hl 2 rfl) ?_
          refine m_get hx hb hts in_T hown hK hZ (by decide) rfl rfl 4 (by decide) (hts _ k1_181) (fun _ h9 => h9) rfl dT_parseBand_39 ?_
          exact hret _ _ _ _ _ _ hf rfl hZ dT_parseBand_42
    · have hf := m_f hf c_3
      refine lv_iload_n hx hb dT_parseBand_16 rfl (lv_at hl 0 rfl) ?_
      exact hret _ _ _ _ _ _ hf rfl hZ dT_parseBand_17
abbrev rmT_parse : Room := { frames := 3, cells := 0, slots := 0, locals := 71 }
set_option maxHeartbeats 4000000 in
set_option maxRecDepth 100000 in
theorem cT_parse (l : Launch) (D : va_G) (ad : Nat → Nat) (c3 : ClassId × ClassId × ClassId) (M : mMem) (x1 : Int32)  {r : Int32} {M' : mMem} (hf : fT_parse M x1 = some (r, M')) : kIX l D ad c3 yT_parse wT_parse rmT_parse [.ref (ad 62), .int x1] M r M' := by
  refine m_oI (cc := bT_parse) (maxL := 4) (ty := .int) (own := R_T) nestX (by decide) rfl (Nat.le_of_ble_eq_true rfl) rfl (fun p e s m args below meth c Q hx hb hml hown hts hK hN hret ls hZ hl => ?_)
  have hl : lv_has ls 4 [(0, .ref (ad 62)), (1, .int x1)] := hl
  unfold fT_parse at hf
  have B61 : ∀ (M : mMem), fT_parse_B61 M = some (r, M') → ∀ (H : Heap) (locs : List Loc) (ls : Array Slot), zX D ad c3 s H locs M → lv_has ls 4 [(0, .ref (ad 62))] → W p l e rmT_parse s m args below meth c H locs 0 0 Q (F0 m 61 ls []) := by
    intro M hf H locs ls hZ hl
    unfold fT_parse_B61 at hf
    refine lv_iconst (v := (-1)) hx hb dT_parse_61 (by decide) ?_
    refine lv_aload_n hx hb dT_parse_62 rfl (lv_at hl 0 rfl) ?_
    refine m_get hx hb hts in_T hown hK hZ (by decide) rfl rfl 4 (by decide) (hts _ k1_181) (fun _ h9 => h9) rfl dT_parse_63 ?_
    refine lv_isub hx hb dT_parse_66 ?_
    exact hret _ _ _ _ _ _ hf rfl hZ dT_parse_67
  have L7 : ∀ (n7 : Nat) (M : mMem) (x2 : Int32), fT_parse_L7 x1 n7 M x2 = some (r, M') → ∀ (H : Heap) (locs : List Loc) (ls : Array Slot), zX D ad c3 s H locs M → lv_has ls 4 [(0, .ref (ad 62)), (1, .int x1), (2, .int x2)] → W p l e rmT_parse s m args below meth c H locs 0 0 Q (F0 m 7 ls []) := by
    intro n7
    induction n7 with
    | zero => intro M x2 hf; exact m_none hf
    | succ n7 ih7 =>
      intro M x2 hf H locs ls hZ hl
      rw [fT_parse_L7] at hf
      refine lv_iload_n hx hb dT_parse_7 rfl (lv_at hl 2 rfl) ?_
      refine lv_bipush (v := 6) hx hb dT_parse_8 (by decide) ?_
      refine lv_icmp_gt (tgt := 61) hx hb dT_parse_10 (by decide) (fun c_2 => ?_) (fun c_2 => ?_)
      · have hf := m_t hf c_2
        exact B61 M hf _ _ _ hZ (lv_sub hl [0] rfl)
      · have hf := m_f hf c_2
        refine lv_aload_n hx hb dT_parse_13 rfl (lv_at hl 0 rfl) ?_
        refine lv_iload_n hx hb dT_parse_14 rfl (lv_at hl 2 rfl) ?_
        refine lv_iload_n hx hb dT_parse_15 rfl (lv_at hl 1 rfl) ?_
        obtain ⟨r_3, M_4, hc, hf⟩ := m_b2x hf
        refine m_ci (va_runV (As := [.int x2, .int x1]) (rest := []) ⟨hx, hb, hml, hown, hts⟩ (cT_parseBand l D ad c3 M x2 x1 hc) (cwV 2 hts (gV k2_118 k2_120 kp_1 k1_5 kc_T_parseBand) rfl rfl rfl (by decide +kernel) ⟨by decide, by decide⟩) (m_preV hK hN hZ (by decide) rfl rfl) rfl rfl hl.1 rfl (lv_room (Nat.le_of_ble_eq_true rfl)) dT_parse_16 ⟨Nat.zero_le _, Nat.zero_le _⟩) hZ (fun H locs hZ => ?_)
        refine lv_istore_n (lv' := [(3, .int r_3), (0, .ref (ad 62)), (1, .int x1), (2, .int x2)]) hx hb dT_parse_19 rfl hl (by decide) rfl (fun ls hl => ?_)
        refine lv_iload_n hx hb dT_parse_20 rfl (lv_at hl 0 rfl) ?_
        refine lv_if_lt (tgt := 28) hx hb dT_parse_21 (by decide) (fun c_5 => ?_) (fun c_5 => ?_)
        · have hf := m_t hf c_5
          refine lv_aload_n hx hb dT_parse_28 rfl (lv_at hl 1 rfl) ?_
          refine m_get hx hb hts in_T hown hK hZ (by decide) rfl rfl 4 (by decide) (hts _ k1_181) (fun _ h9 => h9) rfl dT_parse_29 ?_
          refine lv_aload_n hx hb dT_parse_32 rfl (lv_at hl 1 rfl) ?_
          refine m_get hx hb hts in_T hown hK hZ (by decide) rfl rfl 3 (by decide) (hts _ k1_180) (fun _ h9 => h9) rfl dT_parse_33 ?_
          refine lv_icmp_lt (tgt := 43) hx hb dT_parse_36 (by decide) (fun c_6 => ?_) (fun c_6 => ?_)
          · have hf := m_t hf c_6
            refine lv_aload_n hx hb dT_parse_43 rfl (lv_at hl 1 rfl) ?_
            refine lv_bipush (v := 44) hx hb dT_parse_44 (by decide) ?_
            obtain ⟨r_7, M_8, hc, hf⟩ := m_b2x hf
            refine m_ci (va_runV (As := [.int 44]) (rest := []) ⟨hx, hb, hml, hown, hts⟩ (cT_skip l D ad c3 M_4 44 hc) (cwV 1 hts (gV k2_127 k2_129 kp_3 k1_5 kc_T_skip) rfl rfl rfl (by decide +kernel) ⟨by decide, by decide⟩) (m_preV hK hN hZ (by decide) rfl rfl) rfl rfl hl.1 rfl (lv_room (Nat.le_of_ble_eq_true rfl)) dT_parse_46 ⟨Nat.zero_le _, Nat.zero_le _⟩) hZ (fun H locs hZ => ?_)
            refine lv_if_ne (tgt := 55) hx hb dT_parse_49 (by decide) (fun c_9 => ?_) (fun c_9 => ?_)
            · have hf := m_f hf c_9
              obtain ⟨x2_10, ex2_10, hf⟩ := m_lx hf
              refine lv_iinc (v := x2_10) (lv' := [(2, .int x2_10), (3, .int r_3), (0, .ref (ad 62)), (1, .int x1)]) hx hb dT_parse_55 hl (k := 3) rfl (by rw [ex2_10]; rfl) (by decide) rfl (fun ls hl => ?_)
              refine lv_goto (tgt := 7) hx hb dT_parse_58 (by decide) ?_
              exact ih7 _ _ hf _ _ _ hZ (lv_sub hl [2, 3, 0] rfl)
            · have hf := m_t hf c_9
              refine lv_goto (tgt := 61) hx hb dT_parse_52 (by decide) ?_
              exact B61 M_8 hf _ _ _ hZ (lv_sub hl [1] rfl)
          · have hf := m_f hf c_6
            refine lv_iload_n hx hb dT_parse_39 rfl (lv_at hl 3 rfl) ?_
            refine lv_iconst (v := 1) hx hb dT_parse_40 (by decide) ?_
            refine lv_iadd hx hb dT_parse_41 ?_
            exact hret _ _ _ _ _ _ hf rfl hZ dT_parse_42
        · have hf := m_f hf c_5
          refine lv_iconst (v := (-1)) hx hb dT_parse_24 (by decide) ?_
          refine lv_iload_n hx hb dT_parse_25 rfl (lv_at hl 0 rfl) ?_
          refine lv_isub hx hb dT_parse_26 ?_
          exact hret _ _ _ _ _ _ hf rfl hZ dT_parse_27
  refine lv_aload_n hx hb dT_parse_0 rfl (lv_at hl 0 rfl) ?_
  refine lv_iconst (v := 0) hx hb dT_parse_1 (by decide) ?_
  obtain ⟨M_1, eM_1, hf⟩ := m_lx hf
  refine m_put (ty := .int) hx hb hts in_T ⟨ty_T_ok, nm_T_ok⟩ hown hK hZ (by decide) rfl rfl 4 (by decide) (hts _ k1_181) (fun _ h9 => h9) rfl (by decide +kernel) rfl rfl rfl dT_parse_2 eM_1 (fun H locs hZ => ?_)
  refine lv_iconst (v := 0) hx hb dT_parse_5 (by decide) ?_
  refine lv_istore_n (lv' := [(2, .int 0), (0, .ref (ad 62)), (1, .int x1)]) hx hb dT_parse_6 rfl hl (by decide) rfl (fun ls hl => ?_)
  exact L7 128 M_1 0 hf _ _ _ hZ (lv_sub hl [1, 2, 0] rfl)
abbrev rmT_clear : Room := { frames := 0, cells := 0, slots := 0, locals := 0 }
set_option maxHeartbeats 4000000 in
set_option maxRecDepth 100000 in
theorem cT_clear (l : Launch) (D : va_G) (ad : Nat → Nat) (c3 : ClassId × ClassId × ClassId) (M : mMem)   {M' : mMem} (hf : fT_clear M  = some M') : kVX l D ad c3 yT_clear wT_clear rmT_clear [.ref (ad 62)] M M' := by
  refine m_oV (cc := bT_clear) (maxL := 1) (own := R_T) nestX (by decide) rfl (Nat.le_of_ble_eq_true rfl) rfl (fun p e s m args below meth c Q hx hb hml hown hts hK hN hret ls hZ hl => ?_)
  have hl : lv_has ls 1 [(0, .ref (ad 62))] := hl
  unfold fT_clear at hf
  refine lv_aload_n hx hb dT_clear_0 rfl (lv_at hl 0 rfl) ?_
  refine lv_iconst (v := 0) hx hb dT_clear_1 (by decide) ?_
  obtain ⟨M_1, eM_1, hf⟩ := m_lx hf
  refine m_put (ty := .int) hx hb hts in_T ⟨ty_T_ok, nm_T_ok⟩ hown hK hZ (by decide) rfl rfl 3 (by decide) (hts _ k1_180) (fun _ h9 => h9) rfl (by decide +kernel) rfl rfl rfl dT_clear_2 eM_1 (fun H locs hZ => ?_)
  exact hret _ _ _ _ _ hf hZ dT_clear_5
end
section
abbrev rmG_read : Room := { frames := 4, cells := 0, slots := 0, locals := 94 }
set_option maxHeartbeats 4000000 in
set_option maxRecDepth 100000 in
theorem cG_read (l : Launch) (D : va_G) (ad : Nat → Nat) (c3 : ClassId × ClassId × ClassId) (M : mMem)   {r : Int32} {M' : mMem} (hf : fG_read M  = some (r, M')) : kIX l D ad c3 yG_read wG_read rmG_read [.ref (ad 0)] M r M' := by
  refine m_oI (cc := bG_read) (maxL := 3) (ty := .int) (own := R_G) nestX (by decide) rfl (Nat.le_of_ble_eq_true rfl) rfl (fun p e s m args below meth c Q hx hb hml hown hts hK hN hret ls hZ hl => ?_)
  have hl : lv_has ls 3 [(0, .ref (ad 0))] := hl
  unfold fG_read at hf
  have B73 : ∀ (M : mMem) (x1 : Int32), fG_read_B73 M x1 = some (r, M') → ∀ (H : Heap) (locs : List Loc) (ls : Array Slot), zX D ad c3 s H locs M → lv_has ls 3 [(0, .ref (ad 0)), (1, .int x1)] → W p l e rmG_read s m args below meth c H locs 0 0 Q (F0 m 73 ls []) := by
    intro M x1 hf H locs ls hZ hl
    unfold fG_read_B73 at hf
    refine lv_aload_n hx hb dG_read_73 rfl (lv_at hl 0 rfl) ?_
    obtain ⟨M_6, hc, hf⟩ := m_b1x hf
    refine m_cv (va_runV (As := []) (rest := []) ⟨hx, hb, hml, hown, hts⟩ (cG_forget l D ad c3 M hc) (cwV 0 hts (gV k2_47 k2_49 kp_0 k1_1 kc_G_forget) rfl rfl rfl (by decide +kernel) ⟨by decide, by decide⟩) (m_preV hK hN hZ (by decide) rfl rfl) rfl rfl hl.1 rfl (lv_room (Nat.le_of_ble_eq_true rfl)) dG_read_74 ⟨Nat.zero_le _, Nat.zero_le _⟩) hZ (fun H locs hZ => ?_)
    refine lv_iload_n hx hb dG_read_77 rfl (lv_at hl 1 rfl) ?_
    exact hret _ _ _ _ _ _ hf rfl hZ dG_read_78
  have L30 : ∀ (x1 : Int32) (n30 : Nat) (M : mMem) (x2 : Int32), fG_read_L30 x1 n30 M x2 = some (r, M') → ∀ (H : Heap) (locs : List Loc) (ls : Array Slot), zX D ad c3 s H locs M → lv_has ls 3 [(0, .ref (ad 0)), (1, .int x1), (2, .int x2)] → W p l e rmG_read s m args below meth c H locs 0 0 Q (F0 m 30 ls []) := by
    intro x1 n30
    induction n30 with
    | zero => intro M x2 hf; exact m_none hf
    | succ n30 ih30 =>
      intro M x2 hf H locs ls hZ hl
      rw [fG_read_L30] at hf
      refine lv_iload_n hx hb dG_read_30 rfl (lv_at hl 2 rfl) ?_
      refine lv_iload_n hx hb dG_read_31 rfl (lv_at hl 1 rfl) ?_
      refine lv_icmp_ge (tgt := 73) hx hb dG_read_32 (by decide) (fun c_5 => ?_) (fun c_5 => ?_)
      · have hf := m_t hf c_5
        exact B73 M x1 hf _ _ _ hZ (lv_sub hl [0, 1] rfl)
      · have hf := m_f hf c_5
        refine lv_iload_n hx hb dG_read_35 rfl (lv_at hl 2 rfl) ?_
        refine lv_bipush (v := 6) hx hb dG_read_36 (by decide) ?_
        refine lv_icmp_ge (tgt := 73) hx hb dG_read_38 (by decide) (fun c_7 => ?_) (fun c_7 => ?_)
        · have hf := m_t hf c_7
          exact B73 M x1 hf _ _ _ hZ (lv_sub hl [0, 1] rfl)
        · have hf := m_f hf c_7
          refine lv_aload_n hx hb dG_read_41 rfl (lv_at hl 0 rfl) ?_
          refine m_getR (k' := 1) hx hb hts in_G hown hK hZ (by decide) rfl rfl 0 (by decide) (hts _ k2_8) (fun _ h9 => h9) rfl dG_read_42 ?_
          refine lv_iload_n hx hb dG_read_45 rfl (lv_at hl 2 rfl) ?_
          refine lv_aload_n hx hb dG_read_46 rfl (lv_at hl 0 rfl) ?_
          refine m_getR (k' := 62) hx hb hts in_G hown hK hZ (by decide) rfl rfl 3 (by decide) (hts _ k2_11) (fun _ h9 => h9) rfl dG_read_47 ?_
          refine m_getR (k' := 63) hx hb hts in_T hown hK hZ (by decide) rfl rfl 0 (by decide) (hts _ k1_176) (fun _ h9 => h9) rfl dG_read_50 ?_
          refine lv_iload_n hx hb dG_read_53 rfl (lv_at hl 2 rfl) ?_
          obtain ⟨h_8, hf⟩ := m_gx hf
          refine m_iald hx hb hK hZ (by decide) rfl h_8 dG_read_54 ?_
          refine lv_aload_n hx hb dG_read_55 rfl (lv_at hl 0 rfl) ?_
          refine m_getR (k' := 62) hx hb hts in_G hown hK hZ (by decide) rfl rfl 3 (by decide) (hts _ k2_11) (fun _ h9 => h9) rfl dG_read_56 ?_
          refine m_getR (k' := 64) hx hb hts in_T hown hK hZ (by decide) rfl rfl 1 (by decide) (hts _ k1_178) (fun _ h9 => h9) rfl dG_read_59 ?_
          refine lv_iload_n hx hb dG_read_62 rfl (lv_at hl 2 rfl) ?_
          refine m_iald hx hb hK hZ (by decide) rfl h_8 dG_read_63 ?_
          obtain ⟨M_9, hc, hf⟩ := m_b1x hf
          refine m_cv (va_runV (As := [.int x2, .int (M 63 x2.toNatClampNeg), .int (M 64 x2.toNatClampNeg)]) (rest := []) ⟨hx, hb, hml, hown, hts⟩ (cP_setBand l D ad c3 M x2 (M 63 x2.toNatClampNeg) (M 64 x2.toNatClampNeg) hc) (cwV 3 hts (gV k2_43 k2_44 k2_45 k1_2 kc_P_setBand) rfl rfl rfl (by decide +kernel) ⟨by decide, by decide⟩) (m_preV hK hN hZ (by decide) rfl rfl) rfl rfl hl.1 rfl (lv_room (Nat.le_of_ble_eq_true rfl)) dG_read_64 ⟨Nat.zero_le _, Nat.zero_le _⟩) hZ (fun H locs hZ => ?_)
          obtain ⟨x2_10, ex2_10, hf⟩ := m_lx hf
          refine lv_iinc (v := x2_10) (lv' := [(2, .int x2_10), (0, .ref (ad 0)), (1, .int x1)]) hx hb dG_read_67 hl (k := 2) rfl (by rw [ex2_10]; rfl) (by decide) rfl (fun ls hl => ?_)
          refine lv_goto (tgt := 30) hx hb dG_read_70 (by decide) ?_
          exact ih30 _ _ hf _ _ _ hZ (lv_sub hl [1, 2, 0] rfl)
  refine lv_aload_n hx hb dG_read_0 rfl (lv_at hl 0 rfl) ?_
  refine m_getR (k' := 62) hx hb hts in_G hown hK hZ (by decide) rfl rfl 3 (by decide) (hts _ k2_11) (fun _ h9 => h9) rfl dG_read_1 ?_
  refine lv_aload_n hx hb dG_read_4 rfl (lv_at hl 0 rfl) ?_
  refine m_getR (k' := 1) hx hb hts in_G hown hK hZ (by decide) rfl rfl 0 (by decide) (hts _ k2_8) (fun _ h9 => h9) rfl dG_read_5 ?_
  refine m_get hx hb hts in_P hown hK hZ (by decide) rfl rfl 0 (by decide) (hts _ k1_28) (fun _ h9 => h9) rfl dG_read_8 ?_
  obtain ⟨r_1, M_2, hc, hf⟩ := m_b2x hf
  refine m_ci (va_runV (As := [.int (M 1 0)]) (rest := []) ⟨hx, hb, hml, hown, hts⟩ (cT_parse l D ad c3 M (M 1 0) hc) (cwV 1 hts (gV k2_114 k2_115 k2_116 k1_5 kc_T_parse) rfl rfl rfl (by decide +kernel) ⟨by decide, by decide⟩) (m_preV hK hN hZ (by decide) rfl rfl) rfl rfl hl.1 rfl (lv_room (Nat.le_of_ble_eq_true rfl)) dG_read_11 ⟨Nat.zero_le _, Nat.zero_le _⟩) hZ (fun H locs hZ => ?_)
  refine lv_istore_n (lv' := [(1, .int r_1), (0, .ref (ad 0))]) hx hb dG_read_14 rfl hl (by decide) rfl (fun ls hl => ?_)
  refine lv_aload_n hx hb dG_read_15 rfl (lv_at hl 1 rfl) ?_
  refine m_getR (k' := 62) hx hb hts in_G hown hK hZ (by decide) rfl rfl 3 (by decide) (hts _ k2_11) (fun _ h9 => h9) rfl dG_read_16 ?_
  obtain ⟨M_3, hc, hf⟩ := m_b1x hf
  refine m_cv (va_runV (As := []) (rest := []) ⟨hx, hb, hml, hown, hts⟩ (cT_clear l D ad c3 M_2 hc) (cwV 0 hts (gV k2_132 k2_133 k2_134 k1_5 kc_T_clear) rfl rfl rfl (by decide +kernel) ⟨by decide, by decide⟩) (m_preV hK hN hZ (by decide) rfl rfl) rfl rfl hl.1 rfl (lv_room (Nat.le_of_ble_eq_true rfl)) dG_read_19 ⟨Nat.zero_le _, Nat.zero_le _⟩) hZ (fun H locs hZ => ?_)
  refine lv_iload_n hx hb dG_read_22 rfl (lv_at hl 0 rfl) ?_
  refine lv_if_ge (tgt := 28) hx hb dG_read_23 (by decide) (fun c_4 => ?_) (fun c_4 => ?_)
  · have hf := m_t hf c_4
    refine lv_iconst (v := 0) hx hb dG_read_28 (by decide) ?_
    refine lv_istore_n (lv' := [(2, .int 0), (1, .int r_1), (0, .ref (ad 0))]) hx hb dG_read_29 rfl hl (by decide) rfl (fun ls hl => ?_)
    exact L30 r_1 128 M_3 0 hf _ _ _ hZ (lv_sub hl [2, 1, 0] rfl)
  · have hf := m_f hf c_4
    refine lv_iload_n hx hb dG_read_26 rfl (lv_at hl 0 rfl) ?_
    exact hret _ _ _ _ _ _ hf rfl hZ dG_read_27
abbrev rmS_useBands : Room := { frames := 0, cells := 0, slots := 0, locals := 0 }
set_option maxHeartbeats 4000000 in
set_option maxRecDepth 100000 in
theorem cS_useBands (l : Launch) (D : va_G) (ad : Nat → Nat) (c3 : ClassId × ClassId × ClassId) (M : mMem) (b : Nat) (qb : isX_S b) {M' : mMem} (hf : fS_useBands M b = some M') : kVX l D ad c3 yS_useBands wS_useBands rmS_useBands [.ref (ad b)] M M' := by
  refine m_oV (cc := bS_useBands) (maxL := 2) (own := R_S) nestX (by decide) rfl (Nat.le_of_ble_eq_true rfl) rfl (fun p e s m args below meth c Q hx hb hml hown hts hK hN hret ls hZ hl => ?_)
  have hl : lv_has ls 2 [(0, .ref (ad b))] := hl
  unfold fS_useBands at hf
  have L2 : ∀ (n2 : Nat) (M : mMem) (x1 : Int32), fS_useBands_L2 b n2 M x1 = some M' → ∀ (H : Heap) (locs : List Loc) (ls : Array Slot), zX D ad c3 s H locs M → lv_has ls 2 [(0, .ref (ad b)), (1, .int x1)] → W p l e rmS_useBands s m args below meth c H locs 0 0 Q (F0 m 2 ls []) := by
    intro n2
    induction n2 with
    | zero => intro M x1 hf; exact m_none hf
    | succ n2 ih2 =>
      intro M x1 hf H locs ls hZ hl
      rw [fS_useBands_L2] at hf
      refine lv_iload_n hx hb dS_useBands_2 rfl (lv_at hl 1 rfl) ?_
      refine lv_aload_n hx hb dS_useBands_3 rfl (lv_at hl 0 rfl) ?_
      refine m_getR (k' := 1) hx hb hts in_S hown hK hZ (qb 0 (by decide)).2 (qb 0 (by decide)).1 rfl 0 (by decide) (hts _ k1_130) (fun _ h9 => h9) rfl dS_useBands_4 ?_
      refine m_get hx hb hts in_P hown hK hZ (by decide) rfl rfl 0 (by decide) (hts _ k1_27) (fun _ h9 => h9) rfl dS_useBands_7 ?_
      refine lv_icmp_ge (tgt := 55) hx hb dS_useBands_10 (by decide) (fun c_1 => ?_) (fun c_1 => ?_)
      · have hf := m_t hf c_1
        exact hret _ _ _ _ _ hf hZ dS_useBands_55
      · have hf := m_f hf c_1
        refine lv_aload_n hx hb dS_useBands_13 rfl (lv_at hl 0 rfl) ?_
        refine m_getR (k' := (b + 1)) hx hb hts in_S hown hK hZ (qb 0 (by decide)).2 (qb 0 (by decide)).1 rfl 1 (by decide) (hts _ k1_131) (fun _ h9 => h9) rfl dS_useBands_14 ?_
        refine lv_iload_n hx hb dS_useBands_17 rfl (lv_at hl 1 rfl) ?_
        refine lv_bipush (v := 100) hx hb dS_useBands_18 (by decide) ?_
        refine lv_aload_n hx hb dS_useBands_20 rfl (lv_at hl 0 rfl) ?_
        refine m_getR (k' := 1) hx hb hts in_S hown hK hZ (qb 0 (by decide)).2 (qb 0 (by decide)).1 rfl 0 (by decide) (hts _ k1_130) (fun _ h9 => h9) rfl dS_useBands_21 ?_
        refine m_getR (k' := 2) hx hb hts in_P hown hK hZ (by decide) rfl rfl 4 (by decide) (hts _ k1_40) (fun _ h9 => h9) rfl dS_useBands_24 ?_
        refine lv_iload_n hx hb dS_useBands_27 rfl (lv_at hl 1 rfl) ?_
        obtain ⟨h_2, hf⟩ := m_gx hf
        refine m_iald hx hb hK hZ (by decide) rfl h_2 dS_useBands_28 ?_
        refine lv_imul hx hb dS_useBands_29 ?_
        obtain ⟨M_3, eM_3, hf⟩ := m_lx hf
        refine m_iast hx hb hK hZ (qb 1 (by decide)).2 (qb 1 (by decide)).1 h_2 dS_useBands_30 eM_3 (fun H locs hZ => ?_)
        refine lv_aload_n hx hb dS_useBands_31 rfl (lv_at hl 0 rfl) ?_
        refine m_getR (k' := (b + 2)) hx hb hts in_S hown hK hZ (qb 0 (by decide)).2 (qb 0 (by decide)).1 rfl 2 (by decide) (hts _ k1_132) (fun _ h9 => h9) rfl dS_useBands_32 ?_
        refine lv_iload_n hx hb dS_useBands_35 rfl (lv_at hl 1 rfl) ?_
        refine lv_bipush (v := 100) hx hb dS_useBands_36 (by decide) ?_
        refine lv_aload_n hx hb dS_useBands_38 rfl (lv_at hl 0 rfl) ?_
        refine m_getR (k' := 1) hx hb hts in_S hown hK hZ (qb 0 (by decide)).2 (qb 0 (by decide)).1 rfl 0 (by decide) (hts _ k1_130) (fun _ h9 => h9) rfl dS_useBands_39 ?_
        refine m_getR (k' := 3) hx hb hts in_P hown hK hZ (by decide) rfl rfl 5 (by decide) (hts _ k1_43) (fun _ h9 => h9) rfl dS_useBands_42 ?_
        refine lv_iload_n hx hb dS_useBands_45 rfl (lv_at hl 1 rfl) ?_
        refine m_iald hx hb hK hZ (by decide) rfl h_2 dS_useBands_46 ?_
        refine lv_imul hx hb dS_useBands_47 ?_
        obtain ⟨M_4, eM_4, hf⟩ := m_lx hf
        refine m_iast hx hb hK hZ (qb 2 (by decide)).2 (qb 2 (by decide)).1 h_2 dS_useBands_48 eM_4 (fun H locs hZ => ?_)
        obtain ⟨x1_5, ex1_5, hf⟩ := m_lx hf
        refine lv_iinc (v := x1_5) (lv' := [(1, .int x1_5), (0, .ref (ad b))]) hx hb dS_useBands_49 hl (k := 1) rfl (by rw [ex1_5]; rfl) (by decide) rfl (fun ls hl => ?_)
        refine lv_goto (tgt := 2) hx hb dS_useBands_52 (by decide) ?_
        exact ih2 _ _ hf _ _ _ hZ (lv_sub hl [1, 0] rfl)
  refine lv_iconst (v := 0) hx hb dS_useBands_0 (by decide) ?_
  refine lv_istore_n (lv' := [(1, .int 0), (0, .ref (ad b))]) hx hb dS_useBands_1 rfl hl (by decide) rfl (fun ls hl => ?_)
  exact L2 128 M 0 hf _ _ _ hZ (lv_sub hl [1, 0] rfl)
abbrev rmS_missOfAll : Room := { frames := 1, cells := 0, slots := 0, locals := 24 }
set_option maxHeartbeats 4000000 in
set_option maxRecDepth 100000 in
theorem cS_missOfAll (l : Launch) (D : va_G) (ad : Nat → Nat) (c3 : ClassId × ClassId × ClassId) (M : mMem) (b : Nat) (x1 : Int32) (x2 : Int32) (qb : isX_S b) {r : Int32} {M' : mMem} (hf : fS_missOfAll M b x1 x2 = some (r, M')) : kIX l D ad c3 yS_missOfAll wS_missOfAll rmS_missOfAll [.ref (ad b), .int x1, .int x2] M r M' := by
  refine m_oI (cc := bS_missOfAll) (maxL := 12) (ty := .int) (own := R_S) nestX (by decide) rfl (Nat.le_of_ble_eq_true rfl) rfl (fun p e s m args below meth c Q hx hb hml hown hts hK hN hret ls hZ hl => ?_)
  have hl : lv_has ls 12 [(0, .ref (ad b)), (1, .int x1), (2, .int x2)] := hl
  unfold fS_missOfAll at hf
  have L43 : inb x1 4 → ∀ (n43 : Nat) (M : mMem) (x7 : Int32) (x8 : Int32), fS_missOfAll_L43 b x1 x2 n43 M x7 x8 = some (r, M') → ∀ (H : Heap) (locs : List Loc) (ls : Array Slot), zX D ad c3 s H locs M → lv_has ls 12 [(0, .ref (ad b)), (2, .int x2), (3, .ref (ad ((b + 4) + 1 + x1.toNatClampNeg))), (4, .ref (ad ((b + 9) + 1 + x1.toNatClampNeg))), (5, .ref (ad (14 + 1 + x1.toNatClampNeg))), (6, .ref (ad (19 + 1 + x1.toNatClampNeg))), (7, .int x7), (8, .int x8)] → W p l e rmS_missOfAll s m args below meth c H locs 0 0 Q (F0 m 43 ls []) := by
    intro h_inb_x1_4 n43
    induction n43 with
    | zero => intro M x7 x8 hf; exact m_none hf
    | succ n43 ih43 =>
      intro M x7 x8 hf H locs ls hZ hl
      rw [fS_missOfAll_L43] at hf
      refine lv_iload hx hb dS_missOfAll_43 (lv_at hl 7 rfl) ?_
      refine lv_aload_n hx hb dS_missOfAll_45 rfl (lv_at hl 0 rfl) ?_
      refine m_getR (k' := 1) hx hb hts in_S hown hK hZ (qb 0 (by decide)).2 (qb 0 (by decide)).1 rfl 0 (by decide) (hts _ k1_130) (fun _ h9 => h9) rfl dS_missOfAll_46 ?_
      refine m_get hx hb hts in_P hown hK hZ (by decide) rfl rfl 0 (by decide) (hts _ k1_27) (fun _ h9 => h9) rfl dS_missOfAll_49 ?_
      refine lv_icmp_ge (tgt := 141) hx hb dS_missOfAll_52 (by decide) (fun c_1 => ?_) (fun c_1 => ?_)
      · have hf := m_t hf c_1
        refine lv_iload hx hb dS_missOfAll_141 (lv_at hl 6 rfl) ?_
        exact hret _ _ _ _ _ _ hf rfl hZ dS_missOfAll_143
      · have hf := m_f hf c_1
        refine lv_aload_n hx hb dS_missOfAll_55 rfl (lv_at hl 0 rfl) ?_
        refine m_getR (k' := (b + 1)) hx hb hts in_S hown hK hZ (qb 0 (by decide)).2 (qb 0 (by decide)).1 rfl 1 (by decide) (hts _ k1_131) (fun _ h9 => h9) rfl dS_missOfAll_56 ?_
        refine lv_iload hx hb dS_missOfAll_59 (lv_at hl 7 rfl) ?_
        obtain ⟨h_2, hf⟩ := m_gx hf
        refine m_iald hx hb hK hZ (qb 1 (by decide)).2 (qb 1 (by decide)).1 h_2 dS_missOfAll_61 ?_
        refine lv_aload_n hx hb dS_missOfAll_62 rfl (lv_at hl 2 rfl) ?_
        refine lv_iload hx hb dS_missOfAll_63 (lv_at hl 7 rfl) ?_
        refine m_iald hx hb hK hZ ((grX_S_4 qb) _ (m_lt h_inb_x1_4)).2 ((grX_S_4 qb) _ (m_lt h_inb_x1_4)).1 h_2 dS_missOfAll_65 ?_
        refine lv_isub hx hb dS_missOfAll_66 ?_
        refine lv_iload_n hx hb dS_missOfAll_67 rfl (lv_at hl 1 rfl) ?_
        refine lv_aload hx hb dS_missOfAll_68 (lv_at hl 4 rfl) ?_
        refine lv_iload hx hb dS_missOfAll_70 (lv_at hl 7 rfl) ?_
        refine m_iald hx hb hK hZ (grX_14 _ (m_lt h_inb_x1_4)).2 (grX_14 _ (m_lt h_inb_x1_4)).1 h_2 dS_missOfAll_72 ?_
        refine lv_imul hx hb dS_missOfAll_73 ?_
        refine lv_isub hx hb dS_missOfAll_74 ?_
        obtain ⟨x9_3, ex9_3, hf⟩ := m_lx hf
        refine m_topi ex9_3 ?_
        refine lv_istore (lv' := [(9, .int x9_3), (0, .ref (ad b)), (2, .int x2), (3, .ref (ad ((b + 4) + 1 + x1.toNatClampNeg))), (4, .ref (ad ((b + 9) + 1 + x1.toNatClampNeg))), (5, .ref (ad (14 + 1 + x1.toNatClampNeg))), (6, .ref (ad (19 + 1 + x1.toNatClampNeg))), (7, .int x7), (8, .int x8)]) hx hb dS_missOfAll_75 hl (by decide) rfl (fun ls hl => ?_)
        refine lv_aload hx hb dS_missOfAll_77 (lv_at hl 4 rfl) ?_
        refine lv_iload hx hb dS_missOfAll_79 (lv_at hl 8 rfl) ?_
        refine m_iald hx hb hK hZ ((grX_S_9 qb) _ (m_lt h_inb_x1_4)).2 ((grX_S_9 qb) _ (m_lt h_inb_x1_4)).1 h_2 dS_missOfAll_81 ?_
        refine lv_iload_n hx hb dS_missOfAll_82 rfl (lv_at hl 2 rfl) ?_
        refine lv_aload hx hb dS_missOfAll_83 (lv_at hl 6 rfl) ?_
        refine lv_iload hx hb dS_missOfAll_85 (lv_at hl 8 rfl) ?_
        refine m_iald hx hb hK hZ (grX_19 _ (m_lt h_inb_x1_4)).2 (grX_19 _ (m_lt h_inb_x1_4)).1 h_2 dS_missOfAll_87 ?_
        refine lv_imul hx hb dS_missOfAll_88 ?_
        refine lv_iadd hx hb dS_missOfAll_89 ?_
        refine lv_aload_n hx hb dS_missOfAll_90 rfl (lv_at hl 1 rfl) ?_
        refine m_getR (k' := (b + 2)) hx hb hts in_S hown hK hZ (qb 0 (by decide)).2 (qb 0 (by decide)).1 rfl 2 (by decide) (hts _ k1_132) (fun _ h9 => h9) rfl dS_missOfAll_91 ?_
        refine lv_iload hx hb dS_missOfAll_94 (lv_at hl 8 rfl) ?_
        refine m_iald hx hb hK hZ (qb 2 (by decide)).2 (qb 2 (by decide)).1 h_2 dS_missOfAll_96 ?_
        refine lv_isub hx hb dS_missOfAll_97 ?_
        obtain ⟨x10_4, ex10_4, hf⟩ := m_lx hf
        refine m_topi ex10_4 ?_
        refine lv_istore (lv' := [(10, .int x10_4), (9, .int x9_3), (0, .ref (ad b)), (2, .int x2), (3, .ref (ad ((b + 4) + 1 + x1.toNatClampNeg))), (4, .ref (ad ((b + 9) + 1 + x1.toNatClampNeg))), (5, .ref (ad (14 + 1 + x1.toNatClampNeg))), (6, .ref (ad (19 + 1 + x1.toNatClampNeg))), (7, .int x7), (8, .int x8)]) hx hb dS_missOfAll_98 hl (by decide) rfl (fun ls hl => ?_)
        refine lv_iconst (v := 0) hx hb dS_missOfAll_100 (by decide) ?_
        refine lv_iload hx hb dS_missOfAll_101 (lv_at hl 1 rfl) ?_
        refine va_mmax hx hb (hml.trans hl.1.symm) hown (hts _ k2_162) (hts _ k2_88) (hts _ k1_9) (hts _ kc_math_max) (by decide) (Nat.le_of_ble_eq_true rfl) (Nat.zero_le _) (Nat.zero_le _) dS_missOfAll_103 ?_
        refine lv_iconst (v := 0) hx hb dS_missOfAll_106 (by decide) ?_
        refine lv_iload hx hb dS_missOfAll_107 (lv_at hl 0 rfl) ?_
        refine va_mmax hx hb (hml.trans hl.1.symm) hown (hts _ k2_162) (hts _ k2_88) (hts _ k1_9) (hts _ kc_math_max) (by decide) (Nat.le_of_ble_eq_true rfl) (Nat.zero_le _) (Nat.zero_le _) dS_missOfAll_109 ?_
        refine lv_iadd hx hb dS_missOfAll_112 ?_
        obtain ⟨x11_5, ex11_5, hf⟩ := m_lx hf
        refine m_topi ex11_5 ?_
        refine lv_istore (lv' := [(11, .int x11_5), (10, .int x10_4), (9, .int x9_3), (0, .ref (ad b)), (2, .int x2), (3, .ref (ad ((b + 4) + 1 + x1.toNatClampNeg))), (4, .ref (ad ((b + 9) + 1 + x1.toNatClampNeg))), (5, .ref (ad (14 + 1 + x1.toNatClampNeg))), (6, .ref (ad (19 + 1 + x1.toNatClampNeg))), (7, .int x7), (8, .int x8)]) hx hb dS_missOfAll_113 hl (by decide) rfl (fun ls hl => ?_)
        refine lv_iload hx hb dS_missOfAll_115 (lv_at hl 0 rfl) ?_
        refine lv_if_ne (tgt := 128) hx hb dS_missOfAll_117 (by decide) (fun c_6 => ?_) (fun c_6 => ?_)
        · have hf := m_f hf c_6
          refine lv_iload hx hb dS_missOfAll_128 (lv_at hl 9 rfl) ?_
          refine lv_iload hx hb dS_missOfAll_130 (lv_at hl 0 rfl) ?_
          refine lv_iadd hx hb dS_missOfAll_132 ?_
          obtain ⟨x7_10, ex7_10, hf⟩ := m_lx hf
          refine m_topi ex7_10 ?_
          refine lv_istore (lv' := [(7, .int x7_10), (11, .int x11_5), (10, .int x10_4), (9, .int x9_3), (0, .ref (ad b)), (2, .int x2), (3, .ref (ad ((b + 4) + 1 + x1.toNatClampNeg))), (4, .ref (ad ((b + 9) + 1 + x1.toNatClampNeg))), (5, .ref (ad (14 + 1 + x1.toNatClampNeg))), (6, .ref (ad (19 + 1 + x1.toNatClampNeg))), (8, .int x8)]) hx hb dS_missOfAll_133 hl (by decide) rfl (fun ls hl => ?_)
          obtain ⟨x8_11, ex8_11, hf⟩ := m_lx hf
          refine lv_iinc (v := x8_11) (lv' := [(8, .int x8_11), (7, .int x7_10), (11, .int x11_5), (10, .int x10_4), (9, .int x9_3), (0, .ref (ad b)), (2, .int x2), (3, .ref (ad ((b + 4) + 1 + x1.toNatClampNeg))), (4, .ref (ad ((b + 9) + 1 + x1.toNatClampNeg))), (5, .ref (ad (14 + 1 + x1.toNatClampNeg))), (6, .ref (ad (19 + 1 + x1.toNatClampNeg)))]) hx hb dS_missOfAll_135 hl (k := 10) rfl (by rw [ex8_11]; rfl) (by decide) rfl (fun ls hl => ?_)
          refine lv_goto (tgt := 43) hx hb dS_missOfAll_138 (by decide) ?_
          exact ih43 _ _ _ hf _ _ _ hZ (lv_sub hl [5, 6, 7, 8, 9, 10, 1, 0] rfl)
        · have hf := m_t hf c_6
          refine lv_aload_n hx hb dS_missOfAll_120 rfl (lv_at hl 3 rfl) ?_
          refine m_getR (k' := (b + 14)) hx hb hts in_S hown hK hZ (qb 0 (by decide)).2 (qb 0 (by decide)).1 rfl 6 (by decide) (hts _ k1_136) (fun _ h9 => h9) rfl dS_missOfAll_121 ?_
          refine lv_iload hx hb dS_missOfAll_124 (lv_at hl 10 rfl) ?_
          refine lv_iconst (v := 1) hx hb dS_missOfAll_126 (by decide) ?_
          obtain ⟨M_7, eM_7, hf⟩ := m_lx hf
          refine m_zast hx hb hK hZ (qb 14 (by decide)).2 (qb 14 (by decide)).1 h_2 dS_missOfAll_127 eM_7 (by decide) (fun H locs hZ => ?_)
          refine lv_iload hx hb dS_missOfAll_128 (lv_at hl 9 rfl) ?_
          refine lv_iload hx hb dS_missOfAll_130 (lv_at hl 0 rfl) ?_
          refine lv_iadd hx hb dS_missOfAll_132 ?_
          obtain ⟨x7_8, ex7_8, hf⟩ := m_lx hf
          refine m_topi ex7_8 ?_
          refine lv_istore (lv' := [(7, .int x7_8), (11, .int x11_5), (10, .int x10_4), (9, .int x9_3), (0, .ref (ad b)), (2, .int x2), (3, .ref (ad ((b + 4) + 1 + x1.toNatClampNeg))), (4, .ref (ad ((b + 9) + 1 + x1.toNatClampNeg))), (5, .ref (ad (14 + 1 + x1.toNatClampNeg))), (6, .ref (ad (19 + 1 + x1.toNatClampNeg))), (8, .int x8)]) hx hb dS_missOfAll_133 hl (by decide) rfl (fun ls hl => ?_)
          obtain ⟨x8_9, ex8_9, hf⟩ := m_lx hf
          refine lv_iinc (v := x8_9) (lv' := [(8, .int x8_9), (7, .int x7_8), (11, .int x11_5), (10, .int x10_4), (9, .int x9_3), (0, .ref (ad b)), (2, .int x2), (3, .ref (ad ((b + 4) + 1 + x1.toNatClampNeg))), (4, .ref (ad ((b + 9) + 1 + x1.toNatClampNeg))), (5, .ref (ad (14 + 1 + x1.toNatClampNeg))), (6, .ref (ad (19 + 1 + x1.toNatClampNeg)))]) hx hb dS_missOfAll_135 hl (k := 10) rfl (by rw [ex8_9]; rfl) (by decide) rfl (fun ls hl => ?_)
          refine lv_goto (tgt := 43) hx hb dS_missOfAll_138 (by decide) ?_
          exact ih43 _ _ _ hf _ _ _ hZ (lv_sub hl [5, 6, 7, 8, 9, 10, 1, 0] rfl)
  refine lv_aload_n hx hb dS_missOfAll_0 rfl (lv_at hl 0 rfl) ?_
  refine m_getR (k' := (b + 4)) hx hb hts in_S hown hK hZ (qb 0 (by decide)).2 (qb 0 (by decide)).1 rfl 4 (by decide) (hts _ k1_134) (fun _ h9 => h9) rfl dS_missOfAll_1 ?_
  refine lv_iload_n hx hb dS_missOfAll_4 rfl (lv_at hl 1 rfl) ?_
  obtain ⟨h_inb_x1_4, hf⟩ := m_gx hf
  refine m_aald hx hb hK hZ (qb 4 (by decide)).2 (qb 4 (by decide)).1 h_inb_x1_4 dS_missOfAll_5 ?_
  refine lv_astore_n (lv' := [(3, .ref (ad ((b + 4) + 1 + x1.toNatClampNeg))), (0, .ref (ad b)), (1, .int x1), (2, .int x2)]) hx hb dS_missOfAll_6 rfl hl (by decide) rfl (fun ls hl => ?_)
  refine lv_aload_n hx hb dS_missOfAll_7 rfl (lv_at hl 1 rfl) ?_
  refine m_getR (k' := (b + 9)) hx hb hts in_S hown hK hZ (qb 0 (by decide)).2 (qb 0 (by decide)).1 rfl 5 (by decide) (hts _ k1_135) (fun _ h9 => h9) rfl dS_missOfAll_8 ?_
  refine lv_iload_n hx hb dS_missOfAll_11 rfl (lv_at hl 2 rfl) ?_
  refine m_aald hx hb hK hZ (qb 9 (by decide)).2 (qb 9 (by decide)).1 h_inb_x1_4 dS_missOfAll_12 ?_
  refine lv_astore (lv' := [(4, .ref (ad ((b + 9) + 1 + x1.toNatClampNeg))), (3, .ref (ad ((b + 4) + 1 + x1.toNatClampNeg))), (0, .ref (ad b)), (1, .int x1), (2, .int x2)]) hx hb dS_missOfAll_13 hl (by decide) rfl (fun ls hl => ?_)
  refine lv_aload_n hx hb dS_missOfAll_15 rfl (lv_at hl 2 rfl) ?_
  refine m_getR (k' := 1) hx hb hts in_S hown hK hZ (qb 0 (by decide)).2 (qb 0 (by decide)).1 rfl 0 (by decide) (hts _ k1_130) (fun _ h9 => h9) rfl dS_missOfAll_16 ?_
  refine m_getR (k' := 14) hx hb hts in_P hown hK hZ (by decide) rfl rfl 12 (by decide) (hts _ k1_59) (fun _ h9 => h9) rfl dS_missOfAll_19 ?_
  refine lv_iload_n hx hb dS_missOfAll_22 rfl (lv_at hl 3 rfl) ?_
  refine m_aald hx hb hK hZ (by decide) rfl h_inb_x1_4 dS_missOfAll_23 ?_
  refine lv_astore (lv' := [(5, .ref (ad (14 + 1 + x1.toNatClampNeg))), (4, .ref (ad ((b + 9) + 1 + x1.toNatClampNeg))), (3, .ref (ad ((b + 4) + 1 + x1.toNatClampNeg))), (0, .ref (ad b)), (1, .int x1), (2, .int x2)]) hx hb dS_missOfAll_24 hl (by decide) rfl (fun ls hl => ?_)
  refine lv_aload_n hx hb dS_missOfAll_26 rfl (lv_at hl 3 rfl) ?_
  refine m_getR (k' := 1) hx hb hts in_S hown hK hZ (qb 0 (by decide)).2 (qb 0 (by decide)).1 rfl 0 (by decide) (hts _ k1_130) (fun _ h9 => h9) rfl dS_missOfAll_27 ?_
  refine m_getR (k' := 19) hx hb hts in_P hown hK hZ (by decide) rfl rfl 13 (by decide) (hts _ k1_62) (fun _ h9 => h9) rfl dS_missOfAll_30 ?_
  refine lv_iload_n hx hb dS_missOfAll_33 rfl (lv_at hl 4 rfl) ?_
  refine m_aald hx hb hK hZ (by decide) rfl h_inb_x1_4 dS_missOfAll_34 ?_
  refine lv_astore (lv' := [(6, .ref (ad (19 + 1 + x1.toNatClampNeg))), (5, .ref (ad (14 + 1 + x1.toNatClampNeg))), (4, .ref (ad ((b + 9) + 1 + x1.toNatClampNeg))), (3, .ref (ad ((b + 4) + 1 + x1.toNatClampNeg))), (0, .ref (ad b)), (1, .int x1), (2, .int x2)]) hx hb dS_missOfAll_35 hl (by decide) rfl (fun ls hl => ?_)
  refine lv_iconst (v := 0) hx hb dS_missOfAll_37 (by decide) ?_
  refine lv_istore (lv' := [(7, .int 0), (6, .ref (ad (19 + 1 + x1.toNatClampNeg))), (5, .ref (ad (14 + 1 + x1.toNatClampNeg))), (4, .ref (ad ((b + 9) + 1 + x1.toNatClampNeg))), (3, .ref (ad ((b + 4) + 1 + x1.toNatClampNeg))), (0, .ref (ad b)), (1, .int x1), (2, .int x2)]) hx hb dS_missOfAll_38 hl (by decide) rfl (fun ls hl => ?_)
  refine lv_iconst (v := 0) hx hb dS_missOfAll_40 (by decide) ?_
  refine lv_istore (lv' := [(8, .int 0), (7, .int 0), (6, .ref (ad (19 + 1 + x1.toNatClampNeg))), (5, .ref (ad (14 + 1 + x1.toNatClampNeg))), (4, .ref (ad ((b + 9) + 1 + x1.toNatClampNeg))), (3, .ref (ad ((b + 4) + 1 + x1.toNatClampNeg))), (0, .ref (ad b)), (1, .int x1), (2, .int x2)]) hx hb dS_missOfAll_41 hl (by decide) rfl (fun ls hl => ?_)
  exact L43 h_inb_x1_4 128 M 0 0 hf _ _ _ hZ (lv_sub hl [6, 8, 5, 4, 3, 2, 1, 0] rfl)
end
section
abbrev rmX_set : Room := { frames := 0, cells := 0, slots := 0, locals := 0 }
set_option maxHeartbeats 4000000 in
set_option maxRecDepth 100000 in
theorem cX_set (l : Launch) (D : va_G) (ad : Nat → Nat) (c3 : ClassId × ClassId × ClassId) (M : mMem) (k : Nat) (k1 : Nat) (x2 : Int32) (x3 : Int32) (qk : isX_X k) (qk1 : isX_row 4 k1) {M' : mMem} (hf : fX_set M k k1 x2 x3 = some M') : kVX l D ad c3 yX_set wX_set rmX_set [.ref (ad k), .ref (ad k1), .int x2, .int x3] M M' := by
  refine m_oV (cc := bX_set) (maxL := 5) (own := R_X) nestX (by decide) rfl (Nat.le_of_ble_eq_true rfl) rfl (fun p e s m args below meth c Q hx hb hml hown hts hK hN hret ls hZ hl => ?_)
  have hl : lv_has ls 5 [(0, .ref (ad k)), (1, .ref (ad k1)), (2, .int x2), (3, .int x3)] := hl
  unfold fX_set at hf
  have B26 : ∀ (M : mMem), fX_set_B26 k x2 x3 M = some M' → ∀ (H : Heap) (locs : List Loc) (ls : Array Slot), zX D ad c3 s H locs M → lv_has ls 5 [(0, .ref (ad k)), (2, .int x2), (3, .int x3)] → W p l e rmX_set s m args below meth c H locs 0 0 Q (F0 m 26 ls []) := by
    intro M hf H locs ls hZ hl
    unfold fX_set_B26 at hf
    refine lv_aload_n hx hb dX_set_26 rfl (lv_at hl 0 rfl) ?_
    refine lv_iload_n hx hb dX_set_27 rfl (lv_at hl 1 rfl) ?_
    obtain ⟨M_2, eM_2, hf⟩ := m_lx hf
    refine m_put (ty := .int) hx hb hts in_X ⟨ty_X_ok, nm_X_ok⟩ hown hK hZ (qk 0 (by decide)).2 (qk 0 (by decide)).1 rfl 2 (by decide) (hts _ k1_115) (fun _ h9 => h9) rfl (by decide +kernel) rfl rfl rfl dX_set_28 eM_2 (fun H locs hZ => ?_)
    refine lv_aload_n hx hb dX_set_31 rfl (lv_at hl 0 rfl) ?_
    refine lv_iload_n hx hb dX_set_32 rfl (lv_at hl 2 rfl) ?_
    obtain ⟨M_3, eM_3, hf⟩ := m_lx hf
    refine m_put (ty := .int) hx hb hts in_X ⟨ty_X_ok, nm_X_ok⟩ hown hK hZ (qk 0 (by decide)).2 (qk 0 (by decide)).1 rfl 3 (by decide) (hts _ k1_118) (fun _ h9 => h9) rfl (by decide +kernel) rfl rfl rfl dX_set_33 eM_3 (fun H locs hZ => ?_)
    refine lv_aload_n hx hb dX_set_36 rfl (lv_at hl 0 rfl) ?_
    refine lv_iconst (v := 1) hx hb dX_set_37 (by decide) ?_
    obtain ⟨M_4, eM_4, hf⟩ := m_lx hf
    refine m_put (ty := .boolean) hx hb hts in_X ⟨ty_X_ok, nm_X_ok⟩ hown hK hZ (qk 0 (by decide)).2 (qk 0 (by decide)).1 rfl 0 (by decide) (hts _ k1_108) (fun _ h9 => h9) rfl (by decide +kernel) rfl rfl rfl dX_set_38 eM_4 (fun H locs hZ => ?_)
    exact hret _ _ _ _ _ hf hZ dX_set_41
  have L3 : ∀ (n3 : Nat) (M : mMem) (x4 : Int32), fX_set_L3 k k1 x2 x3 n3 M x4 = some M' → ∀ (H : Heap) (locs : List Loc) (ls : Array Slot), zX D ad c3 s H locs M → lv_has ls 5 [(0, .ref (ad k)), (1, .ref (ad k1)), (2, .int x2), (3, .int x3), (4, .int x4)] → W p l e rmX_set s m args below meth c H locs 0 0 Q (F0 m 3 ls []) := by
    intro n3
    induction n3 with
    | zero => intro M x4 hf; exact m_none hf
    | succ n3 ih3 =>
      intro M x4 hf H locs ls hZ hl
      rw [fX_set_L3] at hf
      refine lv_iload hx hb dX_set_3 (lv_at hl 4 rfl) ?_
      refine lv_iconst (v := 4) hx hb dX_set_5 (by decide) ?_
      refine lv_icmp_ge (tgt := 26) hx hb dX_set_6 (by decide) (fun c_1 => ?_) (fun c_1 => ?_)
      · have hf := m_t hf c_1
        exact B26 M hf _ _ _ hZ (lv_sub hl [0, 2, 3] rfl)
      · have hf := m_f hf c_1
        refine lv_aload_n hx hb dX_set_9 rfl (lv_at hl 0 rfl) ?_
        refine m_getR (k' := (k + 1)) hx hb hts in_X hown hK hZ (qk 0 (by decide)).2 (qk 0 (by decide)).1 rfl 1 (by decide) (hts _ k1_111) (fun _ h9 => h9) rfl dX_set_10 ?_
        refine lv_iload hx hb dX_set_13 (lv_at hl 4 rfl) ?_
        refine lv_aload_n hx hb dX_set_15 rfl (lv_at hl 1 rfl) ?_
        refine lv_iload hx hb dX_set_16 (lv_at hl 4 rfl) ?_
        obtain ⟨h_5, hf⟩ := m_gx hf
        refine m_iald hx hb hK hZ qk1.2 qk1.1 h_5 dX_set_18 ?_
        obtain ⟨M_6, eM_6, hf⟩ := m_lx hf
        refine m_iast hx hb hK hZ (qk 1 (by decide)).2 (qk 1 (by decide)).1 h_5 dX_set_19 eM_6 (fun H locs hZ => ?_)
        obtain ⟨x4_7, ex4_7, hf⟩ := m_lx hf
        refine lv_iinc (v := x4_7) (lv' := [(4, .int x4_7), (0, .ref (ad k)), (1, .ref (ad k1)), (2, .int x2), (3, .int x3)]) hx hb dX_set_20 hl (k := 4) rfl (by rw [ex4_7]; rfl) (by decide) rfl (fun ls hl => ?_)
        refine lv_goto (tgt := 3) hx hb dX_set_23 (by decide) ?_
        exact ih3 _ _ hf _ _ _ hZ (lv_sub hl [1, 2, 3, 4, 0] rfl)
  refine lv_iconst (v := 0) hx hb dX_set_0 (by decide) ?_
  refine lv_istore (lv' := [(4, .int 0), (0, .ref (ad k)), (1, .ref (ad k1)), (2, .int x2), (3, .int x3)]) hx hb dX_set_1 hl (by decide) rfl (fun ls hl => ?_)
  exact L3 128 M 0 hf _ _ _ hZ (lv_sub hl [1, 2, 3, 4, 0] rfl)
abbrev rmS_lookAt : Room := { frames := 1, cells := 0, slots := 0, locals := 24 }
set_option maxHeartbeats 4000000 in
set_option maxRecDepth 100000 in
theorem cS_lookAt (l : Launch) (D : va_G) (ad : Nat → Nat) (c3 : ClassId × ClassId × ClassId) (M : mMem) (b : Nat) (x1 : Int32) (x2 : Int32) (qb : isX_S b) {M' : mMem} (hf : fS_lookAt M b x1 x2 = some M') : kVX l D ad c3 yS_lookAt wS_lookAt rmS_lookAt [.ref (ad b), .int x1, .int x2] M M' := by
  refine m_oV (cc := bS_lookAt) (maxL := 3) (own := R_S) nestX (by decide) rfl (Nat.le_of_ble_eq_true rfl) rfl (fun p e s m args below meth c Q hx hb hml hown hts hK hN hret ls hZ hl => ?_)
  have hl : lv_has ls 3 [(0, .ref (ad b)), (1, .int x1), (2, .int x2)] := hl
  unfold fS_lookAt at hf
  have B58 : ∀ (M : mMem), fS_lookAt_B58 b x1 x2 M = some M' → ∀ (H : Heap) (locs : List Loc) (ls : Array Slot), zX D ad c3 s H locs M → lv_has ls 3 [(0, .ref (ad b)), (1, .int x1), (2, .int x2)] → W p l e rmS_lookAt s m args below meth c H locs 0 0 Q (F0 m 58 ls []) := by
    intro M hf H locs ls hZ hl
    unfold fS_lookAt_B58 at hf
    refine lv_aload_n hx hb dS_lookAt_58 rfl (lv_at hl 0 rfl) ?_
    refine m_getR (k' := (b + 17)) hx hb hts in_S hown hK hZ (qb 0 (by decide)).2 (qb 0 (by decide)).1 rfl 8 (by decide) (hts _ k1_140) (fun _ h9 => h9) rfl dS_lookAt_59 ?_
    refine m_get hx hb hts in_X hown hK hZ (qb 17 (by decide)).2 (qb 17 (by decide)).1 rfl 0 (by decide) (hts _ k1_109) (fun _ h9 => h9) rfl dS_lookAt_62 ?_
    refine lv_if_eq (tgt := 101) hx hb dS_lookAt_65 (by decide) (fun c_6 => ?_) (fun c_6 => ?_)
    · have hf := m_t hf c_6
      refine lv_aload_n hx hb dS_lookAt_101 rfl (lv_at hl 0 rfl) ?_
      refine m_getR (k' := (b + 17)) hx hb hts in_S hown hK hZ (qb 0 (by decide)).2 (qb 0 (by decide)).1 rfl 8 (by decide) (hts _ k1_140) (fun _ h9 => h9) rfl dS_lookAt_102 ?_
      refine lv_aload_n hx hb dS_lookAt_105 rfl (lv_at hl 0 rfl) ?_
      refine m_getR (k' := (b + 3)) hx hb hts in_S hown hK hZ (qb 0 (by decide)).2 (qb 0 (by decide)).1 rfl 3 (by decide) (hts _ k1_133) (fun _ h9 => h9) rfl dS_lookAt_106 ?_
      refine lv_iload_n hx hb dS_lookAt_109 rfl (lv_at hl 1 rfl) ?_
      refine lv_iload_n hx hb dS_lookAt_110 rfl (lv_at hl 2 rfl) ?_
      obtain ⟨M_7, hc, hf⟩ := m_b1x hf
      refine m_cv (va_runV (As := [.ref (ad (b + 3)), .int x1, .int x2]) (rest := []) ⟨hx, hb, hml, hown, hts⟩ (cX_set l D ad c3 M (b + 17) (b + 3) x1 x2 (isX_X_b_17 qb) ⟨(qb 3 (by decide)).1, (qb 3 (by decide)).2⟩ hc) (cwV 3 hts (gV k2_167 k2_168 k2_169 k1_4 kc_X_set) rfl rfl rfl (by decide +kernel) ⟨by decide, by decide⟩) (m_preV hK hN hZ (qb 17 (by decide)).2 (qb 17 (by decide)).1 rfl) rfl rfl hl.1 rfl (lv_room (Nat.le_of_ble_eq_true rfl)) dS_lookAt_111 ⟨Nat.zero_le _, Nat.zero_le _⟩) hZ (fun H locs hZ => ?_)
      exact hret _ _ _ _ _ hf hZ dS_lookAt_114
    · have hf := m_f hf c_6
      refine lv_iload_n hx hb dS_lookAt_68 rfl (lv_at hl 2 rfl) ?_
      refine lv_aload_n hx hb dS_lookAt_69 rfl (lv_at hl 0 rfl) ?_
      refine m_getR (k' := (b + 17)) hx hb hts in_S hown hK hZ (qb 0 (by decide)).2 (qb 0 (by decide)).1 rfl 8 (by decide) (hts _ k1_140) (fun _ h9 => h9) rfl dS_lookAt_70 ?_
      refine m_get hx hb hts in_X hown hK hZ (qb 17 (by decide)).2 (qb 17 (by decide)).1 rfl 3 (by decide) (hts _ k1_119) (fun _ h9 => h9) rfl dS_lookAt_73 ?_
      refine lv_icmp_lt (tgt := 101) hx hb dS_lookAt_76 (by decide) (fun c_8 => ?_) (fun c_8 => ?_)
      · have hf := m_t hf c_8
        refine lv_aload_n hx hb dS_lookAt_101 rfl (lv_at hl 0 rfl) ?_
        refine m_getR (k' := (b + 17)) hx hb hts in_S hown hK hZ (qb 0 (by decide)).2 (qb 0 (by decide)).1 rfl 8 (by decide) (hts _ k1_140) (fun _ h9 => h9) rfl dS_lookAt_102 ?_
        refine lv_aload_n hx hb dS_lookAt_105 rfl (lv_at hl 0 rfl) ?_
        refine m_getR (k' := (b + 3)) hx hb hts in_S hown hK hZ (qb 0 (by decide)).2 (qb 0 (by decide)).1 rfl 3 (by decide) (hts _ k1_133) (fun _ h9 => h9) rfl dS_lookAt_106 ?_
        refine lv_iload_n hx hb dS_lookAt_109 rfl (lv_at hl 1 rfl) ?_
        refine lv_iload_n hx hb dS_lookAt_110 rfl (lv_at hl 2 rfl) ?_
        obtain ⟨M_9, hc, hf⟩ := m_b1x hf
        refine m_cv (va_runV (As := [.ref (ad (b + 3)), .int x1, .int x2]) (rest := []) ⟨hx, hb, hml, hown, hts⟩ (cX_set l D ad c3 M (b + 17) (b + 3) x1 x2 (isX_X_b_17 qb) ⟨(qb 3 (by decide)).1, (qb 3 (by decide)).2⟩ hc) (cwV 3 hts (gV k2_167 k2_168 k2_169 k1_4 kc_X_set) rfl rfl rfl (by decide +kernel) ⟨by decide, by decide⟩) (m_preV hK hN hZ (qb 17 (by decide)).2 (qb 17 (by decide)).1 rfl) rfl rfl hl.1 rfl (lv_room (Nat.le_of_ble_eq_true rfl)) dS_lookAt_111 ⟨Nat.zero_le _, Nat.zero_le _⟩) hZ (fun H locs hZ => ?_)
        exact hret _ _ _ _ _ hf hZ dS_lookAt_114
      · have hf := m_f hf c_8
        refine lv_iload_n hx hb dS_lookAt_79 rfl (lv_at hl 2 rfl) ?_
        refine lv_aload_n hx hb dS_lookAt_80 rfl (lv_at hl 0 rfl) ?_
        refine m_getR (k' := (b + 17)) hx hb hts in_S hown hK hZ (qb 0 (by decide)).2 (qb 0 (by decide)).1 rfl 8 (by decide) (hts _ k1_140) (fun _ h9 => h9) rfl dS_lookAt_81 ?_
        refine m_get hx hb hts in_X hown hK hZ (qb 17 (by decide)).2 (qb 17 (by decide)).1 rfl 3 (by decide) (hts _ k1_119) (fun _ h9 => h9) rfl dS_lookAt_84 ?_
        refine lv_icmp_ne (tgt := 114) hx hb dS_lookAt_87 (by decide) (fun c_10 => ?_) (fun c_10 => ?_)
        · have hf := m_f hf c_10
          exact hret _ _ _ _ _ hf hZ dS_lookAt_114
        · have hf := m_t hf c_10
          refine lv_iload_n hx hb dS_lookAt_90 rfl (lv_at hl 1 rfl) ?_
          refine lv_aload_n hx hb dS_lookAt_91 rfl (lv_at hl 0 rfl) ?_
          refine m_getR (k' := (b + 17)) hx hb hts in_S hown hK hZ (qb 0 (by decide)).2 (qb 0 (by decide)).1 rfl 8 (by decide) (hts _ k1_140) (fun _ h9 => h9) rfl dS_lookAt_92 ?_
          refine m_get hx hb hts in_X hown hK hZ (qb 17 (by decide)).2 (qb 17 (by decide)).1 rfl 2 (by decide) (hts _ k1_116) (fun _ h9 => h9) rfl dS_lookAt_95 ?_
          refine lv_icmp_ge (tgt := 114) hx hb dS_lookAt_98 (by decide) (fun c_11 => ?_) (fun c_11 => ?_)
          · have hf := m_t hf c_11
            exact hret _ _ _ _ _ hf hZ dS_lookAt_114
          · have hf := m_f hf c_11
            refine lv_aload_n hx hb dS_lookAt_101 rfl (lv_at hl 0 rfl) ?_
            refine m_getR (k' := (b + 17)) hx hb hts in_S hown hK hZ (qb 0 (by decide)).2 (qb 0 (by decide)).1 rfl 8 (by decide) (hts _ k1_140) (fun _ h9 => h9) rfl dS_lookAt_102 ?_
            refine lv_aload_n hx hb dS_lookAt_105 rfl (lv_at hl 0 rfl) ?_
            refine m_getR (k' := (b + 3)) hx hb hts in_S hown hK hZ (qb 0 (by decide)).2 (qb 0 (by decide)).1 rfl 3 (by decide) (hts _ k1_133) (fun _ h9 => h9) rfl dS_lookAt_106 ?_
            refine lv_iload_n hx hb dS_lookAt_109 rfl (lv_at hl 1 rfl) ?_
            refine lv_iload_n hx hb dS_lookAt_110 rfl (lv_at hl 2 rfl) ?_
            obtain ⟨M_12, hc, hf⟩ := m_b1x hf
            refine m_cv (va_runV (As := [.ref (ad (b + 3)), .int x1, .int x2]) (rest := []) ⟨hx, hb, hml, hown, hts⟩ (cX_set l D ad c3 M (b + 17) (b + 3) x1 x2 (isX_X_b_17 qb) ⟨(qb 3 (by decide)).1, (qb 3 (by decide)).2⟩ hc) (cwV 3 hts (gV k2_167 k2_168 k2_169 k1_4 kc_X_set) rfl rfl rfl (by decide +kernel) ⟨by decide, by decide⟩) (m_preV hK hN hZ (qb 17 (by decide)).2 (qb 17 (by decide)).1 rfl) rfl rfl hl.1 rfl (lv_room (Nat.le_of_ble_eq_true rfl)) dS_lookAt_111 ⟨Nat.zero_le _, Nat.zero_le _⟩) hZ (fun H locs hZ => ?_)
            exact hret _ _ _ _ _ hf hZ dS_lookAt_114
  have B45 : ∀ (M : mMem), fS_lookAt_B45 b x1 x2 M = some M' → ∀ (H : Heap) (locs : List Loc) (ls : Array Slot), zX D ad c3 s H locs M → lv_has ls 3 [(0, .ref (ad b)), (1, .int x1), (2, .int x2)] → W p l e rmS_lookAt s m args below meth c H locs 0 0 Q (F0 m 45 ls []) := by
    intro M hf H locs ls hZ hl
    unfold fS_lookAt_B45 at hf
    refine lv_aload_n hx hb dS_lookAt_45 rfl (lv_at hl 0 rfl) ?_
    refine m_getR (k' := (b + 15)) hx hb hts in_S hown hK hZ (qb 0 (by decide)).2 (qb 0 (by decide)).1 rfl 7 (by decide) (hts _ k1_138) (fun _ h9 => h9) rfl dS_lookAt_46 ?_
    refine lv_aload_n hx hb dS_lookAt_49 rfl (lv_at hl 0 rfl) ?_
    refine m_getR (k' := (b + 3)) hx hb hts in_S hown hK hZ (qb 0 (by decide)).2 (qb 0 (by decide)).1 rfl 3 (by decide) (hts _ k1_133) (fun _ h9 => h9) rfl dS_lookAt_50 ?_
    refine lv_iload_n hx hb dS_lookAt_53 rfl (lv_at hl 1 rfl) ?_
    refine lv_iload_n hx hb dS_lookAt_54 rfl (lv_at hl 2 rfl) ?_
    obtain ⟨M_5, hc, hf⟩ := m_b1x hf
    refine m_cv (va_runV (As := [.ref (ad (b + 3)), .int x1, .int x2]) (rest := []) ⟨hx, hb, hml, hown, hts⟩ (cX_set l D ad c3 M (b + 15) (b + 3) x1 x2 (isX_X_b_15 qb) ⟨(qb 3 (by decide)).1, (qb 3 (by decide)).2⟩ hc) (cwV 3 hts (gV k2_167 k2_168 k2_169 k1_4 kc_X_set) rfl rfl rfl (by decide +kernel) ⟨by decide, by decide⟩) (m_preV hK hN hZ (qb 15 (by decide)).2 (qb 15 (by decide)).1 rfl) rfl rfl hl.1 rfl (lv_room (Nat.le_of_ble_eq_true rfl)) dS_lookAt_55 ⟨Nat.zero_le _, Nat.zero_le _⟩) hZ (fun H locs hZ => ?_)
    exact B58 M_5 hf _ _ _ hZ (lv_sub hl [0, 1, 2] rfl)
  refine lv_aload_n hx hb dS_lookAt_0 rfl (lv_at hl 0 rfl) ?_
  refine lv_dup hx hb dS_lookAt_1 rfl ?_
  refine m_get hx hb hts in_S hown hK hZ (qb 0 (by decide)).2 (qb 0 (by decide)).1 rfl 9 (by decide) (hts _ k1_142) (fun _ h9 => h9) rfl dS_lookAt_2 ?_
  refine lv_iconst (v := 1) hx hb dS_lookAt_5 (by decide) ?_
  refine lv_iadd hx hb dS_lookAt_6 ?_
  obtain ⟨M_1, eM_1, hf⟩ := m_lx hf
  refine m_put (ty := .int) hx hb hts in_S ⟨ty_S_ok, nm_S_ok⟩ hown hK hZ (qb 0 (by decide)).2 (qb 0 (by decide)).1 rfl 9 (by decide) (hts _ k1_142) (fun _ h9 => h9) rfl (by decide +kernel) rfl rfl rfl dS_lookAt_7 eM_1 (fun H locs hZ => ?_)
  refine lv_iload_n hx hb dS_lookAt_10 rfl (lv_at hl 2 rfl) ?_
  refine lv_if_ne (tgt := 58) hx hb dS_lookAt_11 (by decide) (fun c_2 => ?_) (fun c_2 => ?_)
  · have hf := m_f hf c_2
    exact B58 M_1 hf _ _ _ hZ (lv_sub hl [0, 1, 2] rfl)
  · have hf := m_t hf c_2
    refine lv_aload_n hx hb dS_lookAt_14 rfl (lv_at hl 0 rfl) ?_
    refine lv_dup hx hb dS_lookAt_15 rfl ?_
    refine m_get hx hb hts in_S hown hK hZ (qb 0 (by decide)).2 (qb 0 (by decide)).1 rfl 10 (by decide) (hts _ k1_144) (fun _ h9 => h9) rfl dS_lookAt_16 ?_
    refine lv_iconst (v := 1) hx hb dS_lookAt_19 (by decide) ?_
    refine lv_iadd hx hb dS_lookAt_20 ?_
    obtain ⟨M_3, eM_3, hf⟩ := m_lx hf
    refine m_put (ty := .int) hx hb hts in_S ⟨ty_S_ok, nm_S_ok⟩ hown hK hZ (qb 0 (by decide)).2 (qb 0 (by decide)).1 rfl 10 (by decide) (hts _ k1_144) (fun _ h9 => h9) rfl (by decide +kernel) rfl rfl rfl dS_lookAt_21 eM_3 (fun H locs hZ => ?_)
    refine lv_aload_n hx hb dS_lookAt_24 rfl (lv_at hl 0 rfl) ?_
    refine m_getR (k' := (b + 15)) hx hb hts in_S hown hK hZ (qb 0 (by decide)).2 (qb 0 (by decide)).1 rfl 7 (by decide) (hts _ k1_138) (fun _ h9 => h9) rfl dS_lookAt_25 ?_
    refine m_get hx hb hts in_X hown hK hZ (qb 15 (by decide)).2 (qb 15 (by decide)).1 rfl 0 (by decide) (hts _ k1_109) (fun _ h9 => h9) rfl dS_lookAt_28 ?_
    refine lv_if_eq (tgt := 45) hx hb dS_lookAt_31 (by decide) (fun c_4 => ?_) (fun c_4 => ?_)
    · have hf := m_t hf c_4
      exact B45 M_3 hf _ _ _ hZ (lv_sub hl [0, 1, 2] rfl)
    · have hf := m_f hf c_4
      refine lv_iload_n hx hb dS_lookAt_34 rfl (lv_at hl 1 rfl) ?_
      refine lv_aload_n hx hb dS_lookAt_35 rfl (lv_at hl 0 rfl) ?_
      refine m_getR (k' := (b + 15)) hx hb hts in_S hown hK hZ (qb 0 (by decide)).2 (qb 0 (by decide)).1 rfl 7 (by decide) (hts _ k1_138) (fun _ h9 => h9) rfl dS_lookAt_36 ?_
      refine m_get hx hb hts in_X hown hK hZ (qb 15 (by decide)).2 (qb 15 (by decide)).1 rfl 2 (by decide) (hts _ k1_116) (fun _ h9 => h9) rfl dS_lookAt_39 ?_
      refine lv_icmp_ge (tgt := 58) hx hb dS_lookAt_42 (by decide) (fun c_13 => ?_) (fun c_13 => ?_)
      · have hf := m_t hf c_13
        exact B58 M_3 hf _ _ _ hZ (lv_sub hl [0, 1, 2] rfl)
      · have hf := m_f hf c_13
        exact B45 M_3 hf _ _ _ hZ (lv_sub hl [0, 1, 2] rfl)
abbrev rmS_putShare : Room := { frames := 0, cells := 0, slots := 0, locals := 0 }
set_option maxHeartbeats 4000000 in
set_option maxRecDepth 100000 in
theorem cS_putShare (l : Launch) (D : va_G) (ad : Nat → Nat) (c3 : ClassId × ClassId × ClassId) (M : mMem) (b : Nat) (x1 : Int32) (x2 : Int32) (qb : isX_S b) {M' : mMem} (hf : fS_putShare M b x1 x2 = some M') : kVX l D ad c3 yS_putShare wS_putShare rmS_putShare [.ref (ad b), .int x1, .int x2] M M' := by
  refine m_oV (cc := bS_putShare) (maxL := 4) (own := R_S) nestX (by decide) rfl (Nat.le_of_ble_eq_true rfl) rfl (fun p e s m args below meth c Q hx hb hml hown hts hK hN hret ls hZ hl => ?_)
  have hl : lv_has ls 4 [(0, .ref (ad b)), (1, .int x1), (2, .int x2)] := hl
  unfold fS_putShare at hf
  have L9 : ∀ (n9 : Nat) (M : mMem) (x3 : Int32), fS_putShare_L9 b x1 x2 n9 M x3 = some M' → ∀ (H : Heap) (locs : List Loc) (ls : Array Slot), zX D ad c3 s H locs M → lv_has ls 4 [(0, .ref (ad b)), (1, .int x1), (2, .int x2), (3, .int x3)] → W p l e rmS_putShare s m args below meth c H locs 0 0 Q (F0 m 9 ls []) := by
    intro n9
    induction n9 with
    | zero => intro M x3 hf; exact m_none hf
    | succ n9 ih9 =>
      intro M x3 hf H locs ls hZ hl
      rw [fS_putShare_L9] at hf
      refine lv_iload_n hx hb dS_putShare_9 rfl (lv_at hl 3 rfl) ?_
      refine lv_aload_n hx hb dS_putShare_10 rfl (lv_at hl 0 rfl) ?_
      refine m_getR (k' := 1) hx hb hts in_S hown hK hZ (qb 0 (by decide)).2 (qb 0 (by decide)).1 rfl 0 (by decide) (hts _ k1_130) (fun _ h9 => h9) rfl dS_putShare_11 ?_
      refine m_get hx hb hts in_P hown hK hZ (by decide) rfl rfl 0 (by decide) (hts _ k1_27) (fun _ h9 => h9) rfl dS_putShare_14 ?_
      refine lv_icmp_ge (tgt := 90) hx hb dS_putShare_17 (by decide) (fun c_2 => ?_) (fun c_2 => ?_)
      · have hf := m_t hf c_2
        exact hret _ _ _ _ _ hf hZ dS_putShare_90
      · have hf := m_f hf c_2
        refine lv_aload_n hx hb dS_putShare_20 rfl (lv_at hl 0 rfl) ?_
        refine m_getR (k' := (b + 4)) hx hb hts in_S hown hK hZ (qb 0 (by decide)).2 (qb 0 (by decide)).1 rfl 4 (by decide) (hts _ k1_134) (fun _ h9 => h9) rfl dS_putShare_21 ?_
        refine lv_iload_n hx hb dS_putShare_24 rfl (lv_at hl 1 rfl) ?_
        refine lv_iconst (v := 1) hx hb dS_putShare_25 (by decide) ?_
        refine lv_iadd hx hb dS_putShare_26 ?_
        obtain ⟨h_3, hf⟩ := m_gx hf
        refine m_aald hx hb hK hZ (qb 4 (by decide)).2 (qb 4 (by decide)).1 h_3 dS_putShare_27 ?_
        refine lv_iload_n hx hb dS_putShare_28 rfl (lv_at hl 3 rfl) ?_
        refine lv_aload_n hx hb dS_putShare_29 rfl (lv_at hl 0 rfl) ?_
        refine m_getR (k' := (b + 4)) hx hb hts in_S hown hK hZ (qb 0 (by decide)).2 (qb 0 (by decide)).1 rfl 4 (by decide) (hts _ k1_134) (fun _ h9 => h9) rfl dS_putShare_30 ?_
        refine lv_iload_n hx hb dS_putShare_33 rfl (lv_at hl 1 rfl) ?_
        obtain ⟨h_inb_x1_4, hf⟩ := m_gx hf
        refine m_aald hx hb hK hZ (qb 4 (by decide)).2 (qb 4 (by decide)).1 h_inb_x1_4 dS_putShare_34 ?_
        refine lv_iload_n hx hb dS_putShare_35 rfl (lv_at hl 3 rfl) ?_
        obtain ⟨h_4, hf⟩ := m_gx hf
        refine m_iald hx hb hK hZ ((grX_S_4 qb) _ (m_lt h_inb_x1_4)).2 ((grX_S_4 qb) _ (m_lt h_inb_x1_4)).1 h_4 dS_putShare_36 ?_
        refine lv_iload_n hx hb dS_putShare_37 rfl (lv_at hl 2 rfl) ?_
        refine lv_aload_n hx hb dS_putShare_38 rfl (lv_at hl 0 rfl) ?_
        refine m_getR (k' := 1) hx hb hts in_S hown hK hZ (qb 0 (by decide)).2 (qb 0 (by decide)).1 rfl 0 (by decide) (hts _ k1_130) (fun _ h9 => h9) rfl dS_putShare_39 ?_
        refine m_getR (k' := 14) hx hb hts in_P hown hK hZ (by decide) rfl rfl 12 (by decide) (hts _ k1_59) (fun _ h9 => h9) rfl dS_putShare_42 ?_
        refine lv_iload_n hx hb dS_putShare_45 rfl (lv_at hl 1 rfl) ?_
        refine m_aald hx hb hK hZ (by decide) rfl h_inb_x1_4 dS_putShare_46 ?_
        refine lv_iload_n hx hb dS_putShare_47 rfl (lv_at hl 3 rfl) ?_
        refine m_iald hx hb hK hZ (grX_14 _ (m_lt h_inb_x1_4)).2 (grX_14 _ (m_lt h_inb_x1_4)).1 h_4 dS_putShare_48 ?_
        refine lv_imul hx hb dS_putShare_49 ?_
        refine lv_iadd hx hb dS_putShare_50 ?_
        obtain ⟨M_5, eM_5, hf⟩ := m_lx hf
        refine m_iast hx hb hK hZ ((grX_S_4 qb) _ (m_lt h_3)).2 ((grX_S_4 qb) _ (m_lt h_3)).1 h_4 dS_putShare_51 eM_5 (fun H locs hZ => ?_)
        refine lv_aload_n hx hb dS_putShare_52 rfl (lv_at hl 0 rfl) ?_
        refine m_getR (k' := (b + 9)) hx hb hts in_S hown hK hZ (qb 0 (by decide)).2 (qb 0 (by decide)).1 rfl 5 (by decide) (hts _ k1_135) (fun _ h9 => h9) rfl dS_putShare_53 ?_
        refine lv_iload_n hx hb dS_putShare_56 rfl (lv_at hl 1 rfl) ?_
        refine lv_iconst (v := 1) hx hb dS_putShare_57 (by decide) ?_
        refine lv_iadd hx hb dS_putShare_58 ?_
        refine m_aald hx hb hK hZ (qb 9 (by decide)).2 (qb 9 (by decide)).1 h_3 dS_putShare_59 ?_
        refine lv_iload_n hx hb dS_putShare_60 rfl (lv_at hl 3 rfl) ?_
        refine lv_aload_n hx hb dS_putShare_61 rfl (lv_at hl 0 rfl) ?_
        refine m_getR (k' := (b + 9)) hx hb hts in_S hown hK hZ (qb 0 (by decide)).2 (qb 0 (by decide)).1 rfl 5 (by decide) (hts _ k1_135) (fun _ h9 => h9) rfl dS_putShare_62 ?_
        refine lv_iload_n hx hb dS_putShare_65 rfl (lv_at hl 1 rfl) ?_
        refine m_aald hx hb hK hZ (qb 9 (by decide)).2 (qb 9 (by decide)).1 h_inb_x1_4 dS_putShare_66 ?_
        refine lv_iload_n hx hb dS_putShare_67 rfl (lv_at hl 3 rfl) ?_
        refine m_iald hx hb hK hZ ((grX_S_9 qb) _ (m_lt h_inb_x1_4)).2 ((grX_S_9 qb) _ (m_lt h_inb_x1_4)).1 h_4 dS_putShare_68 ?_
        refine lv_iload_n hx hb dS_putShare_69 rfl (lv_at hl 2 rfl) ?_
        refine lv_aload_n hx hb dS_putShare_70 rfl (lv_at hl 0 rfl) ?_
        refine m_getR (k' := 1) hx hb hts in_S hown hK hZ (qb 0 (by decide)).2 (qb 0 (by decide)).1 rfl 0 (by decide) (hts _ k1_130) (fun _ h9 => h9) rfl dS_putShare_71 ?_
        refine m_getR (k' := 19) hx hb hts in_P hown hK hZ (by decide) rfl rfl 13 (by decide) (hts _ k1_62) (fun _ h9 => h9) rfl dS_putShare_74 ?_
        refine lv_iload_n hx hb dS_putShare_77 rfl (lv_at hl 1 rfl) ?_
        refine m_aald hx hb hK hZ (by decide) rfl h_inb_x1_4 dS_putShare_78 ?_
        refine lv_iload_n hx hb dS_putShare_79 rfl (lv_at hl 3 rfl) ?_
        refine m_iald hx hb hK hZ (grX_19 _ (m_lt h_inb_x1_4)).2 (grX_19 _ (m_lt h_inb_x1_4)).1 h_4 dS_putShare_80 ?_
        refine lv_imul hx hb dS_putShare_81 ?_
        refine lv_iadd hx hb dS_putShare_82 ?_
        obtain ⟨M_6, eM_6, hf⟩ := m_lx hf
        refine m_iast hx hb hK hZ ((grX_S_9 qb) _ (m_lt h_3)).2 ((grX_S_9 qb) _ (m_lt h_3)).1 h_4 dS_putShare_83 eM_6 (fun H locs hZ => ?_)
        obtain ⟨x3_7, ex3_7, hf⟩ := m_lx hf
        refine lv_iinc (v := x3_7) (lv' := [(3, .int x3_7), (0, .ref (ad b)), (1, .int x1), (2, .int x2)]) hx hb dS_putShare_84 hl (k := 3) rfl (by rw [ex3_7]; rfl) (by decide) rfl (fun ls hl => ?_)
        refine lv_goto (tgt := 9) hx hb dS_putShare_87 (by decide) ?_
        exact ih9 _ _ hf _ _ _ hZ (lv_sub hl [1, 2, 3, 0] rfl)
  refine lv_aload_n hx hb dS_putShare_0 rfl (lv_at hl 0 rfl) ?_
  refine m_getR (k' := (b + 3)) hx hb hts in_S hown hK hZ (qb 0 (by decide)).2 (qb 0 (by decide)).1 rfl 3 (by decide) (hts _ k1_133) (fun _ h9 => h9) rfl dS_putShare_1 ?_
  refine lv_iload_n hx hb dS_putShare_4 rfl (lv_at hl 1 rfl) ?_
  refine lv_iload_n hx hb dS_putShare_5 rfl (lv_at hl 2 rfl) ?_
  obtain ⟨h_inb_x1_4, hf⟩ := m_gx hf
  obtain ⟨M_1, eM_1, hf⟩ := m_lx hf
  refine m_iast hx hb hK hZ (qb 3 (by decide)).2 (qb 3 (by decide)).1 h_inb_x1_4 dS_putShare_6 eM_1 (fun H locs hZ => ?_)
  refine lv_iconst (v := 0) hx hb dS_putShare_7 (by decide) ?_
  refine lv_istore_n (lv' := [(3, .int 0), (0, .ref (ad b)), (1, .int x1), (2, .int x2)]) hx hb dS_putShare_8 rfl hl (by decide) rfl (fun ls hl => ?_)
  exact L9 128 M_1 0 hf _ _ _ hZ (lv_sub hl [1, 2, 3, 0] rfl)
end
section
def rmS_fillFrom (n : Nat) : Room := { frames := 2 + 1 * n, cells := 0, slots := 0, locals := 55 + 29 * n }
set_option maxHeartbeats 4000000 in
set_option maxRecDepth 100000 in
theorem cS_fillFrom (l : Launch) (D : va_G) (ad : Nat → Nat) (c3 : ClassId × ClassId × ClassId) : ∀ (n : Nat) (M : mMem) (b : Nat) (x1 : Int32) (x2 : Int32) (x3 : Int32) (x4 : Int32) (qb : isX_S b) {M' : mMem}, fS_fillFrom n M b x1 x2 x3 x4 = some M' → kVX l D ad c3 yS_fillFrom wS_fillFrom (rmS_fillFrom n) [.ref (ad b), .int x1, .int x2, .int x3, .int x4] M M'
  | 0, _, _, _, _, _, _, _, _ => fun hf => m_none hf
  | n + 1, M, b, x1, x2, x3, x4, qb, M' => fun hf => by
    have ih := cS_fillFrom l D ad c3 n
    rw [fS_fillFrom] at hf
    refine m_oV (cc := bS_fillFrom) (maxL := 10) (own := R_S) nestX (by decide) rfl (Nat.le_of_ble_eq_true rfl) rfl (fun p e s m args below meth c Q hx hb hml hown hts hK hN hret ls hZ hl => ?_)
    have hl : lv_has ls 10 [(0, .ref (ad b)), (1, .int x1), (2, .int x2), (3, .int x3), (4, .int x4)] := hl
    have L121 : ∀ (x6 : Int32) (n121 : Nat) (M : mMem) (x7 : Int32), fS_fillFrom_L121 (fS_fillFrom n) b x1 x2 x3 x4 x6 n121 M x7 = some M' → ∀ (H : Heap) (locs : List Loc) (ls : Array Slot), zX D ad c3 s H locs M → lv_has ls 10 [(0, .ref (ad b)), (1, .int x1), (2, .int x2), (3, .int x3), (4, .int x4), (6, .int x6), (7, .int x7)] → W p l e (rmS_fillFrom (n + 1)) s m args below meth c H locs 0 0 Q (F0 m 121 ls []) := by
      intro x6 n121
      induction n121 with
      | zero => intro M x7 hf; exact m_none hf
      | succ n121 ih121 =>
        intro M x7 hf H locs ls hZ hl
        rw [fS_fillFrom_L121] at hf
        have B191 : ∀ (M : mMem) (x7 : Int32) (x8 : Int32) (s0 : Int32), fS_fillFrom_B191 (fS_fillFrom_L121 (fS_fillFrom n) b x1 x2 x3 x4 x6 n121) (fS_fillFrom n) b x1 x2 x4 M x7 x8 s0 = some M' → ∀ (H : Heap) (locs : List Loc) (ls : Array Slot), zX D ad c3 s H locs M → lv_has ls 10 [(0, .ref (ad b)), (1, .int x1), (2, .int x2), (3, .int x3), (4, .int x4), (6, .int x6), (7, .int x7), (8, .int x8)] → W p l e (rmS_fillFrom (n + 1)) s m args below meth c H locs 0 0 Q (F0 m 191 ls [.int s0]) := by
          intro M x7 x8 s0 hf H locs ls hZ hl
          unfold fS_fillFrom_B191 at hf
          refine lv_istore (lv' := [(9, .int s0), (0, .ref (ad b)), (1, .int x1), (2, .int x2), (3, .int x3), (4, .int x4), (6, .int x6), (7, .int x7), (8, .int x8)]) hx hb dS_fillFrom_191 hl (by decide) rfl (fun ls hl => ?_)
          refine lv_aload_n hx hb dS_fillFrom_193 rfl (lv_at hl 1 rfl) ?_
          refine lv_iload_n hx hb dS_fillFrom_194 rfl (lv_at hl 2 rfl) ?_
          refine lv_iconst (v := 1) hx hb dS_fillFrom_195 (by decide) ?_
          refine lv_iadd hx hb dS_fillFrom_196 ?_
          refine lv_iload_n hx hb dS_fillFrom_197 rfl (lv_at hl 3 rfl) ?_
          refine lv_iload hx hb dS_fillFrom_198 (lv_at hl 8 rfl) ?_
          refine lv_isub hx hb dS_fillFrom_200 ?_
          refine lv_iload hx hb dS_fillFrom_201 (lv_at hl 0 rfl) ?_
          refine lv_iload hx hb dS_fillFrom_203 (lv_at hl 5 rfl) ?_
          refine lv_iload hx hb dS_fillFrom_205 (lv_at hl 8 rfl) ?_
          refine lv_aload_n hx hb dS_fillFrom_207 rfl (lv_at hl 1 rfl) ?_
          refine m_getR (k' := 1) hx hb hts in_S hown hK hZ (qb 0 (by decide)).2 (qb 0 (by decide)).1 rfl 0 (by decide) (hts _ k1_130) (fun _ h9 => h9) rfl dS_fillFrom_208 ?_
          refine m_getR (k' := 4) hx hb hts in_P hown hK hZ (by decide) rfl rfl 6 (by decide) (hts _ k1_46) (fun _ h9 => h9) rfl dS_fillFrom_211 ?_
          refine lv_iload_n hx hb dS_fillFrom_214 rfl (lv_at hl 2 rfl) ?_
          obtain ⟨h_inb_x1_4, hf⟩ := m_gx hf
          refine m_iald hx hb hK hZ (by decide) rfl h_inb_x1_4 dS_fillFrom_215 ?_
          refine lv_imul hx hb dS_fillFrom_216 ?_
          refine lv_iadd hx hb dS_fillFrom_217 ?_
          obtain ⟨M_19, hc, hf⟩ := m_b1x hf
          refine m_cv (va_runV (As := [.int (x1 + 1), .int (x2 - x8), .int s0, .int (x4 + (x8 * (M 4 x1.toNatClampNeg)))]) (rest := []) ⟨hx, hb, hml, hown, hts⟩ (ih M b (x1 + 1) (x2 - x8) s0 (x4 + (x8 * (M 4 x1.toNatClampNeg))) qb hc) (cwV 4 hts (gV k2_152 k2_154 kp_5 k1_3 kc_S_fillFrom) rfl rfl rfl (by decide +kernel) ⟨by simp only [rmS_fillFrom, rmS_fillFrom]; omega, by simp only [rmS_fillFrom, rmS_fillFrom]; omega⟩) (m_preV hK hN hZ (qb 0 (by decide)).2 (qb 0 (by decide)).1 rfl) rfl rfl hl.1 rfl (lv_room (Nat.le_of_ble_eq_true rfl)) dS_fillFrom_218 ⟨Nat.zero_le _, Nat.zero_le _⟩) hZ (fun H locs hZ => ?_)
          obtain ⟨x7_20, ex7_20, hf⟩ := m_lx hf
          refine lv_iinc (v := x7_20) (lv' := [(7, .int x7_20), (9, .int s0), (0, .ref (ad b)), (1, .int x1), (2, .int x2), (3, .int x3), (4, .int x4), (6, .int x6), (8, .int x8)]) hx hb dS_fillFrom_221 hl (k := 7) rfl (by rw [ex7_20]; rfl) (by decide) rfl (fun ls hl => ?_)
          refine lv_goto (tgt := 121) hx hb dS_fillFrom_224 (by decide) ?_
          exact ih121 _ _ hf _ _ _ hZ (lv_sub hl [2, 3, 4, 5, 6, 7, 0] rfl)
        refine lv_iload hx hb dS_fillFrom_121 (lv_at hl 6 rfl) ?_
        refine lv_bipush (v := 100) hx hb dS_fillFrom_123 (by decide) ?_
        refine lv_icmp_gt (tgt := 227) hx hb dS_fillFrom_125 (by decide) (fun c_12 => ?_) (fun c_12 => ?_)
        · have hf := m_t hf c_12
          exact hret _ _ _ _ _ hf hZ dS_fillFrom_227
        · have hf := m_f hf c_12
          refine lv_iload hx hb dS_fillFrom_128 (lv_at hl 6 rfl) ?_
          refine lv_aload_n hx hb dS_fillFrom_130 rfl (lv_at hl 0 rfl) ?_
          refine m_getR (k' := 1) hx hb hts in_S hown hK hZ (qb 0 (by decide)).2 (qb 0 (by decide)).1 rfl 0 (by decide) (hts _ k1_130) (fun _ h9 => h9) rfl dS_fillFrom_131 ?_
          refine m_get hx hb hts in_P hown hK hZ (by decide) rfl rfl 3 (by decide) (hts _ k1_37) (fun _ h9 => h9) rfl dS_fillFrom_134 ?_
          refine lv_imul hx hb dS_fillFrom_137 ?_
          obtain ⟨x8_13, ex8_13, hf⟩ := m_lx hf
          refine m_topi ex8_13 ?_
          refine lv_istore (lv' := [(8, .int x8_13), (0, .ref (ad b)), (1, .int x1), (2, .int x2), (3, .int x3), (4, .int x4), (6, .int x6), (7, .int x7)]) hx hb dS_fillFrom_138 hl (by decide) rfl (fun ls hl => ?_)
          refine lv_iload hx hb dS_fillFrom_140 (lv_at hl 0 rfl) ?_
          refine lv_iload hx hb dS_fillFrom_142 (lv_at hl 6 rfl) ?_
          refine lv_icmp_le (tgt := 150) hx hb dS_fillFrom_144 (by decide) (fun c_14 => ?_) (fun c_14 => ?_)
          · have hf := m_t hf c_14
            refine lv_iload hx hb dS_fillFrom_150 (lv_at hl 0 rfl) ?_
            refine lv_aload_n hx hb dS_fillFrom_152 rfl (lv_at hl 1 rfl) ?_
            refine m_getR (k' := 1) hx hb hts in_S hown hK hZ (qb 0 (by decide)).2 (qb 0 (by decide)).1 rfl 0 (by decide) (hts _ k1_130) (fun _ h9 => h9) rfl dS_fillFrom_153 ?_
            refine m_getR (k' := 5) hx hb hts in_P hown hK hZ (by decide) rfl rfl 7 (by decide) (hts _ k1_48) (fun _ h9 => h9) rfl dS_fillFrom_156 ?_
            refine lv_iload_n hx hb dS_fillFrom_159 rfl (lv_at hl 2 rfl) ?_
            obtain ⟨h_inb_x1_4, hf⟩ := m_gx hf
            refine m_iald hx hb hK hZ (by decide) rfl h_inb_x1_4 dS_fillFrom_160 ?_
            refine lv_icmp_lt (tgt := 221) hx hb dS_fillFrom_161 (by decide) (fun c_15 => ?_) (fun c_15 => ?_)
            · have hf := m_t hf c_15
              obtain ⟨x7_16, ex7_16, hf⟩ := m_lx hf
              refine lv_iinc (v := x7_16) (lv' := [(7, .int x7_16), (8, .int x8_13), (0, .ref (ad b)), (1, .int x1), (2, .int x2), (3, .int x3), (4, .int x4), (6, .int x6)]) hx hb dS_fillFrom_221 hl (k := 7) rfl (by rw [ex7_16]; rfl) (by decide) rfl (fun ls hl => ?_)
              refine lv_goto (tgt := 121) hx hb dS_fillFrom_224 (by decide) ?_
              exact ih121 _ _ hf _ _ _ hZ (lv_sub hl [2, 3, 4, 5, 6, 7, 0] rfl)
            · have hf := m_f hf c_15
              refine lv_aload_n hx hb dS_fillFrom_164 rfl (lv_at hl 1 rfl) ?_
              refine lv_iload_n hx hb dS_fillFrom_165 rfl (lv_at hl 2 rfl) ?_
              refine lv_iload hx hb dS_fillFrom_166 (lv_at hl 0 rfl) ?_
              obtain ⟨M_17, hc, hf⟩ := m_b1x hf
              refine m_cv (va_runV (As := [.int x1, .int x8_13]) (rest := []) ⟨hx, hb, hml, hown, hts⟩ (cS_putShare l D ad c3 M b x1 x8_13 qb hc) (cwV 2 hts (gV k2_171 k2_173 kp_8 k1_3 kc_S_putShare) rfl rfl rfl (by decide +kernel) ⟨by simp only [rmS_fillFrom, rmS_putShare]; omega, by simp only [rmS_fillFrom, rmS_putShare]; omega⟩) (m_preV hK hN hZ (qb 0 (by decide)).2 (qb 0 (by decide)).1 rfl) rfl rfl hl.1 rfl (lv_room (Nat.le_of_ble_eq_true rfl)) dS_fillFrom_168 ⟨Nat.zero_le _, Nat.zero_le _⟩) hZ (fun H locs hZ => ?_)
              refine lv_aload_n hx hb dS_fillFrom_171 rfl (lv_at hl 1 rfl) ?_
              refine m_getR (k' := 1) hx hb hts in_S hown hK hZ (qb 0 (by decide)).2 (qb 0 (by decide)).1 rfl 0 (by decide) (hts _ k1_130) (fun _ h9 => h9) rfl dS_fillFrom_172 ?_
              refine m_getR (k' := 7) hx hb hts in_P hown hK hZ (by decide) rfl rfl 9 (by decide) (hts _ k1_52) (fun _ h9 => h9) rfl dS_fillFrom_175 ?_
              refine lv_iload_n hx hb dS_fillFrom_178 rfl (lv_at hl 2 rfl) ?_
              refine m_zald hx hb hK hZ (by decide) rfl h_inb_x1_4 dS_fillFrom_179 ?_
              refine lv_if_eq (tgt := 190) hx hb dS_fillFrom_180 (by decide) (fun c_18 => ?_) (fun c_18 => ?_)
              · have hf := m_t hf c_18
                refine lv_iload_n hx hb dS_fillFrom_190 rfl (lv_at hl 4 rfl) ?_
                exact B191 M_17 x7 x8_13 x3 hf _ _ _ hZ (lv_sub hl [1, 2, 3, 4, 5, 6, 7, 0] rfl)
              · have hf := m_f hf c_18
                refine lv_iload_n hx hb dS_fillFrom_183 rfl (lv_at hl 4 rfl) ?_
                refine lv_iload hx hb dS_fillFrom_184 (lv_at hl 0 rfl) ?_
                refine lv_isub hx hb dS_fillFrom_186 ?_
                refine lv_goto (tgt := 191) hx hb dS_fillFrom_187 (by decide) ?_
                exact B191 M_17 x7 x8_13 (x3 - x8_13) hf _ _ _ hZ (lv_sub hl [1, 2, 3, 4, 5, 6, 7, 0] rfl)
          · have hf := m_f hf c_14
            refine lv_goto (tgt := 227) hx hb dS_fillFrom_147 (by decide) ?_
            exact hret _ _ _ _ _ hf hZ dS_fillFrom_227
    have B37 : ∀ (M : mMem) (s0 : Int32), fS_fillFrom_B37 (fS_fillFrom n) b x1 x2 x3 x4 M s0 = some M' → ∀ (H : Heap) (locs : List Loc) (ls : Array Slot), zX D ad c3 s H locs M → lv_has ls 10 [(0, .ref (ad b)), (1, .int x1), (2, .int x2), (3, .int x3), (4, .int x4)] → W p l e (rmS_fillFrom (n + 1)) s m args below meth c H locs 0 0 Q (F0 m 37 ls [.int s0]) := by
      intro M s0 hf H locs ls hZ hl
      unfold fS_fillFrom_B37 at hf
      refine lv_istore (lv' := [(5, .int s0), (0, .ref (ad b)), (1, .int x1), (2, .int x2), (3, .int x3), (4, .int x4)]) hx hb dS_fillFrom_37 hl (by decide) rfl (fun ls hl => ?_)
      refine lv_iload hx hb dS_fillFrom_39 (lv_at hl 0 rfl) ?_
      refine lv_aload_n hx hb dS_fillFrom_41 rfl (lv_at hl 1 rfl) ?_
      refine m_getR (k' := 1) hx hb hts in_S hown hK hZ (qb 0 (by decide)).2 (qb 0 (by decide)).1 rfl 0 (by decide) (hts _ k1_130) (fun _ h9 => h9) rfl dS_fillFrom_42 ?_
      refine m_getR (k' := 6) hx hb hts in_P hown hK hZ (by decide) rfl rfl 8 (by decide) (hts _ k1_50) (fun _ h9 => h9) rfl dS_fillFrom_45 ?_
      refine lv_iload_n hx hb dS_fillFrom_48 rfl (lv_at hl 2 rfl) ?_
      obtain ⟨h_inb_x1_4, hf⟩ := m_gx hf
      refine m_iald hx hb hK hZ (by decide) rfl h_inb_x1_4 dS_fillFrom_49 ?_
      refine va_mmin hx hb (hml.trans hl.1.symm) hown (hts _ k2_156) (hts _ k2_91) (hts _ k1_9) (hts _ kc_math_min) (by simp only [rmS_fillFrom]; omega) (Nat.le_of_ble_eq_true rfl) (Nat.zero_le _) (Nat.zero_le _) dS_fillFrom_50 ?_
      obtain ⟨x6_4, ex6_4, hf⟩ := m_lx hf
      refine m_topi ex6_4 ?_
      refine lv_istore (lv' := [(6, .int x6_4), (5, .int s0), (0, .ref (ad b)), (1, .int x1), (2, .int x2), (3, .int x3), (4, .int x4)]) hx hb dS_fillFrom_53 hl (by decide) rfl (fun ls hl => ?_)
      refine lv_iload_n hx hb dS_fillFrom_55 rfl (lv_at hl 3 rfl) ?_
      refine lv_aload_n hx hb dS_fillFrom_56 rfl (lv_at hl 2 rfl) ?_
      refine m_getR (k' := 1) hx hb hts in_S hown hK hZ (qb 0 (by decide)).2 (qb 0 (by decide)).1 rfl 0 (by decide) (hts _ k1_130) (fun _ h9 => h9) rfl dS_fillFrom_57 ?_
      refine m_get hx hb hts in_P hown hK hZ (by decide) rfl rfl 1 (by decide) (hts _ k1_32) (fun _ h9 => h9) rfl dS_fillFrom_60 ?_
      refine lv_iconst (v := 1) hx hb dS_fillFrom_63 (by decide) ?_
      refine lv_isub hx hb dS_fillFrom_64 ?_
      refine lv_icmp_ne (tgt := 118) hx hb dS_fillFrom_65 (by decide) (fun c_5 => ?_) (fun c_5 => ?_)
      · have hf := m_f hf c_5
        refine lv_iconst (v := 0) hx hb dS_fillFrom_118 (by decide) ?_
        refine lv_istore (lv' := [(7, .int 0), (6, .int x6_4), (5, .int s0), (0, .ref (ad b)), (1, .int x1), (2, .int x2), (3, .int x3), (4, .int x4)]) hx hb dS_fillFrom_119 hl (by decide) rfl (fun ls hl => ?_)
        exact L121 x6_4 128 M 0 hf _ _ _ hZ (lv_sub hl [3, 4, 5, 6, 7, 1, 0] rfl)
      · have hf := m_t hf c_5
        refine lv_iload_n hx hb dS_fillFrom_68 rfl (lv_at hl 4 rfl) ?_
        refine lv_aload_n hx hb dS_fillFrom_69 rfl (lv_at hl 2 rfl) ?_
        refine m_getR (k' := 1) hx hb hts in_S hown hK hZ (qb 0 (by decide)).2 (qb 0 (by decide)).1 rfl 0 (by decide) (hts _ k1_130) (fun _ h9 => h9) rfl dS_fillFrom_70 ?_
        refine m_getR (k' := 5) hx hb hts in_P hown hK hZ (by decide) rfl rfl 7 (by decide) (hts _ k1_48) (fun _ h9 => h9) rfl dS_fillFrom_73 ?_
        refine lv_iload_n hx hb dS_fillFrom_76 rfl (lv_at hl 3 rfl) ?_
        refine m_iald hx hb hK hZ (by decide) rfl h_inb_x1_4 dS_fillFrom_77 ?_
        refine lv_iload hx hb dS_fillFrom_78 (lv_at hl 0 rfl) ?_
        obtain ⟨r_6, hc, hf⟩ := m_b1x hf
        refine m_ci (va_runSN (As := [.int x2, .int (M 5 x1.toNatClampNeg), .int x6_4]) (rest := []) ⟨hx, hb, hml, hown, hts⟩ (cG_within l D ad c3 M x2 (M 5 x1.toNatClampNeg) x6_4 hc) ⟨va_cnB 3 hts (gN kc_G_within) rfl rfl rfl (hN.2 _ nk_8) (hts _ k1_1) (by decide +kernel) ⟨by simp only [rmS_fillFrom, rmG_within]; omega, by simp only [rmS_fillFrom, rmG_within]; omega⟩, (hts _ k2_69), trivial⟩ (m_preS hK hN hZ) rfl rfl hl.1 rfl (lv_room (Nat.le_of_ble_eq_true rfl)) dS_fillFrom_80 ⟨Nat.zero_le _, Nat.zero_le _⟩) hZ (fun H locs hZ => ?_)
        refine lv_if_eq (tgt := 117) hx hb dS_fillFrom_83 (by decide) (fun c_7 => ?_) (fun c_7 => ?_)
        · have hf := m_t hf c_7
          exact hret _ _ _ _ _ hf hZ dS_fillFrom_117
        · have hf := m_f hf c_7
          refine lv_aload_n hx hb dS_fillFrom_86 rfl (lv_at hl 2 rfl) ?_
          refine m_getR (k' := (b + 3)) hx hb hts in_S hown hK hZ (qb 0 (by decide)).2 (qb 0 (by decide)).1 rfl 3 (by decide) (hts _ k1_133) (fun _ h9 => h9) rfl dS_fillFrom_87 ?_
          refine lv_iload_n hx hb dS_fillFrom_90 rfl (lv_at hl 3 rfl) ?_
          refine lv_iload_n hx hb dS_fillFrom_91 rfl (lv_at hl 4 rfl) ?_
          obtain ⟨M_8, eM_8, hf⟩ := m_lx hf
          refine m_iast hx hb hK hZ (qb 3 (by decide)).2 (qb 3 (by decide)).1 h_inb_x1_4 dS_fillFrom_92 eM_8 (fun H locs hZ => ?_)
          refine lv_aload_n hx hb dS_fillFrom_93 rfl (lv_at hl 2 rfl) ?_
          refine lv_iload hx hb dS_fillFrom_94 (lv_at hl 6 rfl) ?_
          refine lv_iload_n hx hb dS_fillFrom_96 rfl (lv_at hl 4 rfl) ?_
          refine lv_aload_n hx hb dS_fillFrom_97 rfl (lv_at hl 2 rfl) ?_
          refine m_getR (k' := 1) hx hb hts in_S hown hK hZ (qb 0 (by decide)).2 (qb 0 (by decide)).1 rfl 0 (by decide) (hts _ k1_130) (fun _ h9 => h9) rfl dS_fillFrom_98 ?_
          refine m_getR (k' := 4) hx hb hts in_P hown hK hZ (by decide) rfl rfl 6 (by decide) (hts _ k1_46) (fun _ h9 => h9) rfl dS_fillFrom_101 ?_
          refine lv_iload_n hx hb dS_fillFrom_104 rfl (lv_at hl 3 rfl) ?_
          refine m_iald hx hb hK hZ (by decide) rfl h_inb_x1_4 dS_fillFrom_105 ?_
          refine lv_imul hx hb dS_fillFrom_106 ?_
          refine lv_iadd hx hb dS_fillFrom_107 ?_
          refine lv_aload_n hx hb dS_fillFrom_108 rfl (lv_at hl 2 rfl) ?_
          refine lv_iload_n hx hb dS_fillFrom_109 rfl (lv_at hl 3 rfl) ?_
          refine lv_iload_n hx hb dS_fillFrom_110 rfl (lv_at hl 4 rfl) ?_
          obtain ⟨r_9, M_10, hc, hf⟩ := m_b2x hf
          refine m_ci (va_runV (As := [.int x1, .int x2]) (rest := [.int (x4 + (x2 * (M_8 4 x1.toNatClampNeg))), .ref (ad b)]) ⟨hx, hb, hml, hown, hts⟩ (cS_missOfAll l D ad c3 M_8 b x1 x2 qb hc) (cwV 2 hts (gV k2_158 k2_160 kp_6 k1_3 kc_S_missOfAll) rfl rfl rfl (by decide +kernel) ⟨by simp only [rmS_fillFrom, rmS_missOfAll]; omega, by simp only [rmS_fillFrom, rmS_missOfAll]; omega⟩) (m_preV hK hN hZ (qb 0 (by decide)).2 (qb 0 (by decide)).1 rfl) rfl rfl hl.1 rfl (lv_room (Nat.le_of_ble_eq_true rfl)) dS_fillFrom_111 ⟨Nat.zero_le _, Nat.zero_le _⟩) hZ (fun H locs hZ => ?_)
          obtain ⟨M_11, hc, hf⟩ := m_b1x hf
          refine m_cv (va_runV (As := [.int (x4 + (x2 * (M_8 4 x1.toNatClampNeg))), .int r_9]) (rest := []) ⟨hx, hb, hml, hown, hts⟩ (cS_lookAt l D ad c3 M_10 b (x4 + (x2 * (M_8 4 x1.toNatClampNeg))) r_9 qb hc) (cwV 2 hts (gV k2_163 k2_165 kp_7 k1_3 kc_S_lookAt) rfl rfl rfl (by decide +kernel) ⟨by simp only [rmS_fillFrom, rmS_lookAt]; omega, by simp only [rmS_fillFrom, rmS_lookAt]; omega⟩) (m_preV hK hN hZ (qb 0 (by decide)).2 (qb 0 (by decide)).1 rfl) rfl rfl hl.1 rfl (lv_room (Nat.le_of_ble_eq_true rfl)) dS_fillFrom_114 ⟨Nat.zero_le _, Nat.zero_le _⟩) hZ (fun H locs hZ => ?_)
          exact hret _ _ _ _ _ hf hZ dS_fillFrom_117
    refine lv_iload_n hx hb dS_fillFrom_0 rfl (lv_at hl 1 rfl) ?_
    refine lv_if_lt (tgt := 15) hx hb dS_fillFrom_1 (by decide) (fun c_1 => ?_) (fun c_1 => ?_)
    · have hf := m_t hf c_1
      exact hret _ _ _ _ _ hf hZ dS_fillFrom_15
    · have hf := m_f hf c_1
      refine lv_iload_n hx hb dS_fillFrom_4 rfl (lv_at hl 1 rfl) ?_
      refine lv_aload_n hx hb dS_fillFrom_5 rfl (lv_at hl 0 rfl) ?_
      refine m_getR (k' := 1) hx hb hts in_S hown hK hZ (qb 0 (by decide)).2 (qb 0 (by decide)).1 rfl 0 (by decide) (hts _ k1_130) (fun _ h9 => h9) rfl dS_fillFrom_6 ?_
      refine m_get hx hb hts in_P hown hK hZ (by decide) rfl rfl 1 (by decide) (hts _ k1_32) (fun _ h9 => h9) rfl dS_fillFrom_9 ?_
      refine lv_icmp_lt (tgt := 16) hx hb dS_fillFrom_12 (by decide) (fun c_2 => ?_) (fun c_2 => ?_)
      · have hf := m_t hf c_2
        refine lv_aload_n hx hb dS_fillFrom_16 rfl (lv_at hl 0 rfl) ?_
        refine m_getR (k' := 1) hx hb hts in_S hown hK hZ (qb 0 (by decide)).2 (qb 0 (by decide)).1 rfl 0 (by decide) (hts _ k1_130) (fun _ h9 => h9) rfl dS_fillFrom_17 ?_
        refine m_getR (k' := 7) hx hb hts in_P hown hK hZ (by decide) rfl rfl 9 (by decide) (hts _ k1_52) (fun _ h9 => h9) rfl dS_fillFrom_20 ?_
        refine lv_iload_n hx hb dS_fillFrom_23 rfl (lv_at hl 1 rfl) ?_
        obtain ⟨h_inb_x1_4, hf⟩ := m_gx hf
        refine m_zald hx hb hK hZ (by decide) rfl h_inb_x1_4 dS_fillFrom_24 ?_
        refine lv_if_eq (tgt := 36) hx hb dS_fillFrom_25 (by decide) (fun c_3 => ?_) (fun c_3 => ?_)
        · have hf := m_t hf c_3
          refine lv_iload_n hx hb dS_fillFrom_36 rfl (lv_at hl 2 rfl) ?_
          exact B37 M x2 hf _ _ _ hZ (lv_sub hl [0, 1, 2, 3, 4] rfl)
        · have hf := m_f hf c_3
          refine lv_iload_n hx hb dS_fillFrom_28 rfl (lv_at hl 2 rfl) ?_
          refine lv_iload_n hx hb dS_fillFrom_29 rfl (lv_at hl 3 rfl) ?_
          refine va_mmin hx hb (hml.trans hl.1.symm) hown (hts _ k2_156) (hts _ k2_91) (hts _ k1_9) (hts _ kc_math_min) (by simp only [rmS_fillFrom]; omega) (Nat.le_of_ble_eq_true rfl) (Nat.zero_le _) (Nat.zero_le _) dS_fillFrom_30 ?_
          refine lv_goto (tgt := 37) hx hb dS_fillFrom_33 (by decide) ?_
          exact B37 M (if x3 < x2 then x3 else x2) hf _ _ _ hZ (lv_sub hl [0, 1, 2, 3, 4] rfl)
      · have hf := m_f hf c_2
        exact hret _ _ _ _ _ hf hZ dS_fillFrom_15
abbrev rmS_lookAtAll : Room := { frames := 9, cells := 0, slots := 0, locals := 258 }
set_option maxHeartbeats 4000000 in
set_option maxRecDepth 100000 in
theorem cS_lookAtAll (l : Launch) (D : va_G) (ad : Nat → Nat) (c3 : ClassId × ClassId × ClassId) (M : mMem) (b : Nat) (qb : isX_S b) {M' : mMem} (hf : fS_lookAtAll M b = some M') : kVX l D ad c3 yS_lookAtAll wS_lookAtAll rmS_lookAtAll [.ref (ad b)] M M' := by
  refine m_oV (cc := bS_lookAtAll) (maxL := 2) (own := R_S) nestX (by decide) rfl (Nat.le_of_ble_eq_true rfl) rfl (fun p e s m args below meth c Q hx hb hml hown hts hK hN hret ls hZ hl => ?_)
  have hl : lv_has ls 2 [(0, .ref (ad b))] := hl
  unfold fS_lookAtAll at hf
  have B47 : ∀ (M : mMem), fS_lookAtAll_B47 b M = some M' → ∀ (H : Heap) (locs : List Loc) (ls : Array Slot), zX D ad c3 s H locs M → lv_has ls 2 [(0, .ref (ad b))] → W p l e rmS_lookAtAll s m args below meth c H locs 0 0 Q (F0 m 47 ls []) := by
    intro M hf H locs ls hZ hl
    unfold fS_lookAtAll_B47 at hf
    refine lv_aload_n hx hb dS_lookAtAll_47 rfl (lv_at hl 0 rfl) ?_
    refine lv_iconst (v := 0) hx hb dS_lookAtAll_48 (by decide) ?_
    refine lv_bipush (v := 100) hx hb dS_lookAtAll_49 (by decide) ?_
    refine lv_aload_n hx hb dS_lookAtAll_51 rfl (lv_at hl 0 rfl) ?_
    refine m_getR (k' := 1) hx hb hts in_S hown hK hZ (qb 0 (by decide)).2 (qb 0 (by decide)).1 rfl 0 (by decide) (hts _ k1_130) (fun _ h9 => h9) rfl dS_lookAtAll_52 ?_
    refine m_get hx hb hts in_P hown hK hZ (by decide) rfl rfl 2 (by decide) (hts _ k1_34) (fun _ h9 => h9) rfl dS_lookAtAll_55 ?_
    refine lv_iconst (v := 0) hx hb dS_lookAtAll_58 (by decide) ?_
    obtain ⟨M_6, hc, hf⟩ := m_b1x hf
    refine m_cv (va_runV (As := [.int 0, .int 100, .int (M 1 2), .int 0]) (rest := []) ⟨hx, hb, hml, hown, hts⟩ (cS_fillFrom l D ad c3 6 M b 0 100 (M 1 2) 0 qb hc) (cwV 4 hts (gV k2_152 k2_154 kp_5 k1_3 kc_S_fillFrom) rfl rfl rfl (by decide +kernel) ⟨by simp only [rmS_lookAtAll, rmS_fillFrom]; omega, by simp only [rmS_lookAtAll, rmS_fillFrom]; omega⟩) (m_preV hK hN hZ (qb 0 (by decide)).2 (qb 0 (by decide)).1 rfl) rfl rfl hl.1 rfl (lv_room (Nat.le_of_ble_eq_true rfl)) dS_lookAtAll_59 ⟨Nat.zero_le _, Nat.zero_le _⟩) hZ (fun H locs hZ => ?_)
    exact hret _ _ _ _ _ hf hZ dS_lookAtAll_62
  have L28 : ∀ (n28 : Nat) (M : mMem) (x1 : Int32), fS_lookAtAll_L28 b n28 M x1 = some M' → ∀ (H : Heap) (locs : List Loc) (ls : Array Slot), zX D ad c3 s H locs M → lv_has ls 2 [(0, .ref (ad b)), (1, .int x1)] → W p l e rmS_lookAtAll s m args below meth c H locs 0 0 Q (F0 m 28 ls []) := by
    intro n28
    induction n28 with
    | zero => intro M x1 hf; exact m_none hf
    | succ n28 ih28 =>
      intro M x1 hf H locs ls hZ hl
      rw [fS_lookAtAll_L28] at hf
      refine lv_iload_n hx hb dS_lookAtAll_28 rfl (lv_at hl 1 rfl) ?_
      refine lv_bipush (v := 6) hx hb dS_lookAtAll_29 (by decide) ?_
      refine lv_icmp_ge (tgt := 47) hx hb dS_lookAtAll_31 (by decide) (fun c_5 => ?_) (fun c_5 => ?_)
      · have hf := m_t hf c_5
        exact B47 M hf _ _ _ hZ (lv_sub hl [0] rfl)
      · have hf := m_f hf c_5
        refine lv_aload_n hx hb dS_lookAtAll_34 rfl (lv_at hl 0 rfl) ?_
        refine m_getR (k' := (b + 14)) hx hb hts in_S hown hK hZ (qb 0 (by decide)).2 (qb 0 (by decide)).1 rfl 6 (by decide) (hts _ k1_136) (fun _ h9 => h9) rfl dS_lookAtAll_35 ?_
        refine lv_iload_n hx hb dS_lookAtAll_38 rfl (lv_at hl 1 rfl) ?_
        refine lv_iconst (v := 0) hx hb dS_lookAtAll_39 (by decide) ?_
        obtain ⟨h_7, hf⟩ := m_gx hf
        obtain ⟨M_8, eM_8, hf⟩ := m_lx hf
        refine m_zast hx hb hK hZ (qb 14 (by decide)).2 (qb 14 (by decide)).1 h_7 dS_lookAtAll_40 eM_8 (by decide) (fun H locs hZ => ?_)
        obtain ⟨x1_9, ex1_9, hf⟩ := m_lx hf
        refine lv_iinc (v := x1_9) (lv' := [(1, .int x1_9), (0, .ref (ad b))]) hx hb dS_lookAtAll_41 hl (k := 1) rfl (by rw [ex1_9]; rfl) (by decide) rfl (fun ls hl => ?_)
        refine lv_goto (tgt := 28) hx hb dS_lookAtAll_44 (by decide) ?_
        exact ih28 _ _ hf _ _ _ hZ (lv_sub hl [1, 0] rfl)
  refine lv_aload_n hx hb dS_lookAtAll_0 rfl (lv_at hl 0 rfl) ?_
  refine lv_iconst (v := 0) hx hb dS_lookAtAll_1 (by decide) ?_
  obtain ⟨M_1, eM_1, hf⟩ := m_lx hf
  refine m_put (ty := .int) hx hb hts in_S ⟨ty_S_ok, nm_S_ok⟩ hown hK hZ (qb 0 (by decide)).2 (qb 0 (by decide)).1 rfl 9 (by decide) (hts _ k1_142) (fun _ h9 => h9) rfl (by decide +kernel) rfl rfl rfl dS_lookAtAll_2 eM_1 (fun H locs hZ => ?_)
  refine lv_aload_n hx hb dS_lookAtAll_5 rfl (lv_at hl 0 rfl) ?_
  refine lv_iconst (v := 0) hx hb dS_lookAtAll_6 (by decide) ?_
  obtain ⟨M_2, eM_2, hf⟩ := m_lx hf
  refine m_put (ty := .int) hx hb hts in_S ⟨ty_S_ok, nm_S_ok⟩ hown hK hZ (qb 0 (by decide)).2 (qb 0 (by decide)).1 rfl 10 (by decide) (hts _ k1_144) (fun _ h9 => h9) rfl (by decide +kernel) rfl rfl rfl dS_lookAtAll_7 eM_2 (fun H locs hZ => ?_)
  refine lv_aload_n hx hb dS_lookAtAll_10 rfl (lv_at hl 0 rfl) ?_
  refine m_getR (k' := (b + 15)) hx hb hts in_S hown hK hZ (qb 0 (by decide)).2 (qb 0 (by decide)).1 rfl 7 (by decide) (hts _ k1_138) (fun _ h9 => h9) rfl dS_lookAtAll_11 ?_
  refine lv_iconst (v := 0) hx hb dS_lookAtAll_14 (by decide) ?_
  obtain ⟨M_3, eM_3, hf⟩ := m_lx hf
  refine m_put (ty := .boolean) hx hb hts in_X ⟨ty_X_ok, nm_X_ok⟩ hown hK hZ (qb 15 (by decide)).2 (qb 15 (by decide)).1 rfl 0 (by decide) (hts _ k1_109) (fun _ h9 => h9) rfl (by decide +kernel) rfl rfl rfl dS_lookAtAll_15 eM_3 (fun H locs hZ => ?_)
  refine lv_aload_n hx hb dS_lookAtAll_18 rfl (lv_at hl 0 rfl) ?_
  refine m_getR (k' := (b + 17)) hx hb hts in_S hown hK hZ (qb 0 (by decide)).2 (qb 0 (by decide)).1 rfl 8 (by decide) (hts _ k1_140) (fun _ h9 => h9) rfl dS_lookAtAll_19 ?_
  refine lv_iconst (v := 0) hx hb dS_lookAtAll_22 (by decide) ?_
  obtain ⟨M_4, eM_4, hf⟩ := m_lx hf
  refine m_put (ty := .boolean) hx hb hts in_X ⟨ty_X_ok, nm_X_ok⟩ hown hK hZ (qb 17 (by decide)).2 (qb 17 (by decide)).1 rfl 0 (by decide) (hts _ k1_109) (fun _ h9 => h9) rfl (by decide +kernel) rfl rfl rfl dS_lookAtAll_23 eM_4 (fun H locs hZ => ?_)
  refine lv_iconst (v := 0) hx hb dS_lookAtAll_26 (by decide) ?_
  refine lv_istore_n (lv' := [(1, .int 0), (0, .ref (ad b))]) hx hb dS_lookAtAll_27 rfl hl (by decide) rfl (fun ls hl => ?_)
  exact L28 128 M_4 0 hf _ _ _ hZ (lv_sub hl [1, 0] rfl)
abbrev rmG_searchOnce : Room := { frames := 10, cells := 0, slots := 0, locals := 279 }
set_option maxHeartbeats 4000000 in
set_option maxRecDepth 100000 in
theorem cG_searchOnce (l : Launch) (D : va_G) (ad : Nat → Nat) (c3 : ClassId × ClassId × ClassId) (M : mMem)   {M' : mMem} (hf : fG_searchOnce M  = some M') : kVX l D ad c3 yG_searchOnce wG_searchOnce rmG_searchOnce [.ref (ad 0)] M M' := by
  refine m_oV (cc := bG_searchOnce) (maxL := 1) (own := R_G) nestX (by decide) rfl (Nat.le_of_ble_eq_true rfl) rfl (fun p e s m args below meth c Q hx hb hml hown hts hK hN hret ls hZ hl => ?_)
  have hl : lv_has ls 1 [(0, .ref (ad 0))] := hl
  unfold fG_searchOnce at hf
  refine lv_aload_n hx hb dG_searchOnce_0 rfl (lv_at hl 0 rfl) ?_
  refine m_get hx hb hts in_G hown hK hZ (by decide) rfl rfl 7 (by decide) (hts _ k2_15) (fun _ h9 => h9) rfl dG_searchOnce_1 ?_
  refine lv_if_ne (tgt := 26) hx hb dG_searchOnce_4 (by decide) (fun c_1 => ?_) (fun c_1 => ?_)
  · have hf := m_f hf c_1
    exact hret _ _ _ _ _ hf hZ dG_searchOnce_26
  · have hf := m_t hf c_1
    refine lv_aload_n hx hb dG_searchOnce_7 rfl (lv_at hl 0 rfl) ?_
    refine m_getR (k' := 24) hx hb hts in_G hown hK hZ (by decide) rfl rfl 1 (by decide) (hts _ k2_9) (fun _ h9 => h9) rfl dG_searchOnce_8 ?_
    obtain ⟨M_2, hc, hf⟩ := m_b1x hf
    refine m_cv (va_runV (As := []) (rest := []) ⟨hx, hb, hml, hown, hts⟩ (cS_useBands l D ad c3 M 24 isX_S_24 hc) (cwV 0 hts (gV k2_144 k2_145 k2_146 k1_3 kc_S_useBands) rfl rfl rfl (by decide +kernel) ⟨by decide, by decide⟩) (m_preV hK hN hZ (by decide) rfl rfl) rfl rfl hl.1 rfl (lv_room (Nat.le_of_ble_eq_true rfl)) dG_searchOnce_11 ⟨Nat.zero_le _, Nat.zero_le _⟩) hZ (fun H locs hZ => ?_)
    refine lv_aload_n hx hb dG_searchOnce_14 rfl (lv_at hl 0 rfl) ?_
    refine m_getR (k' := 24) hx hb hts in_G hown hK hZ (by decide) rfl rfl 1 (by decide) (hts _ k2_9) (fun _ h9 => h9) rfl dG_searchOnce_15 ?_
    obtain ⟨M_3, hc, hf⟩ := m_b1x hf
    refine m_cv (va_runV (As := []) (rest := []) ⟨hx, hb, hml, hown, hts⟩ (cS_lookAtAll l D ad c3 M_2 24 isX_S_24 hc) (cwV 0 hts (gV k2_148 k2_149 k2_150 k1_3 kc_S_lookAtAll) rfl rfl rfl (by decide +kernel) ⟨by decide, by decide⟩) (m_preV hK hN hZ (by decide) rfl rfl) rfl rfl hl.1 rfl (lv_room (Nat.le_of_ble_eq_true rfl)) dG_searchOnce_18 ⟨Nat.zero_le _, Nat.zero_le _⟩) hZ (fun H locs hZ => ?_)
    refine lv_aload_n hx hb dG_searchOnce_21 rfl (lv_at hl 0 rfl) ?_
    refine lv_iconst (v := 1) hx hb dG_searchOnce_22 (by decide) ?_
    obtain ⟨M_4, eM_4, hf⟩ := m_lx hf
    refine m_put (ty := .boolean) hx hb hts in_G ⟨ty_G_ok, nm_G_ok⟩ hown hK hZ (by decide) rfl rfl 7 (by decide) (hts _ k2_15) (fun _ h9 => h9) rfl (by decide +kernel) rfl rfl rfl dG_searchOnce_23 eM_4 (fun H locs hZ => ?_)
    exact hret _ _ _ _ _ hf hZ dG_searchOnce_26
end
section
abbrev rmG_takeInHand : Room := { frames := 1, cells := 0, slots := 0, locals := 24 }
set_option maxHeartbeats 4000000 in
set_option maxRecDepth 100000 in
theorem cG_takeInHand (l : Launch) (D : va_G) (ad : Nat → Nat) (c3 : ClassId × ClassId × ClassId) (M : mMem) (k1 : Nat) (qk1 : isX_X k1) {r : Int32} {M' : mMem} (hf : fG_takeInHand M k1 = some (r, M')) : kIX l D ad c3 yG_takeInHand wG_takeInHand rmG_takeInHand [.ref (ad 0), .ref (ad k1)] M r M' := by
  refine m_oI (cc := bG_takeInHand) (maxL := 2) (ty := .boolean) (own := R_G) nestX (by decide) rfl (Nat.le_of_ble_eq_true rfl) rfl (fun p e s m args below meth c Q hx hb hml hown hts hK hN hret ls hZ hl => ?_)
  have hl : lv_has ls 2 [(0, .ref (ad 0)), (1, .ref (ad k1))] := hl
  unfold fG_takeInHand at hf
  refine lv_aload_n hx hb dG_takeInHand_0 rfl (lv_at hl 1 rfl) ?_
  refine m_get hx hb hts in_X hown hK hZ (qk1 0 (by decide)).2 (qk1 0 (by decide)).1 rfl 0 (by decide) (hts _ k1_110) (fun _ h9 => h9) rfl dG_takeInHand_1 ?_
  refine lv_if_ne (tgt := 9) hx hb dG_takeInHand_4 (by decide) (fun c_1 => ?_) (fun c_1 => ?_)
  · have hf := m_f hf c_1
    refine lv_aload_n hx hb dG_takeInHand_9 rfl (lv_at hl 0 rfl) ?_
    refine m_getR (k' := 66) hx hb hts in_G hown hK hZ (by decide) rfl rfl 4 (by decide) (hts _ k2_12) (fun _ h9 => h9) rfl dG_takeInHand_10 ?_
    refine lv_aload_n hx hb dG_takeInHand_13 rfl (lv_at hl 1 rfl) ?_
    refine m_getR (k' := (k1 + 1)) hx hb hts in_X hown hK hZ (qk1 0 (by decide)).2 (qk1 0 (by decide)).1 rfl 1 (by decide) (hts _ k1_114) (fun _ h9 => h9) rfl dG_takeInHand_14 ?_
    refine lv_aload_n hx hb dG_takeInHand_17 rfl (lv_at hl 1 rfl) ?_
    refine m_get hx hb hts in_X hown hK hZ (qk1 0 (by decide)).2 (qk1 0 (by decide)).1 rfl 2 (by decide) (hts _ k1_117) (fun _ h9 => h9) rfl dG_takeInHand_18 ?_
    refine lv_aload_n hx hb dG_takeInHand_21 rfl (lv_at hl 1 rfl) ?_
    refine m_get hx hb hts in_X hown hK hZ (qk1 0 (by decide)).2 (qk1 0 (by decide)).1 rfl 3 (by decide) (hts _ k1_120) (fun _ h9 => h9) rfl dG_takeInHand_22 ?_
    obtain ⟨M_2, hc, hf⟩ := m_b1x hf
    refine m_cv (va_runV (As := [.ref (ad (k1 + 1)), .int (M k1 2), .int (M k1 3)]) (rest := []) ⟨hx, hb, hml, hown, hts⟩ (cX_set l D ad c3 M 66 (k1 + 1) (M k1 2) (M k1 3) isX_X_66 ⟨(qk1 1 (by decide)).1, (qk1 1 (by decide)).2⟩ hc) (cwV 3 hts (gV k2_179 k2_168 k2_169 k1_4 kc_X_set) rfl rfl rfl (by decide +kernel) ⟨by decide, by decide⟩) (m_preV hK hN hZ (by decide) rfl rfl) rfl rfl hl.1 rfl (lv_room (Nat.le_of_ble_eq_true rfl)) dG_takeInHand_25 ⟨Nat.zero_le _, Nat.zero_le _⟩) hZ (fun H locs hZ => ?_)
    refine lv_aload_n hx hb dG_takeInHand_28 rfl (lv_at hl 0 rfl) ?_
    refine m_getR (k' := 68) hx hb hts in_G hown hK hZ (by decide) rfl rfl 5 (by decide) (hts _ k2_13) (fun _ h9 => h9) rfl dG_takeInHand_29 ?_
    refine lv_iconst (v := 0) hx hb dG_takeInHand_32 (by decide) ?_
    obtain ⟨M_3, eM_3, hf⟩ := m_lx hf
    refine m_put (ty := .boolean) hx hb hts in_B ⟨ty_B_ok, nm_B_ok⟩ hown hK hZ (by decide) rfl rfl 0 (by decide) (hts _ k1_202) (fun _ h9 => h9) rfl (by decide +kernel) rfl rfl rfl dG_takeInHand_33 eM_3 (fun H locs hZ => ?_)
    refine lv_iconst (v := 1) hx hb dG_takeInHand_36 (by decide) ?_
    exact hret _ _ _ _ _ _ hf rfl hZ dG_takeInHand_37
  · have hf := m_t hf c_1
    refine lv_iconst (v := 0) hx hb dG_takeInHand_7 (by decide) ?_
    exact hret _ _ _ _ _ _ hf rfl hZ dG_takeInHand_8
abbrev rmG_run : Room := { frames := 11, cells := 0, slots := 0, locals := 299 }
set_option maxHeartbeats 4000000 in
set_option maxRecDepth 100000 in
theorem cG_run (l : Launch) (D : va_G) (ad : Nat → Nat) (c3 : ClassId × ClassId × ClassId) (M : mMem)   {r : Int32} {M' : mMem} (hf : fG_run M  = some (r, M')) : kIX l D ad c3 yG_run wG_run rmG_run [.ref (ad 0)] M r M' := by
  refine m_oI (cc := bG_run) (maxL := 1) (ty := .int) (own := R_G) nestX (by decide) rfl (Nat.le_of_ble_eq_true rfl) rfl (fun p e s m args below meth c Q hx hb hml hown hts hK hN hret ls hZ hl => ?_)
  have hl : lv_has ls 1 [(0, .ref (ad 0))] := hl
  unfold fG_run at hf
  refine lv_aload_n hx hb dG_run_0 rfl (lv_at hl 0 rfl) ?_
  obtain ⟨M_1, hc, hf⟩ := m_b1x hf
  refine m_cv (va_runV (As := []) (rest := []) ⟨hx, hb, hml, hown, hts⟩ (cG_searchOnce l D ad c3 M hc) (cwV 0 hts (gV k2_140 k2_142 kp_4 k1_1 kc_G_searchOnce) rfl rfl rfl (by decide +kernel) ⟨by decide, by decide⟩) (m_preV hK hN hZ (by decide) rfl rfl) rfl rfl hl.1 rfl (lv_room (Nat.le_of_ble_eq_true rfl)) dG_run_1 ⟨Nat.zero_le _, Nat.zero_le _⟩) hZ (fun H locs hZ => ?_)
  refine lv_aload_n hx hb dG_run_4 rfl (lv_at hl 0 rfl) ?_
  refine lv_aload_n hx hb dG_run_5 rfl (lv_at hl 0 rfl) ?_
  refine m_getR (k' := 24) hx hb hts in_G hown hK hZ (by decide) rfl rfl 1 (by decide) (hts _ k2_9) (fun _ h9 => h9) rfl dG_run_6 ?_
  refine m_getR (k' := 39) hx hb hts in_S hown hK hZ (by decide) rfl rfl 7 (by decide) (hts _ k1_139) (fun _ h9 => h9) rfl dG_run_9 ?_
  obtain ⟨r_2, M_3, hc, hf⟩ := m_b2x hf
  refine m_ci (va_runV (As := [.ref (ad 39)]) (rest := []) ⟨hx, hb, hml, hown, hts⟩ (cG_takeInHand l D ad c3 M_1 39 isX_X_39 hc) (cwV 1 hts (gV k2_175 k2_177 kp_9 k1_1 kc_G_takeInHand) rfl rfl rfl (by decide +kernel) ⟨by decide, by decide⟩) (m_preV hK hN hZ (by decide) rfl rfl) rfl rfl hl.1 rfl (lv_room (Nat.le_of_ble_eq_true rfl)) dG_run_12 ⟨Nat.zero_le _, Nat.zero_le _⟩) hZ (fun H locs hZ => ?_)
  refine lv_if_eq (tgt := 28) hx hb dG_run_15 (by decide) (fun c_4 => ?_) (fun c_4 => ?_)
  · have hf := m_t hf c_4
    refine lv_iconst (v := (-1)) hx hb dG_run_28 (by decide) ?_
    exact hret _ _ _ _ _ _ hf rfl hZ dG_run_29
  · have hf := m_f hf c_4
    refine lv_aload_n hx hb dG_run_18 rfl (lv_at hl 0 rfl) ?_
    refine m_getR (k' := 66) hx hb hts in_G hown hK hZ (by decide) rfl rfl 4 (by decide) (hts _ k2_12) (fun _ h9 => h9) rfl dG_run_19 ?_
    refine m_get hx hb hts in_X hown hK hZ (by decide) rfl rfl 2 (by decide) (hts _ k1_117) (fun _ h9 => h9) rfl dG_run_22 ?_
    refine lv_goto (tgt := 29) hx hb dG_run_25 (by decide) ?_
    exact hret _ _ _ _ _ _ hf rfl hZ dG_run_29
abbrev rmG_near : Room := { frames := 11, cells := 0, slots := 0, locals := 299 }
set_option maxHeartbeats 4000000 in
set_option maxRecDepth 100000 in
theorem cG_near (l : Launch) (D : va_G) (ad : Nat → Nat) (c3 : ClassId × ClassId × ClassId) (M : mMem)   {r : Int32} {M' : mMem} (hf : fG_near M  = some (r, M')) : kIX l D ad c3 yG_near wG_near rmG_near [.ref (ad 0)] M r M' := by
  refine m_oI (cc := bG_near) (maxL := 1) (ty := .int) (own := R_G) nestX (by decide) rfl (Nat.le_of_ble_eq_true rfl) rfl (fun p e s m args below meth c Q hx hb hml hown hts hK hN hret ls hZ hl => ?_)
  have hl : lv_has ls 1 [(0, .ref (ad 0))] := hl
  unfold fG_near at hf
  refine lv_aload_n hx hb dG_near_0 rfl (lv_at hl 0 rfl) ?_
  obtain ⟨M_1, hc, hf⟩ := m_b1x hf
  refine m_cv (va_runV (As := []) (rest := []) ⟨hx, hb, hml, hown, hts⟩ (cG_searchOnce l D ad c3 M hc) (cwV 0 hts (gV k2_140 k2_142 kp_4 k1_1 kc_G_searchOnce) rfl rfl rfl (by decide +kernel) ⟨by decide, by decide⟩) (m_preV hK hN hZ (by decide) rfl rfl) rfl rfl hl.1 rfl (lv_room (Nat.le_of_ble_eq_true rfl)) dG_near_1 ⟨Nat.zero_le _, Nat.zero_le _⟩) hZ (fun H locs hZ => ?_)
  refine lv_aload_n hx hb dG_near_4 rfl (lv_at hl 0 rfl) ?_
  refine lv_aload_n hx hb dG_near_5 rfl (lv_at hl 0 rfl) ?_
  refine m_getR (k' := 24) hx hb hts in_G hown hK hZ (by decide) rfl rfl 1 (by decide) (hts _ k2_9) (fun _ h9 => h9) rfl dG_near_6 ?_
  refine m_getR (k' := 41) hx hb hts in_S hown hK hZ (by decide) rfl rfl 8 (by decide) (hts _ k1_141) (fun _ h9 => h9) rfl dG_near_9 ?_
  obtain ⟨r_2, M_3, hc, hf⟩ := m_b2x hf
  refine m_ci (va_runV (As := [.ref (ad 41)]) (rest := []) ⟨hx, hb, hml, hown, hts⟩ (cG_takeInHand l D ad c3 M_1 41 isX_X_41 hc) (cwV 1 hts (gV k2_175 k2_177 kp_9 k1_1 kc_G_takeInHand) rfl rfl rfl (by decide +kernel) ⟨by decide, by decide⟩) (m_preV hK hN hZ (by decide) rfl rfl) rfl rfl hl.1 rfl (lv_room (Nat.le_of_ble_eq_true rfl)) dG_near_12 ⟨Nat.zero_le _, Nat.zero_le _⟩) hZ (fun H locs hZ => ?_)
  refine lv_if_eq (tgt := 28) hx hb dG_near_15 (by decide) (fun c_4 => ?_) (fun c_4 => ?_)
  · have hf := m_t hf c_4
    refine lv_iconst (v := (-1)) hx hb dG_near_28 (by decide) ?_
    exact hret _ _ _ _ _ _ hf rfl hZ dG_near_29
  · have hf := m_f hf c_4
    refine lv_aload_n hx hb dG_near_18 rfl (lv_at hl 0 rfl) ?_
    refine m_getR (k' := 66) hx hb hts in_G hown hK hZ (by decide) rfl rfl 4 (by decide) (hts _ k2_12) (fun _ h9 => h9) rfl dG_near_19 ?_
    refine m_get hx hb hts in_X hown hK hZ (by decide) rfl rfl 3 (by decide) (hts _ k1_120) (fun _ h9 => h9) rfl dG_near_22 ?_
    refine lv_goto (tgt := 29) hx hb dG_near_25 (by decide) ?_
    exact hret _ _ _ _ _ _ hf rfl hZ dG_near_29
abbrev rmG_share : Room := { frames := 1, cells := 0, slots := 0, locals := 21 }
set_option maxHeartbeats 4000000 in
set_option maxRecDepth 100000 in
theorem cG_share (l : Launch) (D : va_G) (ad : Nat → Nat) (c3 : ClassId × ClassId × ClassId) (M : mMem) (x1 : Int32)  {r : Int32} (hf : fG_share M x1 = some r) : kPX l D ad c3 yG_share wG_share rmG_share [.ref (ad 0), .int x1] M r := by
  refine m_oP (cc := bG_share) (maxL := 2) (ty := .int) (own := R_G) nestX (by decide) rfl (Nat.le_of_ble_eq_true rfl) rfl (fun p e s m args below meth c Q hx hb hml hown hts hK hN hret ls hZ hl => ?_)
  have hl : lv_has ls 2 [(0, .ref (ad 0)), (1, .int x1)] := hl
  unfold fG_share at hf
  refine lv_aload_n hx hb dG_share_0 rfl (lv_at hl 0 rfl) ?_
  refine m_getR (k' := 66) hx hb hts in_G hown hK hZ (by decide) rfl rfl 4 (by decide) (hts _ k2_12) (fun _ h9 => h9) rfl dG_share_1 ?_
  refine m_get hx hb hts in_X hown hK hZ (by decide) rfl rfl 0 (by decide) (hts _ k1_110) (fun _ h9 => h9) rfl dG_share_4 ?_
  refine lv_if_eq (tgt := 21) hx hb dG_share_7 (by decide) (fun c_1 => ?_) (fun c_1 => ?_)
  · have hf := m_t hf c_1
    refine lv_iconst (v := (-1)) hx hb dG_share_21 (by decide) ?_
    exact hret _ _ _ _ _ (fun _ _ => 0) hf rfl hZ dG_share_22
  · have hf := m_f hf c_1
    refine lv_aload_n hx hb dG_share_10 rfl (lv_at hl 0 rfl) ?_
    refine m_getR (k' := 1) hx hb hts in_G hown hK hZ (by decide) rfl rfl 0 (by decide) (hts _ k2_8) (fun _ h9 => h9) rfl dG_share_11 ?_
    refine lv_iload_n hx hb dG_share_14 rfl (lv_at hl 1 rfl) ?_
    obtain ⟨r_2, hc, hf⟩ := m_b1x hf
    refine m_ci (va_runV (As := [.int x1]) (rest := []) ⟨hx, hb, hml, hown, hts⟩ (cP_hasStock l D ad c3 M x1 hc) (cwV 1 hts (gV k2_79 k2_80 k2_81 k1_2 kc_P_hasStock) rfl rfl rfl (by decide +kernel) ⟨by decide, by decide⟩) (m_preV hK hN hZ (by decide) rfl rfl) rfl rfl hl.1 rfl (lv_room (Nat.le_of_ble_eq_true rfl)) dG_share_15 ⟨Nat.zero_le _, Nat.zero_le _⟩) hZ (fun H locs hZ => ?_)
    refine lv_if_ne (tgt := 23) hx hb dG_share_18 (by decide) (fun c_3 => ?_) (fun c_3 => ?_)
    · have hf := m_f hf c_3
      refine lv_aload_n hx hb dG_share_23 rfl (lv_at hl 0 rfl) ?_
      refine m_getR (k' := 66) hx hb hts in_G hown hK hZ (by decide) rfl rfl 4 (by decide) (hts _ k2_12) (fun _ h9 => h9) rfl dG_share_24 ?_
      refine m_getR (k' := 67) hx hb hts in_X hown hK hZ (by decide) rfl rfl 1 (by decide) (hts _ k1_114) (fun _ h9 => h9) rfl dG_share_27 ?_
      refine lv_iload_n hx hb dG_share_30 rfl (lv_at hl 1 rfl) ?_
      obtain ⟨h_inb_x1_4, hf⟩ := m_gx hf
      refine m_iald hx hb hK hZ (by decide) rfl h_inb_x1_4 dG_share_31 ?_
      exact hret _ _ _ _ _ (fun _ _ => 0) hf rfl hZ dG_share_32
    · have hf := m_t hf c_3
      refine lv_iconst (v := (-1)) hx hb dG_share_21 (by decide) ?_
      exact hret _ _ _ _ _ (fun _ _ => 0) hf rfl hZ dG_share_22
abbrev rmP_sumAt : Room := { frames := 0, cells := 0, slots := 0, locals := 0 }
set_option maxHeartbeats 4000000 in
set_option maxRecDepth 100000 in
theorem cP_sumAt (l : Launch) (D : va_G) (ad : Nat → Nat) (c3 : ClassId × ClassId × ClassId) (M : mMem) (x1 : Int32) (k2 : Nat) (k3 : Nat) (qk2 : isX_grid 4 6 k2) (qk3 : isX_X k3) {r : Int32} (hf : fP_sumAt M x1 k2 k3 = some r) : kPX l D ad c3 yP_sumAt wP_sumAt rmP_sumAt [.ref (ad 1), .int x1, .ref (ad k2), .ref (ad k3)] M r := by
  refine m_oP (cc := bP_sumAt) (maxL := 6) (ty := .int) (own := R_P) nestX (by decide) rfl (Nat.le_of_ble_eq_true rfl) rfl (fun p e s m args below meth c Q hx hb hml hown hts hK hN hret ls hZ hl => ?_)
  have hl : lv_has ls 6 [(0, .ref (ad 1)), (1, .int x1), (2, .ref (ad k2)), (3, .ref (ad k3))] := hl
  unfold fP_sumAt at hf
  have L6 : ∀ (n6 : Nat) (x4 : Int32) (x5 : Int32), fP_sumAt_L6 x1 k2 k3 M n6 x4 x5 = some r → ∀ (H : Heap) (locs : List Loc) (ls : Array Slot), zX D ad c3 s H locs M → lv_has ls 6 [(0, .ref (ad 1)), (1, .int x1), (2, .ref (ad k2)), (3, .ref (ad k3)), (4, .int x4), (5, .int x5)] → W p l e rmP_sumAt s m args below meth c H locs 0 0 Q (F0 m 6 ls []) := by
    intro n6
    induction n6 with
    | zero => intro x4 x5 hf; exact m_none hf
    | succ n6 ih6 =>
      intro x4 x5 hf H locs ls hZ hl
      rw [fP_sumAt_L6] at hf
      refine lv_iload hx hb dP_sumAt_6 (lv_at hl 5 rfl) ?_
      refine lv_aload_n hx hb dP_sumAt_8 rfl (lv_at hl 0 rfl) ?_
      refine m_get hx hb hts in_P hown hK hZ (by decide) rfl rfl 1 (by decide) (hts _ k1_29) (fun _ h9 => h9) rfl dP_sumAt_9 ?_
      refine lv_icmp_ge (tgt := 40) hx hb dP_sumAt_12 (by decide) (fun c_1 => ?_) (fun c_1 => ?_)
      · have hf := m_t hf c_1
        refine lv_iload hx hb dP_sumAt_40 (lv_at hl 4 rfl) ?_
        exact hret _ _ _ _ _ (fun _ _ => 0) hf rfl hZ dP_sumAt_42
      · have hf := m_f hf c_1
        refine lv_iload hx hb dP_sumAt_15 (lv_at hl 4 rfl) ?_
        refine lv_aload_n hx hb dP_sumAt_17 rfl (lv_at hl 3 rfl) ?_
        refine m_getR (k' := (k3 + 1)) hx hb hts in_X hown hK hZ (qk3 0 (by decide)).2 (qk3 0 (by decide)).1 rfl 1 (by decide) (hts _ k1_113) (fun _ h9 => h9) rfl dP_sumAt_18 ?_
        refine lv_iload hx hb dP_sumAt_21 (lv_at hl 5 rfl) ?_
        obtain ⟨h_2, hf⟩ := m_gx hf
        refine m_iald hx hb hK hZ (qk3 1 (by decide)).2 (qk3 1 (by decide)).1 h_2 dP_sumAt_23 ?_
        refine lv_aload_n hx hb dP_sumAt_24 rfl (lv_at hl 2 rfl) ?_
        refine lv_iload hx hb dP_sumAt_25 (lv_at hl 5 rfl) ?_
        refine m_aald hx hb hK hZ qk2.2.1 qk2.1 h_2 dP_sumAt_27 ?_
        refine lv_iload_n hx hb dP_sumAt_28 rfl (lv_at hl 1 rfl) ?_
        obtain ⟨h_inb_x1_6, hf⟩ := m_gx hf
        refine m_iald hx hb hK hZ (qk2.2.2 _ (m_lt h_2)).2 (qk2.2.2 _ (m_lt h_2)).1 h_inb_x1_6 dP_sumAt_29 ?_
        refine lv_imul hx hb dP_sumAt_30 ?_
        refine lv_iadd hx hb dP_sumAt_31 ?_
        obtain ⟨x4_3, ex4_3, hf⟩ := m_lx hf
        refine m_topi ex4_3 ?_
        refine lv_istore (lv' := [(4, .int x4_3), (0, .ref (ad 1)), (1, .int x1), (2, .ref (ad k2)), (3, .ref (ad k3)), (5, .int x5)]) hx hb dP_sumAt_32 hl (by decide) rfl (fun ls hl => ?_)
        obtain ⟨x5_4, ex5_4, hf⟩ := m_lx hf
        refine lv_iinc (v := x5_4) (lv' := [(5, .int x5_4), (4, .int x4_3), (0, .ref (ad 1)), (1, .int x1), (2, .ref (ad k2)), (3, .ref (ad k3))]) hx hb dP_sumAt_34 hl (k := 5) rfl (by rw [ex5_4]; rfl) (by decide) rfl (fun ls hl => ?_)
        refine lv_goto (tgt := 6) hx hb dP_sumAt_37 (by decide) ?_
        exact ih6 _ _ hf _ _ _ hZ (lv_sub hl [2, 3, 4, 5, 1, 0] rfl)
  refine lv_iconst (v := 0) hx hb dP_sumAt_0 (by decide) ?_
  refine lv_istore (lv' := [(4, .int 0), (0, .ref (ad 1)), (1, .int x1), (2, .ref (ad k2)), (3, .ref (ad k3))]) hx hb dP_sumAt_1 hl (by decide) rfl (fun ls hl => ?_)
  refine lv_iconst (v := 0) hx hb dP_sumAt_3 (by decide) ?_
  refine lv_istore (lv' := [(5, .int 0), (4, .int 0), (0, .ref (ad 1)), (1, .int x1), (2, .ref (ad k2)), (3, .ref (ad k3))]) hx hb dP_sumAt_4 hl (by decide) rfl (fun ls hl => ?_)
  exact L6 128 0 0 hf _ _ _ hZ (lv_sub hl [2, 3, 4, 5, 1, 0] rfl)
abbrev rmP_missAt : Room := { frames := 1, cells := 0, slots := 0, locals := 25 }
set_option maxHeartbeats 4000000 in
set_option maxRecDepth 100000 in
theorem cP_missAt (l : Launch) (D : va_G) (ad : Nat → Nat) (c3 : ClassId × ClassId × ClassId) (M : mMem) (x1 : Int32) (k2 : Nat) (qk2 : isX_X k2) {r : Int32} (hf : fP_missAt M x1 k2 = some r) : kPX l D ad c3 yP_missAt wP_missAt rmP_missAt [.ref (ad 1), .int x1, .ref (ad k2)] M r := by
  refine m_oP (cc := bP_missAt) (maxL := 5) (ty := .int) (own := R_P) nestX (by decide) rfl (Nat.le_of_ble_eq_true rfl) rfl (fun p e s m args below meth c Q hx hb hml hown hts hK hN hret ls hZ hl => ?_)
  have hl : lv_has ls 5 [(0, .ref (ad 1)), (1, .int x1), (2, .ref (ad k2))] := hl
  unfold fP_missAt at hf
  refine lv_bipush (v := 100) hx hb dP_missAt_0 (by decide) ?_
  refine lv_aload_n hx hb dP_missAt_2 rfl (lv_at hl 0 rfl) ?_
  refine m_getR (k' := 2) hx hb hts in_P hown hK hZ (by decide) rfl rfl 4 (by decide) (hts _ k1_39) (fun _ h9 => h9) rfl dP_missAt_3 ?_
  refine lv_iload_n hx hb dP_missAt_6 rfl (lv_at hl 1 rfl) ?_
  obtain ⟨h_inb_x1_6, hf⟩ := m_gx hf
  refine m_iald hx hb hK hZ (by decide) rfl h_inb_x1_6 dP_missAt_7 ?_
  refine lv_imul hx hb dP_missAt_8 ?_
  refine lv_aload_n hx hb dP_missAt_9 rfl (lv_at hl 0 rfl) ?_
  refine lv_iload_n hx hb dP_missAt_10 rfl (lv_at hl 1 rfl) ?_
  refine lv_aload_n hx hb dP_missAt_11 rfl (lv_at hl 0 rfl) ?_
  refine m_getR (k' := 14) hx hb hts in_P hown hK hZ (by decide) rfl rfl 12 (by decide) (hts _ k1_58) (fun _ h9 => h9) rfl dP_missAt_12 ?_
  refine lv_aload_n hx hb dP_missAt_15 rfl (lv_at hl 2 rfl) ?_
  obtain ⟨r_1, hc, hf⟩ := m_b1x hf
  refine m_ci (va_runV (As := [.int x1, .ref (ad 14), .ref (ad k2)]) (rest := [.int (100 * (M 2 x1.toNatClampNeg))]) ⟨hx, hb, hml, hown, hts⟩ (cP_sumAt l D ad c3 M x1 14 k2 ⟨rfl, by decide, grX_14⟩ qk2 hc) (cwV 3 hts (gV k2_200 k2_193 k2_194 k1_2 kc_P_sumAt) rfl rfl rfl (by decide +kernel) ⟨by decide, by decide⟩) (m_preV hK hN hZ (by decide) rfl rfl) rfl rfl hl.1 rfl (lv_room (Nat.le_of_ble_eq_true rfl)) dP_missAt_16 ⟨Nat.zero_le _, Nat.zero_le _⟩) hZ (fun H locs hZ => ?_)
  refine lv_isub hx hb dP_missAt_19 ?_
  obtain ⟨x3_2, ex3_2, hf⟩ := m_lx hf
  refine m_topi ex3_2 ?_
  refine lv_istore_n (lv' := [(3, .int x3_2), (0, .ref (ad 1)), (1, .int x1), (2, .ref (ad k2))]) hx hb dP_missAt_20 rfl hl (by decide) rfl (fun ls hl => ?_)
  refine lv_aload_n hx hb dP_missAt_21 rfl (lv_at hl 1 rfl) ?_
  refine lv_iload_n hx hb dP_missAt_22 rfl (lv_at hl 2 rfl) ?_
  refine lv_aload_n hx hb dP_missAt_23 rfl (lv_at hl 1 rfl) ?_
  refine m_getR (k' := 19) hx hb hts in_P hown hK hZ (by decide) rfl rfl 13 (by decide) (hts _ k1_61) (fun _ h9 => h9) rfl dP_missAt_24 ?_
  refine lv_aload_n hx hb dP_missAt_27 rfl (lv_at hl 3 rfl) ?_
  obtain ⟨r_3, hc, hf⟩ := m_b1x hf
  refine m_ci (va_runV (As := [.int x1, .ref (ad 19), .ref (ad k2)]) (rest := []) ⟨hx, hb, hml, hown, hts⟩ (cP_sumAt l D ad c3 M x1 19 k2 ⟨rfl, by decide, grX_19⟩ qk2 hc) (cwV 3 hts (gV k2_200 k2_193 k2_194 k1_2 kc_P_sumAt) rfl rfl rfl (by decide +kernel) ⟨by decide, by decide⟩) (m_preV hK hN hZ (by decide) rfl rfl) rfl rfl hl.1 rfl (lv_room (Nat.le_of_ble_eq_true rfl)) dP_missAt_28 ⟨Nat.zero_le _, Nat.zero_le _⟩) hZ (fun H locs hZ => ?_)
  refine lv_bipush (v := 100) hx hb dP_missAt_31 (by decide) ?_
  refine lv_aload_n hx hb dP_missAt_33 rfl (lv_at hl 1 rfl) ?_
  refine m_getR (k' := 3) hx hb hts in_P hown hK hZ (by decide) rfl rfl 5 (by decide) (hts _ k1_42) (fun _ h9 => h9) rfl dP_missAt_34 ?_
  refine lv_iload_n hx hb dP_missAt_37 rfl (lv_at hl 2 rfl) ?_
  refine m_iald hx hb hK hZ (by decide) rfl h_inb_x1_6 dP_missAt_38 ?_
  refine lv_imul hx hb dP_missAt_39 ?_
  refine lv_isub hx hb dP_missAt_40 ?_
  obtain ⟨x4_4, ex4_4, hf⟩ := m_lx hf
  refine m_topi ex4_4 ?_
  refine lv_istore (lv' := [(4, .int x4_4), (3, .int x3_2), (0, .ref (ad 1)), (1, .int x1), (2, .ref (ad k2))]) hx hb dP_missAt_41 hl (by decide) rfl (fun ls hl => ?_)
  refine lv_iconst (v := 0) hx hb dP_missAt_43 (by decide) ?_
  refine lv_iload_n hx hb dP_missAt_44 rfl (lv_at hl 1 rfl) ?_
  refine va_mmax hx hb (hml.trans hl.1.symm) hown (hts _ k2_87) (hts _ k2_88) (hts _ k1_9) (hts _ kc_math_max) (by decide) (Nat.le_of_ble_eq_true rfl) (Nat.zero_le _) (Nat.zero_le _) dP_missAt_45 ?_
  refine lv_iconst (v := 0) hx hb dP_missAt_48 (by decide) ?_
  refine lv_iload hx hb dP_missAt_49 (lv_at hl 0 rfl) ?_
  refine va_mmax hx hb (hml.trans hl.1.symm) hown (hts _ k2_87) (hts _ k2_88) (hts _ k1_9) (hts _ kc_math_max) (by decide) (Nat.le_of_ble_eq_true rfl) (Nat.zero_le _) (Nat.zero_le _) dP_missAt_51 ?_
  refine lv_iadd hx hb dP_missAt_54 ?_
  exact hret _ _ _ _ _ (fun _ _ => 0) hf rfl hZ dP_missAt_55
abbrev rmG_told : Room := { frames := 2, cells := 0, slots := 0, locals := 49 }
set_option maxHeartbeats 4000000 in
set_option maxRecDepth 100000 in
theorem cG_told (l : Launch) (D : va_G) (ad : Nat → Nat) (c3 : ClassId × ClassId × ClassId) (M : mMem) (x1 : Int32) (x2 : Int32)  {r : Int32} (hf : fG_told M x1 x2 = some r) : kPX l D ad c3 yG_told wG_told rmG_told [.ref (ad 0), .int x1, .int x2] M r := by
  refine m_oP (cc := bG_told) (maxL := 3) (ty := .int) (own := R_G) nestX (by decide) rfl (Nat.le_of_ble_eq_true rfl) rfl (fun p e s m args below meth c Q hx hb hml hown hts hK hN hret ls hZ hl => ?_)
  have hl : lv_has ls 3 [(0, .ref (ad 0)), (1, .int x1), (2, .int x2)] := hl
  unfold fG_told at hf
  refine lv_aload_n hx hb dG_told_0 rfl (lv_at hl 0 rfl) ?_
  refine m_getR (k' := 66) hx hb hts in_G hown hK hZ (by decide) rfl rfl 4 (by decide) (hts _ k2_12) (fun _ h9 => h9) rfl dG_told_1 ?_
  refine m_get hx hb hts in_X hown hK hZ (by decide) rfl rfl 0 (by decide) (hts _ k1_110) (fun _ h9 => h9) rfl dG_told_4 ?_
  refine lv_if_eq (tgt := 21) hx hb dG_told_7 (by decide) (fun c_1 => ?_) (fun c_1 => ?_)
  · have hf := m_t hf c_1
    refine lv_iconst (v := (-1)) hx hb dG_told_21 (by decide) ?_
    exact hret _ _ _ _ _ (fun _ _ => 0) hf rfl hZ dG_told_22
  · have hf := m_f hf c_1
    refine lv_aload_n hx hb dG_told_10 rfl (lv_at hl 0 rfl) ?_
    refine m_getR (k' := 1) hx hb hts in_G hown hK hZ (by decide) rfl rfl 0 (by decide) (hts _ k2_8) (fun _ h9 => h9) rfl dG_told_11 ?_
    refine lv_iload_n hx hb dG_told_14 rfl (lv_at hl 1 rfl) ?_
    obtain ⟨r_2, hc, hf⟩ := m_b1x hf
    refine m_ci (va_runV (As := [.int x1]) (rest := []) ⟨hx, hb, hml, hown, hts⟩ (cP_hasSieve l D ad c3 M x1 hc) (cwV 1 hts (gV k2_59 k2_60 k2_61 k1_2 kc_P_hasSieve) rfl rfl rfl (by decide +kernel) ⟨by decide, by decide⟩) (m_preV hK hN hZ (by decide) rfl rfl) rfl rfl hl.1 rfl (lv_room (Nat.le_of_ble_eq_true rfl)) dG_told_15 ⟨Nat.zero_le _, Nat.zero_le _⟩) hZ (fun H locs hZ => ?_)
    refine lv_if_ne (tgt := 23) hx hb dG_told_18 (by decide) (fun c_3 => ?_) (fun c_3 => ?_)
    · have hf := m_f hf c_3
      refine lv_iload_n hx hb dG_told_23 rfl (lv_at hl 2 rfl) ?_
      by_cases c_4 : x2 = 0
      · have hf := m_t hf c_4
        refine lv_tableIn (tgt := 56) hx hb dG_told_24 (by rw [c_4]; decide) (by rw [c_4]; decide) (by rw [c_4]; rfl) (by decide) ?_
        refine lv_aload_n hx hb dG_told_56 rfl (lv_at hl 0 rfl) ?_
        refine m_getR (k' := 1) hx hb hts in_G hown hK hZ (by decide) rfl rfl 0 (by decide) (hts _ k2_8) (fun _ h9 => h9) rfl dG_told_57 ?_
        refine lv_iload_n hx hb dG_told_60 rfl (lv_at hl 1 rfl) ?_
        refine lv_aload_n hx hb dG_told_61 rfl (lv_at hl 0 rfl) ?_
        refine m_getR (k' := 1) hx hb hts in_G hown hK hZ (by decide) rfl rfl 0 (by decide) (hts _ k2_8) (fun _ h9 => h9) rfl dG_told_62 ?_
        refine m_getR (k' := 9) hx hb hts in_P hown hK hZ (by decide) rfl rfl 11 (by decide) (hts _ k1_57) (fun _ h9 => h9) rfl dG_told_65 ?_
        refine lv_aload_n hx hb dG_told_68 rfl (lv_at hl 0 rfl) ?_
        refine m_getR (k' := 66) hx hb hts in_G hown hK hZ (by decide) rfl rfl 4 (by decide) (hts _ k2_12) (fun _ h9 => h9) rfl dG_told_69 ?_
        obtain ⟨r_5, hc, hf⟩ := m_b1x hf
        refine m_ci (va_runV (As := [.int x1, .ref (ad 9), .ref (ad 66)]) (rest := []) ⟨hx, hb, hml, hown, hts⟩ (cP_sumAt l D ad c3 M x1 9 66 ⟨rfl, by decide, grX_9⟩ isX_X_66 hc) (cwV 3 hts (gV k2_192 k2_193 k2_194 k1_2 kc_P_sumAt) rfl rfl rfl (by decide +kernel) ⟨by decide, by decide⟩) (m_preV hK hN hZ (by decide) rfl rfl) rfl rfl hl.1 rfl (lv_room (Nat.le_of_ble_eq_true rfl)) dG_told_72 ⟨Nat.zero_le _, Nat.zero_le _⟩) hZ (fun H locs hZ => ?_)
        exact hret _ _ _ _ _ (fun _ _ => 0) hf rfl hZ dG_told_75
      have hf := m_f hf c_4
      by_cases c_6 : x2 = 1
      · have hf := m_t hf c_6
        refine lv_tableIn (tgt := 76) hx hb dG_told_24 (by rw [c_6]; decide) (by rw [c_6]; decide) (by rw [c_6]; rfl) (by decide) ?_
        refine lv_aload_n hx hb dG_told_76 rfl (lv_at hl 0 rfl) ?_
        refine m_getR (k' := 1) hx hb hts in_G hown hK hZ (by decide) rfl rfl 0 (by decide) (hts _ k2_8) (fun _ h9 => h9) rfl dG_told_77 ?_
        refine lv_iload_n hx hb dG_told_80 rfl (lv_at hl 1 rfl) ?_
        refine lv_aload_n hx hb dG_told_81 rfl (lv_at hl 0 rfl) ?_
        refine m_getR (k' := 1) hx hb hts in_G hown hK hZ (by decide) rfl rfl 0 (by decide) (hts _ k2_8) (fun _ h9 => h9) rfl dG_told_82 ?_
        refine m_getR (k' := 14) hx hb hts in_P hown hK hZ (by decide) rfl rfl 12 (by decide) (hts _ k1_60) (fun _ h9 => h9) rfl dG_told_85 ?_
        refine lv_aload_n hx hb dG_told_88 rfl (lv_at hl 0 rfl) ?_
        refine m_getR (k' := 66) hx hb hts in_G hown hK hZ (by decide) rfl rfl 4 (by decide) (hts _ k2_12) (fun _ h9 => h9) rfl dG_told_89 ?_
        obtain ⟨r_7, hc, hf⟩ := m_b1x hf
        refine m_ci (va_runV (As := [.int x1, .ref (ad 14), .ref (ad 66)]) (rest := []) ⟨hx, hb, hml, hown, hts⟩ (cP_sumAt l D ad c3 M x1 14 66 ⟨rfl, by decide, grX_14⟩ isX_X_66 hc) (cwV 3 hts (gV k2_192 k2_193 k2_194 k1_2 kc_P_sumAt) rfl rfl rfl (by decide +kernel) ⟨by decide, by decide⟩) (m_preV hK hN hZ (by decide) rfl rfl) rfl rfl hl.1 rfl (lv_room (Nat.le_of_ble_eq_true rfl)) dG_told_92 ⟨Nat.zero_le _, Nat.zero_le _⟩) hZ (fun H locs hZ => ?_)
        exact hret _ _ _ _ _ (fun _ _ => 0) hf rfl hZ dG_told_95
      have hf := m_f hf c_6
      by_cases c_8 : x2 = 2
      · have hf := m_t hf c_8
        refine lv_tableIn (tgt := 96) hx hb dG_told_24 (by rw [c_8]; decide) (by rw [c_8]; decide) (by rw [c_8]; rfl) (by decide) ?_
        refine lv_aload_n hx hb dG_told_96 rfl (lv_at hl 0 rfl) ?_
        refine m_getR (k' := 1) hx hb hts in_G hown hK hZ (by decide) rfl rfl 0 (by decide) (hts _ k2_8) (fun _ h9 => h9) rfl dG_told_97 ?_
        refine lv_iload_n hx hb dG_told_100 rfl (lv_at hl 1 rfl) ?_
        refine lv_aload_n hx hb dG_told_101 rfl (lv_at hl 0 rfl) ?_
        refine m_getR (k' := 1) hx hb hts in_G hown hK hZ (by decide) rfl rfl 0 (by decide) (hts _ k2_8) (fun _ h9 => h9) rfl dG_told_102 ?_
        refine m_getR (k' := 19) hx hb hts in_P hown hK hZ (by decide) rfl rfl 13 (by decide) (hts _ k1_63) (fun _ h9 => h9) rfl dG_told_105 ?_
        refine lv_aload_n hx hb dG_told_108 rfl (lv_at hl 0 rfl) ?_
        refine m_getR (k' := 66) hx hb hts in_G hown hK hZ (by decide) rfl rfl 4 (by decide) (hts _ k2_12) (fun _ h9 => h9) rfl dG_told_109 ?_
        obtain ⟨r_9, hc, hf⟩ := m_b1x hf
        refine m_ci (va_runV (As := [.int x1, .ref (ad 19), .ref (ad 66)]) (rest := []) ⟨hx, hb, hml, hown, hts⟩ (cP_sumAt l D ad c3 M x1 19 66 ⟨rfl, by decide, grX_19⟩ isX_X_66 hc) (cwV 3 hts (gV k2_192 k2_193 k2_194 k1_2 kc_P_sumAt) rfl rfl rfl (by decide +kernel) ⟨by decide, by decide⟩) (m_preV hK hN hZ (by decide) rfl rfl) rfl rfl hl.1 rfl (lv_room (Nat.le_of_ble_eq_true rfl)) dG_told_112 ⟨Nat.zero_le _, Nat.zero_le _⟩) hZ (fun H locs hZ => ?_)
        exact hret _ _ _ _ _ (fun _ _ => 0) hf rfl hZ dG_told_115
      have hf := m_f hf c_8
      by_cases c_10 : x2 = 3
      · have hf := m_t hf c_10
        refine lv_tableIn (tgt := 116) hx hb dG_told_24 (by rw [c_10]; decide) (by rw [c_10]; decide) (by rw [c_10]; rfl) (by decide) ?_
        refine lv_aload_n hx hb dG_told_116 rfl (lv_at hl 0 rfl) ?_
        refine m_getR (k' := 1) hx hb hts in_G hown hK hZ (by decide) rfl rfl 0 (by decide) (hts _ k2_8) (fun _ h9 => h9) rfl dG_told_117 ?_
        refine lv_iload_n hx hb dG_told_120 rfl (lv_at hl 1 rfl) ?_
        refine lv_aload_n hx hb dG_told_121 rfl (lv_at hl 0 rfl) ?_
        refine m_getR (k' := 66) hx hb hts in_G hown hK hZ (by decide) rfl rfl 4 (by decide) (hts _ k2_12) (fun _ h9 => h9) rfl dG_told_122 ?_
        obtain ⟨r_11, hc, hf⟩ := m_b1x hf
        refine m_ci (va_runV (As := [.int x1, .ref (ad 66)]) (rest := []) ⟨hx, hb, hml, hown, hts⟩ (cP_missAt l D ad c3 M x1 66 isX_X_66 hc) (cwV 2 hts (gV k2_196 k2_197 k2_198 k1_2 kc_P_missAt) rfl rfl rfl (by decide +kernel) ⟨by decide, by decide⟩) (m_preV hK hN hZ (by decide) rfl rfl) rfl rfl hl.1 rfl (lv_room (Nat.le_of_ble_eq_true rfl)) dG_told_125 ⟨Nat.zero_le _, Nat.zero_le _⟩) hZ (fun H locs hZ => ?_)
        exact hret _ _ _ _ _ (fun _ _ => 0) hf rfl hZ dG_told_128
      have hf := m_f hf c_10
      refine lv_tableOut (tgt := 129) hx hb dG_told_24 (m_sw0_3 c_4 c_6 c_8 c_10) (by decide) ?_
      refine lv_iconst (v := (-1)) hx hb dG_told_129 (by decide) ?_
      exact hret _ _ _ _ _ (fun _ _ => 0) hf rfl hZ dG_told_130
    · have hf := m_t hf c_3
      refine lv_iconst (v := (-1)) hx hb dG_told_21 (by decide) ?_
      exact hret _ _ _ _ _ (fun _ _ => 0) hf rfl hZ dG_told_22
end
section
abbrev rmG_cost : Room := { frames := 0, cells := 0, slots := 0, locals := 0 }
set_option maxHeartbeats 4000000 in
set_option maxRecDepth 100000 in
theorem cG_cost (l : Launch) (D : va_G) (ad : Nat → Nat) (c3 : ClassId × ClassId × ClassId) (M : mMem)   {r : Int32} (hf : fG_cost M  = some r) : kPX l D ad c3 yG_cost wG_cost rmG_cost [.ref (ad 0)] M r := by
  refine m_oP (cc := bG_cost) (maxL := 1) (ty := .int) (own := R_G) nestX (by decide) rfl (Nat.le_of_ble_eq_true rfl) rfl (fun p e s m args below meth c Q hx hb hml hown hts hK hN hret ls hZ hl => ?_)
  have hl : lv_has ls 1 [(0, .ref (ad 0))] := hl
  unfold fG_cost at hf
  refine lv_aload_n hx hb dG_cost_0 rfl (lv_at hl 0 rfl) ?_
  refine m_getR (k' := 66) hx hb hts in_G hown hK hZ (by decide) rfl rfl 4 (by decide) (hts _ k2_12) (fun _ h9 => h9) rfl dG_cost_1 ?_
  refine m_get hx hb hts in_X hown hK hZ (by decide) rfl rfl 0 (by decide) (hts _ k1_110) (fun _ h9 => h9) rfl dG_cost_4 ?_
  refine lv_if_eq (tgt := 20) hx hb dG_cost_7 (by decide) (fun c_1 => ?_) (fun c_1 => ?_)
  · have hf := m_t hf c_1
    refine lv_iconst (v := (-1)) hx hb dG_cost_20 (by decide) ?_
    exact hret _ _ _ _ _ (fun _ _ => 0) hf rfl hZ dG_cost_21
  · have hf := m_f hf c_1
    refine lv_aload_n hx hb dG_cost_10 rfl (lv_at hl 0 rfl) ?_
    refine m_getR (k' := 66) hx hb hts in_G hown hK hZ (by decide) rfl rfl 4 (by decide) (hts _ k2_12) (fun _ h9 => h9) rfl dG_cost_11 ?_
    refine m_get hx hb hts in_X hown hK hZ (by decide) rfl rfl 2 (by decide) (hts _ k1_117) (fun _ h9 => h9) rfl dG_cost_14 ?_
    refine lv_goto (tgt := 21) hx hb dG_cost_17 (by decide) ?_
    exact hret _ _ _ _ _ (fun _ _ => 0) hf rfl hZ dG_cost_21
abbrev rmG_lonely : Room := { frames := 11, cells := 0, slots := 0, locals := 299 }
set_option maxHeartbeats 4000000 in
set_option maxRecDepth 100000 in
theorem cG_lonely (l : Launch) (D : va_G) (ad : Nat → Nat) (c3 : ClassId × ClassId × ClassId) (M : mMem) (x1 : Int32)  {r : Int32} {M' : mMem} (hf : fG_lonely M x1 = some (r, M')) : kIX l D ad c3 yG_lonely wG_lonely rmG_lonely [.ref (ad 0), .int x1] M r M' := by
  refine m_oI (cc := bG_lonely) (maxL := 4) (ty := .int) (own := R_G) nestX (by decide) rfl (Nat.le_of_ble_eq_true rfl) rfl (fun p e s m args below meth c Q hx hb hml hown hts hK hN hret ls hZ hl => ?_)
  have hl : lv_has ls 4 [(0, .ref (ad 0)), (1, .int x1)] := hl
  unfold fG_lonely at hf
  have L20 : ∀ (M : mMem) (n20 : Nat) (x2 : Int32) (x3 : Int32), fG_lonely_L20 x1 M n20 x2 x3 = some (r, M') → ∀ (H : Heap) (locs : List Loc) (ls : Array Slot), zX D ad c3 s H locs M → lv_has ls 4 [(0, .ref (ad 0)), (1, .int x1), (2, .int x2), (3, .int x3)] → W p l e rmG_lonely s m args below meth c H locs 0 0 Q (F0 m 20 ls []) := by
    intro M n20
    induction n20 with
    | zero => intro x2 x3 hf; exact m_none hf
    | succ n20 ih20 =>
      intro x2 x3 hf H locs ls hZ hl
      rw [fG_lonely_L20] at hf
      refine lv_iload_n hx hb dG_lonely_20 rfl (lv_at hl 3 rfl) ?_
      refine lv_aload_n hx hb dG_lonely_21 rfl (lv_at hl 0 rfl) ?_
      refine m_getR (k' := 1) hx hb hts in_G hown hK hZ (by decide) rfl rfl 0 (by decide) (hts _ k2_8) (fun _ h9 => h9) rfl dG_lonely_22 ?_
      refine m_get hx hb hts in_P hown hK hZ (by decide) rfl rfl 0 (by decide) (hts _ k1_28) (fun _ h9 => h9) rfl dG_lonely_25 ?_
      refine lv_icmp_ge (tgt := 59) hx hb dG_lonely_28 (by decide) (fun c_3 => ?_) (fun c_3 => ?_)
      · have hf := m_t hf c_3
        refine lv_iconst (v := (-1)) hx hb dG_lonely_59 (by decide) ?_
        exact hret _ _ _ _ _ _ hf rfl hZ dG_lonely_60
      · have hf := m_f hf c_3
        refine lv_aload_n hx hb dG_lonely_31 rfl (lv_at hl 0 rfl) ?_
        refine m_getR (k' := 24) hx hb hts in_G hown hK hZ (by decide) rfl rfl 1 (by decide) (hts _ k2_9) (fun _ h9 => h9) rfl dG_lonely_32 ?_
        refine m_getR (k' := 38) hx hb hts in_S hown hK hZ (by decide) rfl rfl 6 (by decide) (hts _ k1_137) (fun _ h9 => h9) rfl dG_lonely_35 ?_
        refine lv_iload_n hx hb dG_lonely_38 rfl (lv_at hl 3 rfl) ?_
        obtain ⟨h_4, hf⟩ := m_gx hf
        refine m_zald hx hb hK hZ (by decide) rfl h_4 dG_lonely_39 ?_
        refine lv_if_ne (tgt := 53) hx hb dG_lonely_40 (by decide) (fun c_5 => ?_) (fun c_5 => ?_)
        · have hf := m_f hf c_5
          obtain ⟨x3_9, ex3_9, hf⟩ := m_lx hf
          refine lv_iinc (v := x3_9) (lv' := [(3, .int x3_9), (0, .ref (ad 0)), (1, .int x1), (2, .int x2)]) hx hb dG_lonely_53 hl (k := 3) rfl (by rw [ex3_9]; rfl) (by decide) rfl (fun ls hl => ?_)
          refine lv_goto (tgt := 20) hx hb dG_lonely_56 (by decide) ?_
          exact ih20 _ _ hf _ _ _ hZ (lv_sub hl [1, 2, 3, 0] rfl)
        · have hf := m_t hf c_5
          refine lv_iload_n hx hb dG_lonely_43 rfl (lv_at hl 2 rfl) ?_
          refine lv_iload_n hx hb dG_lonely_44 rfl (lv_at hl 1 rfl) ?_
          refine lv_icmp_ne (tgt := 50) hx hb dG_lonely_45 (by decide) (fun c_6 => ?_) (fun c_6 => ?_)
          · have hf := m_f hf c_6
            obtain ⟨x2_7, ex2_7, hf⟩ := m_lx hf
            refine lv_iinc (v := x2_7) (lv' := [(2, .int x2_7), (0, .ref (ad 0)), (1, .int x1), (3, .int x3)]) hx hb dG_lonely_50 hl (k := 2) rfl (by rw [ex2_7]; rfl) (by decide) rfl (fun ls hl => ?_)
            obtain ⟨x3_8, ex3_8, hf⟩ := m_lx hf
            refine lv_iinc (v := x3_8) (lv' := [(3, .int x3_8), (2, .int x2_7), (0, .ref (ad 0)), (1, .int x1)]) hx hb dG_lonely_53 hl (k := 3) rfl (by rw [ex3_8]; rfl) (by decide) rfl (fun ls hl => ?_)
            refine lv_goto (tgt := 20) hx hb dG_lonely_56 (by decide) ?_
            exact ih20 _ _ hf _ _ _ hZ (lv_sub hl [2, 3, 1, 0] rfl)
          · have hf := m_t hf c_6
            refine lv_iload_n hx hb dG_lonely_48 rfl (lv_at hl 3 rfl) ?_
            exact hret _ _ _ _ _ _ hf rfl hZ dG_lonely_49
  refine lv_aload_n hx hb dG_lonely_0 rfl (lv_at hl 0 rfl) ?_
  obtain ⟨M_1, hc, hf⟩ := m_b1x hf
  refine m_cv (va_runV (As := []) (rest := []) ⟨hx, hb, hml, hown, hts⟩ (cG_searchOnce l D ad c3 M hc) (cwV 0 hts (gV k2_140 k2_142 kp_4 k1_1 kc_G_searchOnce) rfl rfl rfl (by decide +kernel) ⟨by decide, by decide⟩) (m_preV hK hN hZ (by decide) rfl rfl) rfl rfl hl.1 rfl (lv_room (Nat.le_of_ble_eq_true rfl)) dG_lonely_1 ⟨Nat.zero_le _, Nat.zero_le _⟩) hZ (fun H locs hZ => ?_)
  refine lv_aload_n hx hb dG_lonely_4 rfl (lv_at hl 0 rfl) ?_
  refine m_getR (k' := 24) hx hb hts in_G hown hK hZ (by decide) rfl rfl 1 (by decide) (hts _ k2_9) (fun _ h9 => h9) rfl dG_lonely_5 ?_
  refine m_get hx hb hts in_S hown hK hZ (by decide) rfl rfl 9 (by decide) (hts _ k1_143) (fun _ h9 => h9) rfl dG_lonely_8 ?_
  refine lv_if_ne (tgt := 16) hx hb dG_lonely_11 (by decide) (fun c_2 => ?_) (fun c_2 => ?_)
  · have hf := m_f hf c_2
    refine lv_iconst (v := 0) hx hb dG_lonely_16 (by decide) ?_
    refine lv_istore_n (lv' := [(2, .int 0), (0, .ref (ad 0)), (1, .int x1)]) hx hb dG_lonely_17 rfl hl (by decide) rfl (fun ls hl => ?_)
    refine lv_iconst (v := 0) hx hb dG_lonely_18 (by decide) ?_
    refine lv_istore_n (lv' := [(3, .int 0), (2, .int 0), (0, .ref (ad 0)), (1, .int x1)]) hx hb dG_lonely_19 rfl hl (by decide) rfl (fun ls hl => ?_)
    exact L20 M_1 128 0 0 hf _ _ _ hZ (lv_sub hl [2, 3, 1, 0] rfl)
  · have hf := m_t hf c_2
    refine lv_iconst (v := (-1)) hx hb dG_lonely_14 (by decide) ?_
    exact hret _ _ _ _ _ _ hf rfl hZ dG_lonely_15
abbrev rmS_widen : Room := { frames := 1, cells := 0, slots := 0, locals := 24 }
set_option maxHeartbeats 4000000 in
set_option maxRecDepth 100000 in
theorem cS_widen (l : Launch) (D : va_G) (ad : Nat → Nat) (c3 : ClassId × ClassId × ClassId) (M : mMem) (b : Nat) (x1 : Int32) (x2 : Int32) (x3 : Int32) (qb : isX_S b) {M' : mMem} (hf : fS_widen M b x1 x2 x3 = some M') : kVX l D ad c3 yS_widen wS_widen rmS_widen [.ref (ad b), .int x1, .int x2, .int x3] M M' := by
  refine m_oV (cc := bS_widen) (maxL := 4) (own := R_S) nestX (by decide) rfl (Nat.le_of_ble_eq_true rfl) rfl (fun p e s m args below meth c Q hx hb hml hown hts hK hN hret ls hZ hl => ?_)
  have hl : lv_has ls 4 [(0, .ref (ad b)), (1, .int x1), (2, .int x2), (3, .int x3)] := hl
  unfold fS_widen at hf
  refine lv_iload_n hx hb dS_widen_0 rfl (lv_at hl 2 rfl) ?_
  refine lv_if_eq (tgt := 33) hx hb dS_widen_1 (by decide) (fun c_1 => ?_) (fun c_1 => ?_)
  · have hf := m_t hf c_1
    refine lv_aload_n hx hb dS_widen_33 rfl (lv_at hl 0 rfl) ?_
    refine m_getR (k' := (b + 1)) hx hb hts in_S hown hK hZ (qb 0 (by decide)).2 (qb 0 (by decide)).1 rfl 1 (by decide) (hts _ k1_131) (fun _ h9 => h9) rfl dS_widen_34 ?_
    refine lv_iload_n hx hb dS_widen_37 rfl (lv_at hl 1 rfl) ?_
    refine lv_bipush (v := 100) hx hb dS_widen_38 (by decide) ?_
    refine lv_iconst (v := 0) hx hb dS_widen_40 (by decide) ?_
    refine lv_aload_n hx hb dS_widen_41 rfl (lv_at hl 0 rfl) ?_
    refine m_getR (k' := 1) hx hb hts in_S hown hK hZ (qb 0 (by decide)).2 (qb 0 (by decide)).1 rfl 0 (by decide) (hts _ k1_130) (fun _ h9 => h9) rfl dS_widen_42 ?_
    refine m_getR (k' := 2) hx hb hts in_P hown hK hZ (by decide) rfl rfl 4 (by decide) (hts _ k1_40) (fun _ h9 => h9) rfl dS_widen_45 ?_
    refine lv_iload_n hx hb dS_widen_48 rfl (lv_at hl 1 rfl) ?_
    obtain ⟨h_inb_x1_6, hf⟩ := m_gx hf
    refine m_iald hx hb hK hZ (by decide) rfl h_inb_x1_6 dS_widen_49 ?_
    refine lv_iload_n hx hb dS_widen_50 rfl (lv_at hl 3 rfl) ?_
    refine lv_isub hx hb dS_widen_51 ?_
    refine va_mmax hx hb (hml.trans hl.1.symm) hown (hts _ k2_162) (hts _ k2_88) (hts _ k1_9) (hts _ kc_math_max) (by decide) (Nat.le_of_ble_eq_true rfl) (Nat.zero_le _) (Nat.zero_le _) dS_widen_52 ?_
    refine lv_imul hx hb dS_widen_55 ?_
    obtain ⟨M_2, eM_2, hf⟩ := m_lx hf
    refine m_iast hx hb hK hZ (qb 1 (by decide)).2 (qb 1 (by decide)).1 h_inb_x1_6 dS_widen_56 eM_2 (fun H locs hZ => ?_)
    exact hret _ _ _ _ _ hf hZ dS_widen_57
  · have hf := m_f hf c_1
    refine lv_aload_n hx hb dS_widen_4 rfl (lv_at hl 0 rfl) ?_
    refine m_getR (k' := (b + 2)) hx hb hts in_S hown hK hZ (qb 0 (by decide)).2 (qb 0 (by decide)).1 rfl 2 (by decide) (hts _ k1_132) (fun _ h9 => h9) rfl dS_widen_5 ?_
    refine lv_iload_n hx hb dS_widen_8 rfl (lv_at hl 1 rfl) ?_
    refine lv_bipush (v := 100) hx hb dS_widen_9 (by decide) ?_
    refine lv_sipush (v := 1000) hx hb dS_widen_11 (by decide) ?_
    refine lv_aload_n hx hb dS_widen_14 rfl (lv_at hl 0 rfl) ?_
    refine m_getR (k' := 1) hx hb hts in_S hown hK hZ (qb 0 (by decide)).2 (qb 0 (by decide)).1 rfl 0 (by decide) (hts _ k1_130) (fun _ h9 => h9) rfl dS_widen_15 ?_
    refine m_getR (k' := 3) hx hb hts in_P hown hK hZ (by decide) rfl rfl 5 (by decide) (hts _ k1_43) (fun _ h9 => h9) rfl dS_widen_18 ?_
    refine lv_iload_n hx hb dS_widen_21 rfl (lv_at hl 1 rfl) ?_
    obtain ⟨h_inb_x1_6, hf⟩ := m_gx hf
    refine m_iald hx hb hK hZ (by decide) rfl h_inb_x1_6 dS_widen_22 ?_
    refine lv_iload_n hx hb dS_widen_23 rfl (lv_at hl 3 rfl) ?_
    refine lv_iadd hx hb dS_widen_24 ?_
    refine va_mmin hx hb (hml.trans hl.1.symm) hown (hts _ k2_156) (hts _ k2_91) (hts _ k1_9) (hts _ kc_math_min) (by decide) (Nat.le_of_ble_eq_true rfl) (Nat.zero_le _) (Nat.zero_le _) dS_widen_25 ?_
    refine lv_imul hx hb dS_widen_28 ?_
    obtain ⟨M_3, eM_3, hf⟩ := m_lx hf
    refine m_iast hx hb hK hZ (qb 2 (by decide)).2 (qb 2 (by decide)).1 h_inb_x1_6 dS_widen_29 eM_3 (fun H locs hZ => ?_)
    refine lv_goto (tgt := 57) hx hb dS_widen_30 (by decide) ?_
    exact hret _ _ _ _ _ hf hZ dS_widen_57
abbrev rmG_worth : Room := { frames := 11, cells := 0, slots := 0, locals := 299 }
set_option maxHeartbeats 4000000 in
set_option maxRecDepth 100000 in
theorem cG_worth (l : Launch) (D : va_G) (ad : Nat → Nat) (c3 : ClassId × ClassId × ClassId) (M : mMem) (x1 : Int32) (x2 : Int32) (x3 : Int32)  {r : Int32} {M' : mMem} (hf : fG_worth M x1 x2 x3 = some (r, M')) : kIX l D ad c3 yG_worth wG_worth rmG_worth [.ref (ad 0), .int x1, .int x2, .int x3] M r M' := by
  refine m_oI (cc := bG_worth) (maxL := 4) (ty := .int) (own := R_G) nestX (by decide) rfl (Nat.le_of_ble_eq_true rfl) rfl (fun p e s m args below meth c Q hx hb hml hown hts hK hN hret ls hZ hl => ?_)
  have hl : lv_has ls 4 [(0, .ref (ad 0)), (1, .int x1), (2, .int x2), (3, .int x3)] := hl
  unfold fG_worth at hf
  refine lv_aload_n hx hb dG_worth_0 rfl (lv_at hl 0 rfl) ?_
  refine m_getR (k' := 1) hx hb hts in_G hown hK hZ (by decide) rfl rfl 0 (by decide) (hts _ k2_8) (fun _ h9 => h9) rfl dG_worth_1 ?_
  refine lv_iload_n hx hb dG_worth_4 rfl (lv_at hl 1 rfl) ?_
  obtain ⟨r_1, hc, hf⟩ := m_b1x hf
  refine m_ci (va_runV (As := [.int x1]) (rest := []) ⟨hx, hb, hml, hown, hts⟩ (cP_hasSieve l D ad c3 M x1 hc) (cwV 1 hts (gV k2_59 k2_60 k2_61 k1_2 kc_P_hasSieve) rfl rfl rfl (by decide +kernel) ⟨by decide, by decide⟩) (m_preV hK hN hZ (by decide) rfl rfl) rfl rfl hl.1 rfl (lv_room (Nat.le_of_ble_eq_true rfl)) dG_worth_5 ⟨Nat.zero_le _, Nat.zero_le _⟩) hZ (fun H locs hZ => ?_)
  refine lv_if_eq (tgt := 22) hx hb dG_worth_8 (by decide) (fun c_2 => ?_) (fun c_2 => ?_)
  · have hf := m_t hf c_2
    refine lv_iconst (v := (-1)) hx hb dG_worth_22 (by decide) ?_
    exact hret _ _ _ _ _ _ hf rfl hZ dG_worth_23
  · have hf := m_f hf c_2
    refine lv_iload_n hx hb dG_worth_11 rfl (lv_at hl 3 rfl) ?_
    refine lv_iconst (v := 0) hx hb dG_worth_12 (by decide) ?_
    refine lv_sipush (v := 1000) hx hb dG_worth_13 (by decide) ?_
    obtain ⟨r_3, hc, hf⟩ := m_b1x hf
    refine m_ci (va_runS (As := [.int x3, .int 0, .int 1000]) (rest := []) ⟨hx, hb, hml, hown, hts⟩ (cG_within l D ad c3 M x3 0 1000 hc) (cwS 3 hts (gS9 k2_68 k2_69 k1_1 kc_G_within) rfl rfl rfl (by decide +kernel) ⟨by decide, by decide⟩) (m_preS hK hN hZ) rfl rfl hl.1 rfl (lv_room (Nat.le_of_ble_eq_true rfl)) dG_worth_16 ⟨Nat.zero_le _, Nat.zero_le _⟩) hZ (fun H locs hZ => ?_)
    refine lv_if_ne (tgt := 24) hx hb dG_worth_19 (by decide) (fun c_4 => ?_) (fun c_4 => ?_)
    · have hf := m_f hf c_4
      refine lv_aload_n hx hb dG_worth_24 rfl (lv_at hl 0 rfl) ?_
      obtain ⟨M_5, hc, hf⟩ := m_b1x hf
      refine m_cv (va_runV (As := []) (rest := []) ⟨hx, hb, hml, hown, hts⟩ (cG_searchOnce l D ad c3 M hc) (cwV 0 hts (gV k2_140 k2_142 kp_4 k1_1 kc_G_searchOnce) rfl rfl rfl (by decide +kernel) ⟨by decide, by decide⟩) (m_preV hK hN hZ (by decide) rfl rfl) rfl rfl hl.1 rfl (lv_room (Nat.le_of_ble_eq_true rfl)) dG_worth_25 ⟨Nat.zero_le _, Nat.zero_le _⟩) hZ (fun H locs hZ => ?_)
      refine lv_aload_n hx hb dG_worth_28 rfl (lv_at hl 0 rfl) ?_
      refine m_getR (k' := 24) hx hb hts in_G hown hK hZ (by decide) rfl rfl 1 (by decide) (hts _ k2_9) (fun _ h9 => h9) rfl dG_worth_29 ?_
      refine m_getR (k' := 39) hx hb hts in_S hown hK hZ (by decide) rfl rfl 7 (by decide) (hts _ k1_139) (fun _ h9 => h9) rfl dG_worth_32 ?_
      refine m_get hx hb hts in_X hown hK hZ (by decide) rfl rfl 0 (by decide) (hts _ k1_110) (fun _ h9 => h9) rfl dG_worth_35 ?_
      refine lv_if_ne (tgt := 43) hx hb dG_worth_38 (by decide) (fun c_6 => ?_) (fun c_6 => ?_)
      · have hf := m_f hf c_6
        refine lv_aload_n hx hb dG_worth_43 rfl (lv_at hl 0 rfl) ?_
        refine m_getR (k' := 43) hx hb hts in_G hown hK hZ (by decide) rfl rfl 2 (by decide) (hts _ k2_10) (fun _ h9 => h9) rfl dG_worth_44 ?_
        obtain ⟨M_7, hc, hf⟩ := m_b1x hf
        refine m_cv (va_runV (As := []) (rest := []) ⟨hx, hb, hml, hown, hts⟩ (cS_useBands l D ad c3 M_5 43 isX_S_43 hc) (cwV 0 hts (gV k2_144 k2_145 k2_146 k1_3 kc_S_useBands) rfl rfl rfl (by decide +kernel) ⟨by decide, by decide⟩) (m_preV hK hN hZ (by decide) rfl rfl) rfl rfl hl.1 rfl (lv_room (Nat.le_of_ble_eq_true rfl)) dG_worth_47 ⟨Nat.zero_le _, Nat.zero_le _⟩) hZ (fun H locs hZ => ?_)
        refine lv_aload_n hx hb dG_worth_50 rfl (lv_at hl 0 rfl) ?_
        refine m_getR (k' := 43) hx hb hts in_G hown hK hZ (by decide) rfl rfl 2 (by decide) (hts _ k2_10) (fun _ h9 => h9) rfl dG_worth_51 ?_
        refine lv_iload_n hx hb dG_worth_54 rfl (lv_at hl 1 rfl) ?_
        refine lv_iload_n hx hb dG_worth_55 rfl (lv_at hl 2 rfl) ?_
        refine lv_iload_n hx hb dG_worth_56 rfl (lv_at hl 3 rfl) ?_
        obtain ⟨M_8, hc, hf⟩ := m_b1x hf
        refine m_cv (va_runV (As := [.int x1, .int x2, .int x3]) (rest := []) ⟨hx, hb, hml, hown, hts⟩ (cS_widen l D ad c3 M_7 43 x1 x2 x3 isX_S_43 hc) (cwV 3 hts (gV k2_213 k2_214 k2_215 k1_3 kc_S_widen) rfl rfl rfl (by decide +kernel) ⟨by decide, by decide⟩) (m_preV hK hN hZ (by decide) rfl rfl) rfl rfl hl.1 rfl (lv_room (Nat.le_of_ble_eq_true rfl)) dG_worth_57 ⟨Nat.zero_le _, Nat.zero_le _⟩) hZ (fun H locs hZ => ?_)
        refine lv_aload_n hx hb dG_worth_60 rfl (lv_at hl 0 rfl) ?_
        refine m_getR (k' := 43) hx hb hts in_G hown hK hZ (by decide) rfl rfl 2 (by decide) (hts _ k2_10) (fun _ h9 => h9) rfl dG_worth_61 ?_
        obtain ⟨M_9, hc, hf⟩ := m_b1x hf
        refine m_cv (va_runV (As := []) (rest := []) ⟨hx, hb, hml, hown, hts⟩ (cS_lookAtAll l D ad c3 M_8 43 isX_S_43 hc) (cwV 0 hts (gV k2_148 k2_149 k2_150 k1_3 kc_S_lookAtAll) rfl rfl rfl (by decide +kernel) ⟨by decide, by decide⟩) (m_preV hK hN hZ (by decide) rfl rfl) rfl rfl hl.1 rfl (lv_room (Nat.le_of_ble_eq_true rfl)) dG_worth_64 ⟨Nat.zero_le _, Nat.zero_le _⟩) hZ (fun H locs hZ => ?_)
        refine lv_aload_n hx hb dG_worth_67 rfl (lv_at hl 0 rfl) ?_
        refine m_getR (k' := 24) hx hb hts in_G hown hK hZ (by decide) rfl rfl 1 (by decide) (hts _ k2_9) (fun _ h9 => h9) rfl dG_worth_68 ?_
        refine m_getR (k' := 39) hx hb hts in_S hown hK hZ (by decide) rfl rfl 7 (by decide) (hts _ k1_139) (fun _ h9 => h9) rfl dG_worth_71 ?_
        refine m_get hx hb hts in_X hown hK hZ (by decide) rfl rfl 2 (by decide) (hts _ k1_117) (fun _ h9 => h9) rfl dG_worth_74 ?_
        refine lv_aload_n hx hb dG_worth_77 rfl (lv_at hl 0 rfl) ?_
        refine m_getR (k' := 43) hx hb hts in_G hown hK hZ (by decide) rfl rfl 2 (by decide) (hts _ k2_10) (fun _ h9 => h9) rfl dG_worth_78 ?_
        refine m_getR (k' := 58) hx hb hts in_S hown hK hZ (by decide) rfl rfl 7 (by decide) (hts _ k1_139) (fun _ h9 => h9) rfl dG_worth_81 ?_
        refine m_get hx hb hts in_X hown hK hZ (by decide) rfl rfl 2 (by decide) (hts _ k1_117) (fun _ h9 => h9) rfl dG_worth_84 ?_
        refine lv_isub hx hb dG_worth_87 ?_
        exact hret _ _ _ _ _ _ hf rfl hZ dG_worth_88
      · have hf := m_t hf c_6
        refine lv_iconst (v := (-1)) hx hb dG_worth_41 (by decide) ?_
        exact hret _ _ _ _ _ _ hf rfl hZ dG_worth_42
    · have hf := m_t hf c_4
      refine lv_iconst (v := (-1)) hx hb dG_worth_22 (by decide) ?_
      exact hret _ _ _ _ _ _ hf rfl hZ dG_worth_23
abbrev rmG_water : Room := { frames := 1, cells := 0, slots := 0, locals := 22 }
set_option maxHeartbeats 4000000 in
set_option maxRecDepth 100000 in
theorem cG_water (l : Launch) (D : va_G) (ad : Nat → Nat) (c3 : ClassId × ClassId × ClassId) (M : mMem) (x1 : Int32) (x2 : Int32)  {r : Int32} {M' : mMem} (hf : fG_water M x1 x2 = some (r, M')) : kIX l D ad c3 yG_water wG_water rmG_water [.ref (ad 0), .int x1, .int x2] M r M' := by
  refine m_oI (cc := bG_water) (maxL := 4) (ty := .int) (own := R_G) nestX (by decide) rfl (Nat.le_of_ble_eq_true rfl) rfl (fun p e s m args below meth c Q hx hb hml hown hts hK hN hret ls hZ hl => ?_)
  have hl : lv_has ls 4 [(0, .ref (ad 0)), (1, .int x1), (2, .int x2)] := hl
  unfold fG_water at hf
  refine lv_aload_n hx hb dG_water_0 rfl (lv_at hl 0 rfl) ?_
  refine m_getR (k' := 1) hx hb hts in_G hown hK hZ (by decide) rfl rfl 0 (by decide) (hts _ k2_8) (fun _ h9 => h9) rfl dG_water_1 ?_
  refine lv_iload_n hx hb dG_water_4 rfl (lv_at hl 1 rfl) ?_
  obtain ⟨r_1, hc, hf⟩ := m_b1x hf
  refine m_ci (va_runV (As := [.int x1]) (rest := []) ⟨hx, hb, hml, hown, hts⟩ (cP_hasStock l D ad c3 M x1 hc) (cwV 1 hts (gV k2_79 k2_80 k2_81 k1_2 kc_P_hasStock) rfl rfl rfl (by decide +kernel) ⟨by decide, by decide⟩) (m_preV hK hN hZ (by decide) rfl rfl) rfl rfl hl.1 rfl (lv_room (Nat.le_of_ble_eq_true rfl)) dG_water_5 ⟨Nat.zero_le _, Nat.zero_le _⟩) hZ (fun H locs hZ => ?_)
  refine lv_if_eq (tgt := 22) hx hb dG_water_8 (by decide) (fun c_2 => ?_) (fun c_2 => ?_)
  · have hf := m_t hf c_2
    refine lv_iconst (v := (-1)) hx hb dG_water_22 (by decide) ?_
    exact hret _ _ _ _ _ _ hf rfl hZ dG_water_23
  · have hf := m_f hf c_2
    refine lv_iload_n hx hb dG_water_11 rfl (lv_at hl 2 rfl) ?_
    refine lv_iconst (v := 0) hx hb dG_water_12 (by decide) ?_
    refine lv_sipush (v := 300) hx hb dG_water_13 (by decide) ?_
    obtain ⟨r_3, hc, hf⟩ := m_b1x hf
    refine m_ci (va_runS (As := [.int x2, .int 0, .int 300]) (rest := []) ⟨hx, hb, hml, hown, hts⟩ (cG_within l D ad c3 M x2 0 300 hc) (cwS 3 hts (gS9 k2_68 k2_69 k1_1 kc_G_within) rfl rfl rfl (by decide +kernel) ⟨by decide, by decide⟩) (m_preS hK hN hZ) rfl rfl hl.1 rfl (lv_room (Nat.le_of_ble_eq_true rfl)) dG_water_16 ⟨Nat.zero_le _, Nat.zero_le _⟩) hZ (fun H locs hZ => ?_)
    refine lv_if_ne (tgt := 24) hx hb dG_water_19 (by decide) (fun c_4 => ?_) (fun c_4 => ?_)
    · have hf := m_f hf c_4
      refine lv_aload_n hx hb dG_water_24 rfl (lv_at hl 0 rfl) ?_
      refine m_getR (k' := 1) hx hb hts in_G hown hK hZ (by decide) rfl rfl 0 (by decide) (hts _ k2_8) (fun _ h9 => h9) rfl dG_water_25 ?_
      refine m_getR (k' := 8) hx hb hts in_P hown hK hZ (by decide) rfl rfl 10 (by decide) (hts _ k1_55) (fun _ h9 => h9) rfl dG_water_28 ?_
      refine lv_iload_n hx hb dG_water_31 rfl (lv_at hl 1 rfl) ?_
      obtain ⟨h_inb_x1_4, hf⟩ := m_gx hf
      refine m_iald hx hb hK hZ (by decide) rfl h_inb_x1_4 dG_water_32 ?_
      obtain ⟨x3_5, ex3_5, hf⟩ := m_lx hf
      refine m_topi ex3_5 ?_
      refine lv_istore_n (lv' := [(3, .int x3_5), (0, .ref (ad 0)), (1, .int x1), (2, .int x2)]) hx hb dG_water_33 rfl hl (by decide) rfl (fun ls hl => ?_)
      refine lv_aload_n hx hb dG_water_34 rfl (lv_at hl 1 rfl) ?_
      refine m_getR (k' := 1) hx hb hts in_G hown hK hZ (by decide) rfl rfl 0 (by decide) (hts _ k2_8) (fun _ h9 => h9) rfl dG_water_35 ?_
      refine m_getR (k' := 8) hx hb hts in_P hown hK hZ (by decide) rfl rfl 10 (by decide) (hts _ k1_55) (fun _ h9 => h9) rfl dG_water_38 ?_
      refine lv_iload_n hx hb dG_water_41 rfl (lv_at hl 2 rfl) ?_
      refine lv_iload_n hx hb dG_water_42 rfl (lv_at hl 3 rfl) ?_
      obtain ⟨M_6, eM_6, hf⟩ := m_lx hf
      refine m_iast hx hb hK hZ (by decide) rfl h_inb_x1_4 dG_water_43 eM_6 (fun H locs hZ => ?_)
      refine lv_iload_n hx hb dG_water_44 rfl (lv_at hl 0 rfl) ?_
      exact hret _ _ _ _ _ _ hf rfl hZ dG_water_45
    · have hf := m_t hf c_4
      refine lv_iconst (v := (-1)) hx hb dG_water_22 (by decide) ?_
      exact hret _ _ _ _ _ _ hf rfl hZ dG_water_23
end
section
abbrev rmB_fill : Room := { frames := 0, cells := 0, slots := 0, locals := 0 }
set_option maxHeartbeats 4000000 in
set_option maxRecDepth 100000 in
theorem cB_fill (l : Launch) (D : va_G) (ad : Nat → Nat) (c3 : ClassId × ClassId × ClassId) (M : mMem) (x1 : Int32) (k2 : Nat) (qk2 : isX_X k2) {r : Int32} {M' : mMem} (hf : fB_fill M x1 k2 = some (r, M')) : kIX l D ad c3 yB_fill wB_fill rmB_fill [.ref (ad 68), .int x1, .ref (ad k2), .ref (ad 1)] M r M' := by
  refine m_oI (cc := bB_fill) (maxL := 10) (ty := .int) (own := R_B) nestX (by decide) rfl (Nat.le_of_ble_eq_true rfl) rfl (fun p e s m args below meth c Q hx hb hml hown hts hK hN hret ls hZ hl => ?_)
  have hl : lv_has ls 10 [(0, .ref (ad 68)), (1, .int x1), (2, .ref (ad k2)), (3, .ref (ad 1))] := hl
  unfold fB_fill at hf
  have B109 : ∀ (M : mMem) (x6 : Int32), fB_fill_B109 M x6 = some (r, M') → ∀ (H : Heap) (locs : List Loc) (ls : Array Slot), zX D ad c3 s H locs M → lv_has ls 10 [(0, .ref (ad 68)), (6, .int x6)] → W p l e rmB_fill s m args below meth c H locs 0 0 Q (F0 m 109 ls []) := by
    intro M x6 hf H locs ls hZ hl
    unfold fB_fill_B109 at hf
    refine lv_aload_n hx hb dB_fill_109 rfl (lv_at hl 0 rfl) ?_
    refine lv_iconst (v := 1) hx hb dB_fill_110 (by decide) ?_
    obtain ⟨M_2, eM_2, hf⟩ := m_lx hf
    refine m_put (ty := .boolean) hx hb hts in_B ⟨ty_B_ok, nm_B_ok⟩ hown hK hZ (by decide) rfl rfl 0 (by decide) (hts _ k1_201) (fun _ h9 => h9) rfl (by decide +kernel) rfl rfl rfl dB_fill_111 eM_2 (fun H locs hZ => ?_)
    refine lv_iload hx hb dB_fill_114 (lv_at hl 1 rfl) ?_
    exact hret _ _ _ _ _ _ hf rfl hZ dB_fill_116
  have L12 : ∀ (n12 : Nat) (M : mMem) (x4 : Int32) (x5 : Int32) (x6 : Int32) (x7 : Int32), fB_fill_L12 x1 k2 n12 M x4 x5 x6 x7 = some (r, M') → ∀ (H : Heap) (locs : List Loc) (ls : Array Slot), zX D ad c3 s H locs M → lv_has ls 10 [(0, .ref (ad 68)), (1, .int x1), (2, .ref (ad k2)), (3, .ref (ad 1)), (4, .int x4), (5, .int x5), (6, .int x6), (7, .int x7)] → W p l e rmB_fill s m args below meth c H locs 0 0 Q (F0 m 12 ls []) := by
    intro n12
    induction n12 with
    | zero => intro M x4 x5 x6 x7 hf; exact m_none hf
    | succ n12 ih12 =>
      intro M x4 x5 x6 x7 hf H locs ls hZ hl
      rw [fB_fill_L12] at hf
      refine lv_iload hx hb dB_fill_12 (lv_at hl 7 rfl) ?_
      refine lv_aload_n hx hb dB_fill_14 rfl (lv_at hl 3 rfl) ?_
      refine m_get hx hb hts in_P hown hK hZ (by decide) rfl rfl 1 (by decide) (hts _ k1_30) (fun _ h9 => h9) rfl dB_fill_15 ?_
      refine lv_icmp_ge (tgt := 109) hx hb dB_fill_18 (by decide) (fun c_1 => ?_) (fun c_1 => ?_)
      · have hf := m_t hf c_1
        exact B109 M x6 hf _ _ _ hZ (lv_sub hl [0, 6] rfl)
      · have hf := m_f hf c_1
        refine lv_iload hx hb dB_fill_21 (lv_at hl 4 rfl) ?_
        refine lv_aload_n hx hb dB_fill_23 rfl (lv_at hl 2 rfl) ?_
        refine m_getR (k' := (k2 + 1)) hx hb hts in_X hown hK hZ (qk2 0 (by decide)).2 (qk2 0 (by decide)).1 rfl 1 (by decide) (hts _ k1_112) (fun _ h9 => h9) rfl dB_fill_24 ?_
        refine lv_iload hx hb dB_fill_27 (lv_at hl 7 rfl) ?_
        obtain ⟨h_3, hf⟩ := m_gx hf
        refine m_iald hx hb hK hZ (qk2 1 (by decide)).2 (qk2 1 (by decide)).1 h_3 dB_fill_29 ?_
        refine lv_iadd hx hb dB_fill_30 ?_
        obtain ⟨x4_4, ex4_4, hf⟩ := m_lx hf
        refine m_topi ex4_4 ?_
        refine lv_istore (lv' := [(4, .int x4_4), (0, .ref (ad 68)), (1, .int x1), (2, .ref (ad k2)), (3, .ref (ad 1)), (5, .int x5), (6, .int x6), (7, .int x7)]) hx hb dB_fill_31 hl (by decide) rfl (fun ls hl => ?_)
        refine lv_iload_n hx hb dB_fill_33 rfl (lv_at hl 2 rfl) ?_
        refine lv_iload hx hb dB_fill_34 (lv_at hl 0 rfl) ?_
        refine lv_imul hx hb dB_fill_36 ?_
        refine lv_bipush (v := 100) hx hb dB_fill_37 (by decide) ?_
        refine lv_idiv hx hb dB_fill_39 (by decide) ?_
        obtain ⟨x8_5, ex8_5, hf⟩ := m_lx hf
        refine m_topi ex8_5 ?_
        refine lv_istore (lv' := [(8, .int x8_5), (4, .int x4_4), (0, .ref (ad 68)), (1, .int x1), (2, .ref (ad k2)), (3, .ref (ad 1)), (5, .int x5), (6, .int x6), (7, .int x7)]) hx hb dB_fill_40 hl (by decide) rfl (fun ls hl => ?_)
        refine lv_aload_n hx hb dB_fill_42 rfl (lv_at hl 2 rfl) ?_
        refine m_getR (k' := 69) hx hb hts in_B hown hK hZ (by decide) rfl rfl 1 (by decide) (hts _ k1_203) (fun _ h9 => h9) rfl dB_fill_43 ?_
        refine lv_iload hx hb dB_fill_46 (lv_at hl 8 rfl) ?_
        refine lv_iload hx hb dB_fill_48 (lv_at hl 0 rfl) ?_
        refine lv_iload hx hb dB_fill_50 (lv_at hl 6 rfl) ?_
        refine lv_isub hx hb dB_fill_52 ?_
        obtain ⟨M_6, eM_6, hf⟩ := m_lx hf
        refine m_iast hx hb hK hZ (by decide) rfl h_3 dB_fill_53 eM_6 (fun H locs hZ => ?_)
        refine lv_aload_n hx hb dB_fill_54 rfl (lv_at hl 2 rfl) ?_
        refine m_getR (k' := 69) hx hb hts in_B hown hK hZ (by decide) rfl rfl 1 (by decide) (hts _ k1_203) (fun _ h9 => h9) rfl dB_fill_55 ?_
        refine lv_iload hx hb dB_fill_58 (lv_at hl 8 rfl) ?_
        refine m_iald hx hb hK hZ (by decide) rfl h_3 dB_fill_60 ?_
        refine lv_aload_n hx hb dB_fill_61 rfl (lv_at hl 5 rfl) ?_
        refine m_getR (k' := 8) hx hb hts in_P hown hK hZ (by decide) rfl rfl 10 (by decide) (hts _ k1_54) (fun _ h9 => h9) rfl dB_fill_62 ?_
        refine lv_iload hx hb dB_fill_65 (lv_at hl 8 rfl) ?_
        refine m_iald hx hb hK hZ (by decide) rfl h_3 dB_fill_67 ?_
        refine lv_imul hx hb dB_fill_68 ?_
        refine lv_sipush (v := 1000) hx hb dB_fill_69 (by decide) ?_
        refine lv_idiv hx hb dB_fill_72 (by decide) ?_
        obtain ⟨x9_7, ex9_7, hf⟩ := m_lx hf
        refine m_topi ex9_7 ?_
        refine lv_istore (lv' := [(9, .int x9_7), (8, .int x8_5), (4, .int x4_4), (0, .ref (ad 68)), (1, .int x1), (2, .ref (ad k2)), (3, .ref (ad 1)), (5, .int x5), (6, .int x6), (7, .int x7)]) hx hb dB_fill_73 hl (by decide) rfl (fun ls hl => ?_)
        refine lv_aload_n hx hb dB_fill_75 rfl (lv_at hl 3 rfl) ?_
        refine m_getR (k' := 70) hx hb hts in_B hown hK hZ (by decide) rfl rfl 2 (by decide) (hts _ k1_205) (fun _ h9 => h9) rfl dB_fill_76 ?_
        refine lv_iload hx hb dB_fill_79 (lv_at hl 9 rfl) ?_
        refine lv_aload_n hx hb dB_fill_81 rfl (lv_at hl 3 rfl) ?_
        refine m_getR (k' := 69) hx hb hts in_B hown hK hZ (by decide) rfl rfl 1 (by decide) (hts _ k1_203) (fun _ h9 => h9) rfl dB_fill_82 ?_
        refine lv_iload hx hb dB_fill_85 (lv_at hl 9 rfl) ?_
        refine m_iald hx hb hK hZ (by decide) rfl h_3 dB_fill_87 ?_
        refine lv_iload hx hb dB_fill_88 (lv_at hl 0 rfl) ?_
        refine lv_iadd hx hb dB_fill_90 ?_
        obtain ⟨M_8, eM_8, hf⟩ := m_lx hf
        refine m_iast hx hb hK hZ (by decide) rfl h_3 dB_fill_91 eM_8 (fun H locs hZ => ?_)
        refine lv_iload hx hb dB_fill_92 (lv_at hl 8 rfl) ?_
        refine lv_iload hx hb dB_fill_94 (lv_at hl 0 rfl) ?_
        refine lv_iadd hx hb dB_fill_96 ?_
        obtain ⟨x6_9, ex6_9, hf⟩ := m_lx hf
        refine m_topi ex6_9 ?_
        refine lv_istore (lv' := [(6, .int x6_9), (9, .int x9_7), (8, .int x8_5), (4, .int x4_4), (0, .ref (ad 68)), (1, .int x1), (2, .ref (ad k2)), (3, .ref (ad 1)), (5, .int x5), (7, .int x7)]) hx hb dB_fill_97 hl (by decide) rfl (fun ls hl => ?_)
        refine lv_iload hx hb dB_fill_99 (lv_at hl 2 rfl) ?_
        refine lv_istore (lv' := [(5, .int x8_5), (6, .int x6_9), (9, .int x9_7), (8, .int x8_5), (4, .int x4_4), (0, .ref (ad 68)), (1, .int x1), (2, .ref (ad k2)), (3, .ref (ad 1)), (7, .int x7)]) hx hb dB_fill_101 hl (by decide) rfl (fun ls hl => ?_)
        obtain ⟨x7_10, ex7_10, hf⟩ := m_lx hf
        refine lv_iinc (v := x7_10) (lv' := [(7, .int x7_10), (5, .int x8_5), (6, .int x6_9), (9, .int x9_7), (8, .int x8_5), (4, .int x4_4), (0, .ref (ad 68)), (1, .int x1), (2, .ref (ad k2)), (3, .ref (ad 1))]) hx hb dB_fill_103 hl (k := 9) rfl (by rw [ex7_10]; rfl) (by decide) rfl (fun ls hl => ?_)
        refine lv_goto (tgt := 12) hx hb dB_fill_106 (by decide) ?_
        exact ih12 _ _ _ _ _ hf _ _ _ hZ (lv_sub hl [6, 7, 8, 9, 5, 1, 2, 0] rfl)
  refine lv_iconst (v := 0) hx hb dB_fill_0 (by decide) ?_
  refine lv_istore (lv' := [(4, .int 0), (0, .ref (ad 68)), (1, .int x1), (2, .ref (ad k2)), (3, .ref (ad 1))]) hx hb dB_fill_1 hl (by decide) rfl (fun ls hl => ?_)
  refine lv_iconst (v := 0) hx hb dB_fill_3 (by decide) ?_
  refine lv_istore (lv' := [(5, .int 0), (4, .int 0), (0, .ref (ad 68)), (1, .int x1), (2, .ref (ad k2)), (3, .ref (ad 1))]) hx hb dB_fill_4 hl (by decide) rfl (fun ls hl => ?_)
  refine lv_iconst (v := 0) hx hb dB_fill_6 (by decide) ?_
  refine lv_istore (lv' := [(6, .int 0), (5, .int 0), (4, .int 0), (0, .ref (ad 68)), (1, .int x1), (2, .ref (ad k2)), (3, .ref (ad 1))]) hx hb dB_fill_7 hl (by decide) rfl (fun ls hl => ?_)
  refine lv_iconst (v := 0) hx hb dB_fill_9 (by decide) ?_
  refine lv_istore (lv' := [(7, .int 0), (6, .int 0), (5, .int 0), (4, .int 0), (0, .ref (ad 68)), (1, .int x1), (2, .ref (ad k2)), (3, .ref (ad 1))]) hx hb dB_fill_10 hl (by decide) rfl (fun ls hl => ?_)
  exact L12 128 M 0 0 0 0 hf _ _ _ hZ (lv_sub hl [4, 5, 6, 7, 3, 2, 1, 0] rfl)
abbrev rmG_batch : Room := { frames := 1, cells := 0, slots := 0, locals := 29 }
set_option maxHeartbeats 4000000 in
set_option maxRecDepth 100000 in
theorem cG_batch (l : Launch) (D : va_G) (ad : Nat → Nat) (c3 : ClassId × ClassId × ClassId) (M : mMem) (x1 : Int32)  {r : Int32} {M' : mMem} (hf : fG_batch M x1 = some (r, M')) : kIX l D ad c3 yG_batch wG_batch rmG_batch [.ref (ad 0), .int x1] M r M' := by
  refine m_oI (cc := bG_batch) (maxL := 2) (ty := .int) (own := R_G) nestX (by decide) rfl (Nat.le_of_ble_eq_true rfl) rfl (fun p e s m args below meth c Q hx hb hml hown hts hK hN hret ls hZ hl => ?_)
  have hl : lv_has ls 2 [(0, .ref (ad 0)), (1, .int x1)] := hl
  unfold fG_batch at hf
  refine lv_aload_n hx hb dG_batch_0 rfl (lv_at hl 0 rfl) ?_
  refine m_getR (k' := 66) hx hb hts in_G hown hK hZ (by decide) rfl rfl 4 (by decide) (hts _ k2_12) (fun _ h9 => h9) rfl dG_batch_1 ?_
  refine m_get hx hb hts in_X hown hK hZ (by decide) rfl rfl 0 (by decide) (hts _ k1_110) (fun _ h9 => h9) rfl dG_batch_4 ?_
  refine lv_if_eq (tgt := 20) hx hb dG_batch_7 (by decide) (fun c_1 => ?_) (fun c_1 => ?_)
  · have hf := m_t hf c_1
    refine lv_iconst (v := (-1)) hx hb dG_batch_20 (by decide) ?_
    exact hret _ _ _ _ _ _ hf rfl hZ dG_batch_21
  · have hf := m_f hf c_1
    refine lv_iload_n hx hb dG_batch_10 rfl (lv_at hl 1 rfl) ?_
    refine lv_iconst (v := 0) hx hb dG_batch_11 (by decide) ?_
    refine lv_ldc (v := 1000000) hx hb hown (hts _ k2_225) dG_batch_12 ?_
    obtain ⟨r_2, hc, hf⟩ := m_b1x hf
    refine m_ci (va_runS (As := [.int x1, .int 0, .int 1000000]) (rest := []) ⟨hx, hb, hml, hown, hts⟩ (cG_within l D ad c3 M x1 0 1000000 hc) (cwS 3 hts (gS9 k2_68 k2_69 k1_1 kc_G_within) rfl rfl rfl (by decide +kernel) ⟨by decide, by decide⟩) (m_preS hK hN hZ) rfl rfl hl.1 rfl (lv_room (Nat.le_of_ble_eq_true rfl)) dG_batch_14 ⟨Nat.zero_le _, Nat.zero_le _⟩) hZ (fun H locs hZ => ?_)
    refine lv_if_ne (tgt := 22) hx hb dG_batch_17 (by decide) (fun c_3 => ?_) (fun c_3 => ?_)
    · have hf := m_f hf c_3
      refine lv_aload_n hx hb dG_batch_22 rfl (lv_at hl 0 rfl) ?_
      refine m_getR (k' := 68) hx hb hts in_G hown hK hZ (by decide) rfl rfl 5 (by decide) (hts _ k2_13) (fun _ h9 => h9) rfl dG_batch_23 ?_
      refine lv_iload_n hx hb dG_batch_26 rfl (lv_at hl 1 rfl) ?_
      refine lv_aload_n hx hb dG_batch_27 rfl (lv_at hl 0 rfl) ?_
      refine m_getR (k' := 66) hx hb hts in_G hown hK hZ (by decide) rfl rfl 4 (by decide) (hts _ k2_12) (fun _ h9 => h9) rfl dG_batch_28 ?_
      refine lv_aload_n hx hb dG_batch_31 rfl (lv_at hl 0 rfl) ?_
      refine m_getR (k' := 1) hx hb hts in_G hown hK hZ (by decide) rfl rfl 0 (by decide) (hts _ k2_8) (fun _ h9 => h9) rfl dG_batch_32 ?_
      obtain ⟨r_4, M_5, hc, hf⟩ := m_b2x hf
      refine m_ci (va_runV (As := [.int x1, .ref (ad 66), .ref (ad 1)]) (rest := []) ⟨hx, hb, hml, hown, hts⟩ (cB_fill l D ad c3 M x1 66 isX_X_66 hc) (cwV 3 hts (gV k2_226 k2_227 k2_228 k1_6 kc_B_fill) rfl rfl rfl (by decide +kernel) ⟨by decide, by decide⟩) (m_preV hK hN hZ (by decide) rfl rfl) rfl rfl hl.1 rfl (lv_room (Nat.le_of_ble_eq_true rfl)) dG_batch_35 ⟨Nat.zero_le _, Nat.zero_le _⟩) hZ (fun H locs hZ => ?_)
      exact hret _ _ _ _ _ _ hf rfl hZ dG_batch_38
    · have hf := m_t hf c_3
      refine lv_iconst (v := (-1)) hx hb dG_batch_20 (by decide) ?_
      exact hret _ _ _ _ _ _ hf rfl hZ dG_batch_21
abbrev rmG_mass : Room := { frames := 1, cells := 0, slots := 0, locals := 21 }
set_option maxHeartbeats 4000000 in
set_option maxRecDepth 100000 in
theorem cG_mass (l : Launch) (D : va_G) (ad : Nat → Nat) (c3 : ClassId × ClassId × ClassId) (M : mMem) (x1 : Int32) (x2 : Int32)  {r : Int32} (hf : fG_mass M x1 x2 = some r) : kPX l D ad c3 yG_mass wG_mass rmG_mass [.ref (ad 0), .int x1, .int x2] M r := by
  refine m_oP (cc := bG_mass) (maxL := 3) (ty := .int) (own := R_G) nestX (by decide) rfl (Nat.le_of_ble_eq_true rfl) rfl (fun p e s m args below meth c Q hx hb hml hown hts hK hN hret ls hZ hl => ?_)
  have hl : lv_has ls 3 [(0, .ref (ad 0)), (1, .int x1), (2, .int x2)] := hl
  unfold fG_mass at hf
  refine lv_aload_n hx hb dG_mass_0 rfl (lv_at hl 0 rfl) ?_
  refine m_getR (k' := 68) hx hb hts in_G hown hK hZ (by decide) rfl rfl 5 (by decide) (hts _ k2_13) (fun _ h9 => h9) rfl dG_mass_1 ?_
  refine m_get hx hb hts in_B hown hK hZ (by decide) rfl rfl 0 (by decide) (hts _ k1_202) (fun _ h9 => h9) rfl dG_mass_4 ?_
  refine lv_if_eq (tgt := 21) hx hb dG_mass_7 (by decide) (fun c_1 => ?_) (fun c_1 => ?_)
  · have hf := m_t hf c_1
    refine lv_iconst (v := (-1)) hx hb dG_mass_21 (by decide) ?_
    exact hret _ _ _ _ _ (fun _ _ => 0) hf rfl hZ dG_mass_22
  · have hf := m_f hf c_1
    refine lv_aload_n hx hb dG_mass_10 rfl (lv_at hl 0 rfl) ?_
    refine m_getR (k' := 1) hx hb hts in_G hown hK hZ (by decide) rfl rfl 0 (by decide) (hts _ k2_8) (fun _ h9 => h9) rfl dG_mass_11 ?_
    refine lv_iload_n hx hb dG_mass_14 rfl (lv_at hl 1 rfl) ?_
    obtain ⟨r_2, hc, hf⟩ := m_b1x hf
    refine m_ci (va_runV (As := [.int x1]) (rest := []) ⟨hx, hb, hml, hown, hts⟩ (cP_hasStock l D ad c3 M x1 hc) (cwV 1 hts (gV k2_79 k2_80 k2_81 k1_2 kc_P_hasStock) rfl rfl rfl (by decide +kernel) ⟨by decide, by decide⟩) (m_preV hK hN hZ (by decide) rfl rfl) rfl rfl hl.1 rfl (lv_room (Nat.le_of_ble_eq_true rfl)) dG_mass_15 ⟨Nat.zero_le _, Nat.zero_le _⟩) hZ (fun H locs hZ => ?_)
    refine lv_if_ne (tgt := 23) hx hb dG_mass_18 (by decide) (fun c_3 => ?_) (fun c_3 => ?_)
    · have hf := m_f hf c_3
      refine lv_iload_n hx hb dG_mass_23 rfl (lv_at hl 2 rfl) ?_
      refine lv_if_eq (tgt := 39) hx hb dG_mass_24 (by decide) (fun c_4 => ?_) (fun c_4 => ?_)
      · have hf := m_t hf c_4
        refine lv_aload_n hx hb dG_mass_39 rfl (lv_at hl 0 rfl) ?_
        refine m_getR (k' := 68) hx hb hts in_G hown hK hZ (by decide) rfl rfl 5 (by decide) (hts _ k2_13) (fun _ h9 => h9) rfl dG_mass_40 ?_
        refine m_getR (k' := 69) hx hb hts in_B hown hK hZ (by decide) rfl rfl 1 (by decide) (hts _ k1_204) (fun _ h9 => h9) rfl dG_mass_43 ?_
        refine lv_iload_n hx hb dG_mass_46 rfl (lv_at hl 1 rfl) ?_
        obtain ⟨h_inb_x1_4, hf⟩ := m_gx hf
        refine m_iald hx hb hK hZ (by decide) rfl h_inb_x1_4 dG_mass_47 ?_
        exact hret _ _ _ _ _ (fun _ _ => 0) hf rfl hZ dG_mass_48
      · have hf := m_f hf c_4
        refine lv_aload_n hx hb dG_mass_27 rfl (lv_at hl 0 rfl) ?_
        refine m_getR (k' := 68) hx hb hts in_G hown hK hZ (by decide) rfl rfl 5 (by decide) (hts _ k2_13) (fun _ h9 => h9) rfl dG_mass_28 ?_
        refine m_getR (k' := 70) hx hb hts in_B hown hK hZ (by decide) rfl rfl 2 (by decide) (hts _ k1_206) (fun _ h9 => h9) rfl dG_mass_31 ?_
        refine lv_iload_n hx hb dG_mass_34 rfl (lv_at hl 1 rfl) ?_
        obtain ⟨h_inb_x1_4, hf⟩ := m_gx hf
        refine m_iald hx hb hK hZ (by decide) rfl h_inb_x1_4 dG_mass_35 ?_
        refine lv_goto (tgt := 48) hx hb dG_mass_36 (by decide) ?_
        exact hret _ _ _ _ _ (fun _ _ => 0) hf rfl hZ dG_mass_48
    · have hf := m_t hf c_3
      refine lv_iconst (v := (-1)) hx hb dG_mass_21 (by decide) ?_
      exact hret _ _ _ _ _ (fun _ _ => 0) hf rfl hZ dG_mass_22
abbrev rmG_limit : Room := { frames := 1, cells := 0, slots := 0, locals := 22 }
set_option maxHeartbeats 4000000 in
set_option maxRecDepth 100000 in
theorem cG_limit (l : Launch) (D : va_G) (ad : Nat → Nat) (c3 : ClassId × ClassId × ClassId) (M : mMem) (x1 : Int32)  {r : Int32} {M' : mMem} (hf : fG_limit M x1 = some (r, M')) : kIX l D ad c3 yG_limit wG_limit rmG_limit [.ref (ad 0), .int x1] M r M' := by
  refine m_oI (cc := bG_limit) (maxL := 3) (ty := .int) (own := R_G) nestX (by decide) rfl (Nat.le_of_ble_eq_true rfl) rfl (fun p e s m args below meth c Q hx hb hml hown hts hK hN hret ls hZ hl => ?_)
  have hl : lv_has ls 3 [(0, .ref (ad 0)), (1, .int x1)] := hl
  unfold fG_limit at hf
  refine lv_iload_n hx hb dG_limit_0 rfl (lv_at hl 1 rfl) ?_
  refine lv_iconst (v := 1) hx hb dG_limit_1 (by decide) ?_
  refine lv_sipush (v := 1000) hx hb dG_limit_2 (by decide) ?_
  obtain ⟨r_1, hc, hf⟩ := m_b1x hf
  refine m_ci (va_runS (As := [.int x1, .int 1, .int 1000]) (rest := []) ⟨hx, hb, hml, hown, hts⟩ (cG_within l D ad c3 M x1 1 1000 hc) (cwS 3 hts (gS9 k2_68 k2_69 k1_1 kc_G_within) rfl rfl rfl (by decide +kernel) ⟨by decide, by decide⟩) (m_preS hK hN hZ) rfl rfl hl.1 rfl (lv_room (Nat.le_of_ble_eq_true rfl)) dG_limit_5 ⟨Nat.zero_le _, Nat.zero_le _⟩) hZ (fun H locs hZ => ?_)
  refine lv_if_ne (tgt := 13) hx hb dG_limit_8 (by decide) (fun c_2 => ?_) (fun c_2 => ?_)
  · have hf := m_f hf c_2
    refine lv_aload_n hx hb dG_limit_13 rfl (lv_at hl 0 rfl) ?_
    refine m_get hx hb hts in_G hown hK hZ (by decide) rfl rfl 8 (by decide) (hts _ k2_16) (fun _ h9 => h9) rfl dG_limit_14 ?_
    obtain ⟨x2_3, ex2_3, hf⟩ := m_lx hf
    refine m_topi ex2_3 ?_
    refine lv_istore_n (lv' := [(2, .int x2_3), (0, .ref (ad 0)), (1, .int x1)]) hx hb dG_limit_17 rfl hl (by decide) rfl (fun ls hl => ?_)
    refine lv_aload_n hx hb dG_limit_18 rfl (lv_at hl 1 rfl) ?_
    refine lv_iload_n hx hb dG_limit_19 rfl (lv_at hl 2 rfl) ?_
    obtain ⟨M_4, eM_4, hf⟩ := m_lx hf
    refine m_put (ty := .int) hx hb hts in_G ⟨ty_G_ok, nm_G_ok⟩ hown hK hZ (by decide) rfl rfl 8 (by decide) (hts _ k2_16) (fun _ h9 => h9) rfl (by decide +kernel) rfl rfl rfl dG_limit_20 eM_4 (fun H locs hZ => ?_)
    refine lv_iload_n hx hb dG_limit_23 rfl (lv_at hl 0 rfl) ?_
    exact hret _ _ _ _ _ _ hf rfl hZ dG_limit_24
  · have hf := m_t hf c_2
    refine lv_iconst (v := (-1)) hx hb dG_limit_11 (by decide) ?_
    exact hret _ _ _ _ _ _ hf rfl hZ dG_limit_12
abbrev rmL_add : Room := { frames := 0, cells := 0, slots := 0, locals := 0 }
set_option maxHeartbeats 4000000 in
set_option maxRecDepth 100000 in
theorem cL_add (l : Launch) (D : va_G) (ad : Nat → Nat) (c3 : ClassId × ClassId × ClassId) (M : mMem) (x1 : Int32) (x2 : Int32)  {M' : mMem} (hf : fL_add M x1 x2 = some M') : kVX l D ad c3 yL_add wL_add rmL_add [.ref (ad 71), .int x1, .int x2] M M' := by
  refine m_oV (cc := bL_add) (maxL := 3) (own := R_L) nestX (by decide) rfl (Nat.le_of_ble_eq_true rfl) rfl (fun p e s m args below meth c Q hx hb hml hown hts hK hN hret ls hZ hl => ?_)
  have hl : lv_has ls 3 [(0, .ref (ad 71)), (1, .int x1), (2, .int x2)] := hl
  unfold fL_add at hf
  refine lv_aload_n hx hb dL_add_0 rfl (lv_at hl 0 rfl) ?_
  refine m_getR (k' := 73) hx hb hts in_L hown hK hZ (by decide) rfl rfl 2 (by decide) (hts _ k1_224) (fun _ h9 => h9) rfl dL_add_1 ?_
  refine lv_iload_n hx hb dL_add_4 rfl (lv_at hl 1 rfl) ?_
  obtain ⟨h_inb_x1_6, hf⟩ := m_gx hf
  refine m_aald hx hb hK hZ (by decide) rfl h_inb_x1_6 dL_add_5 ?_
  refine lv_aload_n hx hb dL_add_6 rfl (lv_at hl 0 rfl) ?_
  refine m_getR (k' := 72) hx hb hts in_L hown hK hZ (by decide) rfl rfl 1 (by decide) (hts _ k1_223) (fun _ h9 => h9) rfl dL_add_7 ?_
  refine lv_iload_n hx hb dL_add_10 rfl (lv_at hl 1 rfl) ?_
  refine m_iald hx hb hK hZ (by decide) rfl h_inb_x1_6 dL_add_11 ?_
  refine lv_iload_n hx hb dL_add_12 rfl (lv_at hl 2 rfl) ?_
  obtain ⟨h_1, hf⟩ := m_gx hf
  obtain ⟨M_2, eM_2, hf⟩ := m_lx hf
  refine m_iast hx hb hK hZ (grX_73 _ (m_lt h_inb_x1_6)).2 (grX_73 _ (m_lt h_inb_x1_6)).1 h_1 dL_add_13 eM_2 (fun H locs hZ => ?_)
  refine lv_aload_n hx hb dL_add_14 rfl (lv_at hl 0 rfl) ?_
  refine m_getR (k' := 72) hx hb hts in_L hown hK hZ (by decide) rfl rfl 1 (by decide) (hts _ k1_223) (fun _ h9 => h9) rfl dL_add_15 ?_
  refine lv_iload_n hx hb dL_add_18 rfl (lv_at hl 1 rfl) ?_
  refine lv_dup2_11 hx hb dL_add_19 rfl rfl ?_
  refine m_iald hx hb hK hZ (by decide) rfl h_inb_x1_6 dL_add_20 ?_
  refine lv_iconst (v := 1) hx hb dL_add_21 (by decide) ?_
  refine lv_iadd hx hb dL_add_22 ?_
  obtain ⟨M_3, eM_3, hf⟩ := m_lx hf
  refine m_iast hx hb hK hZ (by decide) rfl h_inb_x1_6 dL_add_23 eM_3 (fun H locs hZ => ?_)
  refine lv_aload_n hx hb dL_add_24 rfl (lv_at hl 0 rfl) ?_
  refine lv_dup hx hb dL_add_25 rfl ?_
  refine m_get hx hb hts in_L hown hK hZ (by decide) rfl rfl 0 (by decide) (hts _ k1_221) (fun _ h9 => h9) rfl dL_add_26 ?_
  refine lv_iconst (v := 1) hx hb dL_add_29 (by decide) ?_
  refine lv_iadd hx hb dL_add_30 ?_
  obtain ⟨M_4, eM_4, hf⟩ := m_lx hf
  refine m_put (ty := .int) hx hb hts in_L ⟨ty_L_ok, nm_L_ok⟩ hown hK hZ (by decide) rfl rfl 0 (by decide) (hts _ k1_221) (fun _ h9 => h9) rfl (by decide +kernel) rfl rfl rfl dL_add_31 eM_4 (fun H locs hZ => ?_)
  exact hret _ _ _ _ _ hf hZ dL_add_34
end
section
abbrev rmL_drifts : Room := { frames := 0, cells := 0, slots := 0, locals := 0 }
set_option maxHeartbeats 4000000 in
set_option maxRecDepth 100000 in
theorem cL_drifts (l : Launch) (D : va_G) (ad : Nat → Nat) (c3 : ClassId × ClassId × ClassId) (M : mMem) (x1 : Int32) (x2 : Int32)  {r : Int32} (hf : fL_drifts M x1 x2 = some r) : kPX l D ad c3 yL_drifts wL_drifts rmL_drifts [.ref (ad 71), .int x1, .int x2] M r := by
  refine m_oP (cc := bL_drifts) (maxL := 7) (ty := .boolean) (own := R_L) nestX (by decide) rfl (Nat.le_of_ble_eq_true rfl) rfl (fun p e s m args below meth c Q hx hb hml hown hts hK hN hret ls hZ hl => ?_)
  have hl : lv_has ls 7 [(0, .ref (ad 71)), (1, .int x1), (2, .int x2)] := hl
  unfold fL_drifts at hf
  have B75 : ∀ (x4 : Int32) (x5 : Int32), fL_drifts_B75 M x4 x5 = some r → ∀ (H : Heap) (locs : List Loc) (ls : Array Slot), zX D ad c3 s H locs M → lv_has ls 7 [(4, .int x4), (5, .int x5)] → W p l e rmL_drifts s m args below meth c H locs 0 0 Q (F0 m 75 ls []) := by
    intro x4 x5 hf H locs ls hZ hl
    unfold fL_drifts_B75 at hf
    refine lv_iload hx hb dL_drifts_75 (lv_at hl 0 rfl) ?_
    refine lv_iconst (v := 5) hx hb dL_drifts_77 (by decide) ?_
    refine lv_icmp_eq (tgt := 87) hx hb dL_drifts_78 (by decide) (fun c_5 => ?_) (fun c_5 => ?_)
    · have hf := m_t hf c_5
      refine lv_iconst (v := 1) hx hb dL_drifts_87 (by decide) ?_
      refine lv_goto (tgt := 92) hx hb dL_drifts_88 (by decide) ?_
      exact hret _ _ _ _ _ (fun _ _ => 0) hf rfl hZ dL_drifts_92
    · have hf := m_f hf c_5
      refine lv_iload hx hb dL_drifts_81 (lv_at hl 1 rfl) ?_
      refine lv_iconst (v := 5) hx hb dL_drifts_83 (by decide) ?_
      refine lv_icmp_ne (tgt := 91) hx hb dL_drifts_84 (by decide) (fun c_6 => ?_) (fun c_6 => ?_)
      · have hf := m_f hf c_6
        refine lv_iconst (v := 0) hx hb dL_drifts_91 (by decide) ?_
        exact hret _ _ _ _ _ (fun _ _ => 0) hf rfl hZ dL_drifts_92
      · have hf := m_t hf c_6
        refine lv_iconst (v := 1) hx hb dL_drifts_87 (by decide) ?_
        refine lv_goto (tgt := 92) hx hb dL_drifts_88 (by decide) ?_
        exact hret _ _ _ _ _ (fun _ _ => 0) hf rfl hZ dL_drifts_92
  have L25 : ∀ (x3 : Int32) (n25 : Nat) (x4 : Int32) (x5 : Int32) (x6 : Int32), fL_drifts_L25 x1 x2 M x3 n25 x4 x5 x6 = some r → ∀ (H : Heap) (locs : List Loc) (ls : Array Slot), zX D ad c3 s H locs M → lv_has ls 7 [(0, .ref (ad 71)), (1, .int x1), (2, .int x2), (3, .int x3), (4, .int x4), (5, .int x5), (6, .int x6)] → W p l e rmL_drifts s m args below meth c H locs 0 0 Q (F0 m 25 ls []) := by
    intro x3 n25
    induction n25 with
    | zero => intro x4 x5 x6 hf; exact m_none hf
    | succ n25 ih25 =>
      intro x4 x5 x6 hf H locs ls hZ hl
      rw [fL_drifts_L25] at hf
      refine lv_iload hx hb dL_drifts_25 (lv_at hl 6 rfl) ?_
      refine lv_iload_n hx hb dL_drifts_27 rfl (lv_at hl 3 rfl) ?_
      refine lv_icmp_ge (tgt := 75) hx hb dL_drifts_28 (by decide) (fun c_4 => ?_) (fun c_4 => ?_)
      · have hf := m_t hf c_4
        exact B75 x4 x5 hf _ _ _ hZ (lv_sub hl [4, 5] rfl)
      · have hf := m_f hf c_4
        refine lv_aload_n hx hb dL_drifts_31 rfl (lv_at hl 0 rfl) ?_
        refine m_getR (k' := 73) hx hb hts in_L hown hK hZ (by decide) rfl rfl 2 (by decide) (hts _ k1_224) (fun _ h9 => h9) rfl dL_drifts_32 ?_
        refine lv_iload_n hx hb dL_drifts_35 rfl (lv_at hl 1 rfl) ?_
        obtain ⟨h_inb_x1_6, hf⟩ := m_gx hf
        refine m_aald hx hb hK hZ (by decide) rfl h_inb_x1_6 dL_drifts_36 ?_
        refine lv_iload hx hb dL_drifts_37 (lv_at hl 6 rfl) ?_
        obtain ⟨h_7, hf⟩ := m_gx hf
        refine m_iald hx hb hK hZ (grX_73 _ (m_lt h_inb_x1_6)).2 (grX_73 _ (m_lt h_inb_x1_6)).1 h_7 dL_drifts_39 ?_
        refine lv_iload_n hx hb dL_drifts_40 rfl (lv_at hl 2 rfl) ?_
        refine lv_bipush (v := 10) hx hb dL_drifts_41 (by decide) ?_
        refine lv_iadd hx hb dL_drifts_43 ?_
        refine lv_icmp_le (tgt := 50) hx hb dL_drifts_44 (by decide) (fun c_8 => ?_) (fun c_8 => ?_)
        · have hf := m_t hf c_8
          refine lv_aload_n hx hb dL_drifts_50 rfl (lv_at hl 0 rfl) ?_
          refine m_getR (k' := 73) hx hb hts in_L hown hK hZ (by decide) rfl rfl 2 (by decide) (hts _ k1_224) (fun _ h9 => h9) rfl dL_drifts_51 ?_
          refine lv_iload_n hx hb dL_drifts_54 rfl (lv_at hl 1 rfl) ?_
          refine m_aald hx hb hK hZ (by decide) rfl h_inb_x1_6 dL_drifts_55 ?_
          refine lv_iload hx hb dL_drifts_56 (lv_at hl 6 rfl) ?_
          refine m_iald hx hb hK hZ (grX_73 _ (m_lt h_inb_x1_6)).2 (grX_73 _ (m_lt h_inb_x1_6)).1 h_7 dL_drifts_58 ?_
          refine lv_iload_n hx hb dL_drifts_59 rfl (lv_at hl 2 rfl) ?_
          refine lv_bipush (v := 10) hx hb dL_drifts_60 (by decide) ?_
          refine lv_isub hx hb dL_drifts_62 ?_
          refine lv_icmp_ge (tgt := 69) hx hb dL_drifts_63 (by decide) (fun c_9 => ?_) (fun c_9 => ?_)
          · have hf := m_t hf c_9
            obtain ⟨x6_10, ex6_10, hf⟩ := m_lx hf
            refine lv_iinc (v := x6_10) (lv' := [(6, .int x6_10), (0, .ref (ad 71)), (1, .int x1), (2, .int x2), (3, .int x3), (4, .int x4), (5, .int x5)]) hx hb dL_drifts_69 hl (k := 6) rfl (by rw [ex6_10]; rfl) (by decide) rfl (fun ls hl => ?_)
            refine lv_goto (tgt := 25) hx hb dL_drifts_72 (by decide) ?_
            exact ih25 _ _ _ hf _ _ _ hZ (lv_sub hl [1, 2, 3, 4, 5, 6, 0] rfl)
          · have hf := m_f hf c_9
            obtain ⟨x5_11, ex5_11, hf⟩ := m_lx hf
            refine lv_iinc (v := x5_11) (lv' := [(5, .int x5_11), (0, .ref (ad 71)), (1, .int x1), (2, .int x2), (3, .int x3), (4, .int x4), (6, .int x6)]) hx hb dL_drifts_66 hl (k := 5) rfl (by rw [ex5_11]; rfl) (by decide) rfl (fun ls hl => ?_)
            obtain ⟨x6_12, ex6_12, hf⟩ := m_lx hf
            refine lv_iinc (v := x6_12) (lv' := [(6, .int x6_12), (5, .int x5_11), (0, .ref (ad 71)), (1, .int x1), (2, .int x2), (3, .int x3), (4, .int x4)]) hx hb dL_drifts_69 hl (k := 6) rfl (by rw [ex6_12]; rfl) (by decide) rfl (fun ls hl => ?_)
            refine lv_goto (tgt := 25) hx hb dL_drifts_72 (by decide) ?_
            exact ih25 _ _ _ hf _ _ _ hZ (lv_sub hl [2, 3, 4, 5, 6, 1, 0] rfl)
        · have hf := m_f hf c_8
          obtain ⟨x4_13, ex4_13, hf⟩ := m_lx hf
          refine lv_iinc (v := x4_13) (lv' := [(4, .int x4_13), (0, .ref (ad 71)), (1, .int x1), (2, .int x2), (3, .int x3), (5, .int x5), (6, .int x6)]) hx hb dL_drifts_47 hl (k := 4) rfl (by rw [ex4_13]; rfl) (by decide) rfl (fun ls hl => ?_)
          refine lv_aload_n hx hb dL_drifts_50 rfl (lv_at hl 1 rfl) ?_
          refine m_getR (k' := 73) hx hb hts in_L hown hK hZ (by decide) rfl rfl 2 (by decide) (hts _ k1_224) (fun _ h9 => h9) rfl dL_drifts_51 ?_
          refine lv_iload_n hx hb dL_drifts_54 rfl (lv_at hl 2 rfl) ?_
          refine m_aald hx hb hK hZ (by decide) rfl h_inb_x1_6 dL_drifts_55 ?_
          refine lv_iload hx hb dL_drifts_56 (lv_at hl 6 rfl) ?_
          refine m_iald hx hb hK hZ (grX_73 _ (m_lt h_inb_x1_6)).2 (grX_73 _ (m_lt h_inb_x1_6)).1 h_7 dL_drifts_58 ?_
          refine lv_iload_n hx hb dL_drifts_59 rfl (lv_at hl 3 rfl) ?_
          refine lv_bipush (v := 10) hx hb dL_drifts_60 (by decide) ?_
          refine lv_isub hx hb dL_drifts_62 ?_
          refine lv_icmp_ge (tgt := 69) hx hb dL_drifts_63 (by decide) (fun c_14 => ?_) (fun c_14 => ?_)
          · have hf := m_t hf c_14
            obtain ⟨x6_15, ex6_15, hf⟩ := m_lx hf
            refine lv_iinc (v := x6_15) (lv' := [(6, .int x6_15), (4, .int x4_13), (0, .ref (ad 71)), (1, .int x1), (2, .int x2), (3, .int x3), (5, .int x5)]) hx hb dL_drifts_69 hl (k := 6) rfl (by rw [ex6_15]; rfl) (by decide) rfl (fun ls hl => ?_)
            refine lv_goto (tgt := 25) hx hb dL_drifts_72 (by decide) ?_
            exact ih25 _ _ _ hf _ _ _ hZ (lv_sub hl [2, 3, 4, 5, 1, 6, 0] rfl)
          · have hf := m_f hf c_14
            obtain ⟨x5_16, ex5_16, hf⟩ := m_lx hf
            refine lv_iinc (v := x5_16) (lv' := [(5, .int x5_16), (4, .int x4_13), (0, .ref (ad 71)), (1, .int x1), (2, .int x2), (3, .int x3), (6, .int x6)]) hx hb dL_drifts_66 hl (k := 5) rfl (by rw [ex5_16]; rfl) (by decide) rfl (fun ls hl => ?_)
            obtain ⟨x6_17, ex6_17, hf⟩ := m_lx hf
            refine lv_iinc (v := x6_17) (lv' := [(6, .int x6_17), (5, .int x5_16), (4, .int x4_13), (0, .ref (ad 71)), (1, .int x1), (2, .int x2), (3, .int x3)]) hx hb dL_drifts_69 hl (k := 6) rfl (by rw [ex6_17]; rfl) (by decide) rfl (fun ls hl => ?_)
            refine lv_goto (tgt := 25) hx hb dL_drifts_72 (by decide) ?_
            exact ih25 _ _ _ hf _ _ _ hZ (lv_sub hl [3, 4, 5, 6, 2, 1, 0] rfl)
  refine lv_aload_n hx hb dL_drifts_0 rfl (lv_at hl 0 rfl) ?_
  refine m_getR (k' := 72) hx hb hts in_L hown hK hZ (by decide) rfl rfl 1 (by decide) (hts _ k1_223) (fun _ h9 => h9) rfl dL_drifts_1 ?_
  refine lv_iload_n hx hb dL_drifts_4 rfl (lv_at hl 1 rfl) ?_
  obtain ⟨h_inb_x1_6, hf⟩ := m_gx hf
  refine m_iald hx hb hK hZ (by decide) rfl h_inb_x1_6 dL_drifts_5 ?_
  obtain ⟨x3_1, ex3_1, hf⟩ := m_lx hf
  refine m_topi ex3_1 ?_
  refine lv_istore_n (lv' := [(3, .int x3_1), (0, .ref (ad 71)), (1, .int x1), (2, .int x2)]) hx hb dL_drifts_6 rfl hl (by decide) rfl (fun ls hl => ?_)
  refine lv_iload_n hx hb dL_drifts_7 rfl (lv_at hl 0 rfl) ?_
  refine lv_iconst (v := 5) hx hb dL_drifts_8 (by decide) ?_
  refine lv_icmp_ge (tgt := 14) hx hb dL_drifts_9 (by decide) (fun c_2 => ?_) (fun c_2 => ?_)
  · have hf := m_t hf c_2
    refine lv_iconst (v := 0) hx hb dL_drifts_14 (by decide) ?_
    refine lv_istore (lv' := [(4, .int 0), (3, .int x3_1), (0, .ref (ad 71)), (1, .int x1), (2, .int x2)]) hx hb dL_drifts_15 hl (by decide) rfl (fun ls hl => ?_)
    refine lv_iconst (v := 0) hx hb dL_drifts_17 (by decide) ?_
    refine lv_istore (lv' := [(5, .int 0), (4, .int 0), (3, .int x3_1), (0, .ref (ad 71)), (1, .int x1), (2, .int x2)]) hx hb dL_drifts_18 hl (by decide) rfl (fun ls hl => ?_)
    refine lv_iload_n hx hb dL_drifts_20 rfl (lv_at hl 2 rfl) ?_
    refine lv_iconst (v := 5) hx hb dL_drifts_21 (by decide) ?_
    refine lv_isub hx hb dL_drifts_22 ?_
    obtain ⟨x6_3, ex6_3, hf⟩ := m_lx hf
    refine m_topi ex6_3 ?_
    refine lv_istore (lv' := [(6, .int x6_3), (5, .int 0), (4, .int 0), (3, .int x3_1), (0, .ref (ad 71)), (1, .int x1), (2, .int x2)]) hx hb dL_drifts_23 hl (by decide) rfl (fun ls hl => ?_)
    exact L25 x3_1 128 0 0 x6_3 hf _ _ _ hZ (lv_sub hl [4, 5, 6, 3, 2, 1, 0] rfl)
  · have hf := m_f hf c_2
    refine lv_iconst (v := 0) hx hb dL_drifts_12 (by decide) ?_
    exact hret _ _ _ _ _ (fun _ _ => 0) hf rfl hZ dL_drifts_13
abbrev rmL_jumps : Room := { frames := 1, cells := 0, slots := 0, locals := 24 }
set_option maxHeartbeats 4000000 in
set_option maxRecDepth 100000 in
theorem cL_jumps (l : Launch) (D : va_G) (ad : Nat → Nat) (c3 : ClassId × ClassId × ClassId) (M : mMem) (x1 : Int32) (x2 : Int32)  {r : Int32} (hf : fL_jumps M x1 x2 = some r) : kPX l D ad c3 yL_jumps wL_jumps rmL_jumps [.ref (ad 71), .int x1, .int x2] M r := by
  refine m_oP (cc := bL_jumps) (maxL := 4) (ty := .boolean) (own := R_L) nestX (by decide) rfl (Nat.le_of_ble_eq_true rfl) rfl (fun p e s m args below meth c Q hx hb hml hown hts hK hN hret ls hZ hl => ?_)
  have hl : lv_has ls 4 [(0, .ref (ad 71)), (1, .int x1), (2, .int x2)] := hl
  unfold fL_jumps at hf
  refine lv_aload_n hx hb dL_jumps_0 rfl (lv_at hl 0 rfl) ?_
  refine m_getR (k' := 72) hx hb hts in_L hown hK hZ (by decide) rfl rfl 1 (by decide) (hts _ k1_223) (fun _ h9 => h9) rfl dL_jumps_1 ?_
  refine lv_iload_n hx hb dL_jumps_4 rfl (lv_at hl 1 rfl) ?_
  obtain ⟨h_inb_x1_6, hf⟩ := m_gx hf
  refine m_iald hx hb hK hZ (by decide) rfl h_inb_x1_6 dL_jumps_5 ?_
  obtain ⟨x3_1, ex3_1, hf⟩ := m_lx hf
  refine m_topi ex3_1 ?_
  refine lv_istore_n (lv' := [(3, .int x3_1), (0, .ref (ad 71)), (1, .int x1), (2, .int x2)]) hx hb dL_jumps_6 rfl hl (by decide) rfl (fun ls hl => ?_)
  refine lv_iload_n hx hb dL_jumps_7 rfl (lv_at hl 0 rfl) ?_
  refine lv_iconst (v := 2) hx hb dL_jumps_8 (by decide) ?_
  refine lv_icmp_lt (tgt := 44) hx hb dL_jumps_9 (by decide) (fun c_2 => ?_) (fun c_2 => ?_)
  · have hf := m_t hf c_2
    refine lv_iconst (v := 0) hx hb dL_jumps_44 (by decide) ?_
    exact hret _ _ _ _ _ (fun _ _ => 0) hf rfl hZ dL_jumps_45
  · have hf := m_f hf c_2
    refine lv_aload_n hx hb dL_jumps_12 rfl (lv_at hl 1 rfl) ?_
    refine m_getR (k' := 73) hx hb hts in_L hown hK hZ (by decide) rfl rfl 2 (by decide) (hts _ k1_224) (fun _ h9 => h9) rfl dL_jumps_13 ?_
    refine lv_iload_n hx hb dL_jumps_16 rfl (lv_at hl 2 rfl) ?_
    refine m_aald hx hb hK hZ (by decide) rfl h_inb_x1_6 dL_jumps_17 ?_
    refine lv_iload_n hx hb dL_jumps_18 rfl (lv_at hl 0 rfl) ?_
    refine lv_iconst (v := 1) hx hb dL_jumps_19 (by decide) ?_
    refine lv_isub hx hb dL_jumps_20 ?_
    obtain ⟨h_3, hf⟩ := m_gx hf
    refine m_iald hx hb hK hZ (grX_73 _ (m_lt h_inb_x1_6)).2 (grX_73 _ (m_lt h_inb_x1_6)).1 h_3 dL_jumps_21 ?_
    refine lv_aload_n hx hb dL_jumps_22 rfl (lv_at hl 1 rfl) ?_
    refine m_getR (k' := 73) hx hb hts in_L hown hK hZ (by decide) rfl rfl 2 (by decide) (hts _ k1_224) (fun _ h9 => h9) rfl dL_jumps_23 ?_
    refine lv_iload_n hx hb dL_jumps_26 rfl (lv_at hl 2 rfl) ?_
    refine m_aald hx hb hK hZ (by decide) rfl h_inb_x1_6 dL_jumps_27 ?_
    refine lv_iload_n hx hb dL_jumps_28 rfl (lv_at hl 0 rfl) ?_
    refine lv_iconst (v := 2) hx hb dL_jumps_29 (by decide) ?_
    refine lv_isub hx hb dL_jumps_30 ?_
    obtain ⟨h_4, hf⟩ := m_gx hf
    refine m_iald hx hb hK hZ (grX_73 _ (m_lt h_inb_x1_6)).2 (grX_73 _ (m_lt h_inb_x1_6)).1 h_4 dL_jumps_31 ?_
    refine lv_isub hx hb dL_jumps_32 ?_
    refine va_mabs hx hb (hml.trans hl.1.symm) hown (hts _ k3_18) (hts _ k3_19) (hts _ k1_9) (hts _ kc_math_abs) (by decide) (Nat.le_of_ble_eq_true rfl) (Nat.zero_le _) (Nat.zero_le _) dL_jumps_33 ?_
    refine lv_iload_n hx hb dL_jumps_36 rfl (lv_at hl 3 rfl) ?_
    refine lv_icmp_le (tgt := 44) hx hb dL_jumps_37 (by decide) (fun c_5 => ?_) (fun c_5 => ?_)
    · have hf := m_t hf c_5
      refine lv_iconst (v := 0) hx hb dL_jumps_44 (by decide) ?_
      exact hret _ _ _ _ _ (fun _ _ => 0) hf rfl hZ dL_jumps_45
    · have hf := m_f hf c_5
      refine lv_iconst (v := 1) hx hb dL_jumps_40 (by decide) ?_
      refine lv_goto (tgt := 45) hx hb dL_jumps_41 (by decide) ?_
      exact hret _ _ _ _ _ (fun _ _ => 0) hf rfl hZ dL_jumps_45
abbrev rmG_firstRule : Room := { frames := 2, cells := 0, slots := 0, locals := 47 }
set_option maxHeartbeats 4000000 in
set_option maxRecDepth 100000 in
theorem cG_firstRule (l : Launch) (D : va_G) (ad : Nat → Nat) (c3 : ClassId × ClassId × ClassId) (M : mMem) (x1 : Int32) (x2 : Int32)  {r : Int32} (hf : fG_firstRule M x1 x2 = some r) : kPX l D ad c3 yG_firstRule wG_firstRule rmG_firstRule [.ref (ad 0), .int x1, .int x2] M r := by
  refine m_oP (cc := bG_firstRule) (maxL := 3) (ty := .int) (own := R_G) nestX (by decide) rfl (Nat.le_of_ble_eq_true rfl) rfl (fun p e s m args below meth c Q hx hb hml hown hts hK hN hret ls hZ hl => ?_)
  have hl : lv_has ls 3 [(0, .ref (ad 0)), (1, .int x1), (2, .int x2)] := hl
  unfold fG_firstRule at hf
  refine lv_iload_n hx hb dG_firstRule_0 rfl (lv_at hl 2 rfl) ?_
  refine lv_aload_n hx hb dG_firstRule_1 rfl (lv_at hl 0 rfl) ?_
  refine m_getR (k' := 1) hx hb hts in_G hown hK hZ (by decide) rfl rfl 0 (by decide) (hts _ k2_8) (fun _ h9 => h9) rfl dG_firstRule_2 ?_
  refine m_getR (k' := 2) hx hb hts in_P hown hK hZ (by decide) rfl rfl 4 (by decide) (hts _ k1_41) (fun _ h9 => h9) rfl dG_firstRule_5 ?_
  refine lv_iload_n hx hb dG_firstRule_8 rfl (lv_at hl 1 rfl) ?_
  obtain ⟨h_inb_x1_6, hf⟩ := m_gx hf
  refine m_iald hx hb hK hZ (by decide) rfl h_inb_x1_6 dG_firstRule_9 ?_
  refine lv_aload_n hx hb dG_firstRule_10 rfl (lv_at hl 0 rfl) ?_
  refine m_getR (k' := 1) hx hb hts in_G hown hK hZ (by decide) rfl rfl 0 (by decide) (hts _ k2_8) (fun _ h9 => h9) rfl dG_firstRule_11 ?_
  refine m_getR (k' := 3) hx hb hts in_P hown hK hZ (by decide) rfl rfl 5 (by decide) (hts _ k1_44) (fun _ h9 => h9) rfl dG_firstRule_14 ?_
  refine lv_iload_n hx hb dG_firstRule_17 rfl (lv_at hl 1 rfl) ?_
  refine m_iald hx hb hK hZ (by decide) rfl h_inb_x1_6 dG_firstRule_18 ?_
  obtain ⟨r_1, hc, hf⟩ := m_b1x hf
  refine m_ci (va_runS (As := [.int x2, .int (M 2 x1.toNatClampNeg), .int (M 3 x1.toNatClampNeg)]) (rest := []) ⟨hx, hb, hml, hown, hts⟩ (cG_within l D ad c3 M x2 (M 2 x1.toNatClampNeg) (M 3 x1.toNatClampNeg) hc) (cwS 3 hts (gS9 k2_68 k2_69 k1_1 kc_G_within) rfl rfl rfl (by decide +kernel) ⟨by decide, by decide⟩) (m_preS hK hN hZ) rfl rfl hl.1 rfl (lv_room (Nat.le_of_ble_eq_true rfl)) dG_firstRule_19 ⟨Nat.zero_le _, Nat.zero_le _⟩) hZ (fun H locs hZ => ?_)
  refine lv_if_ne (tgt := 27) hx hb dG_firstRule_22 (by decide) (fun c_2 => ?_) (fun c_2 => ?_)
  · have hf := m_f hf c_2
    refine lv_aload_n hx hb dG_firstRule_27 rfl (lv_at hl 0 rfl) ?_
    refine m_getR (k' := 66) hx hb hts in_G hown hK hZ (by decide) rfl rfl 4 (by decide) (hts _ k2_12) (fun _ h9 => h9) rfl dG_firstRule_28 ?_
    refine m_get hx hb hts in_X hown hK hZ (by decide) rfl rfl 0 (by decide) (hts _ k1_110) (fun _ h9 => h9) rfl dG_firstRule_31 ?_
    refine lv_if_eq (tgt := 72) hx hb dG_firstRule_34 (by decide) (fun c_3 => ?_) (fun c_3 => ?_)
    · have hf := m_t hf c_3
      refine lv_aload_n hx hb dG_firstRule_72 rfl (lv_at hl 0 rfl) ?_
      refine m_getR (k' := 71) hx hb hts in_G hown hK hZ (by decide) rfl rfl 6 (by decide) (hts _ k2_14) (fun _ h9 => h9) rfl dG_firstRule_73 ?_
      refine lv_iload_n hx hb dG_firstRule_76 rfl (lv_at hl 1 rfl) ?_
      refine lv_aload_n hx hb dG_firstRule_77 rfl (lv_at hl 0 rfl) ?_
      refine m_get hx hb hts in_G hown hK hZ (by decide) rfl rfl 8 (by decide) (hts _ k2_16) (fun _ h9 => h9) rfl dG_firstRule_78 ?_
      obtain ⟨r_4, hc, hf⟩ := m_b1x hf
      refine m_ci (va_runV (As := [.int x1, .int (M 0 8)]) (rest := []) ⟨hx, hb, hml, hown, hts⟩ (cL_jumps l D ad c3 M x1 (M 0 8) hc) (cwV 2 hts (gV k3_14 k3_15 k3_16 k1_7 kc_L_jumps) rfl rfl rfl (by decide +kernel) ⟨by decide, by decide⟩) (m_preV hK hN hZ (by decide) rfl rfl) rfl rfl hl.1 rfl (lv_room (Nat.le_of_ble_eq_true rfl)) dG_firstRule_81 ⟨Nat.zero_le _, Nat.zero_le _⟩) hZ (fun H locs hZ => ?_)
      refine lv_if_eq (tgt := 91) hx hb dG_firstRule_84 (by decide) (fun c_5 => ?_) (fun c_5 => ?_)
      · have hf := m_t hf c_5
        refine lv_iconst (v := 0) hx hb dG_firstRule_91 (by decide) ?_
        exact hret _ _ _ _ _ (fun _ _ => 0) hf rfl hZ dG_firstRule_92
      · have hf := m_f hf c_5
        refine lv_iconst (v := 3) hx hb dG_firstRule_87 (by decide) ?_
        refine lv_goto (tgt := 92) hx hb dG_firstRule_88 (by decide) ?_
        exact hret _ _ _ _ _ (fun _ _ => 0) hf rfl hZ dG_firstRule_92
    · have hf := m_f hf c_3
      refine lv_aload_n hx hb dG_firstRule_37 rfl (lv_at hl 0 rfl) ?_
      refine m_getR (k' := 71) hx hb hts in_G hown hK hZ (by decide) rfl rfl 6 (by decide) (hts _ k2_14) (fun _ h9 => h9) rfl dG_firstRule_38 ?_
      refine lv_iload_n hx hb dG_firstRule_41 rfl (lv_at hl 1 rfl) ?_
      refine lv_aload_n hx hb dG_firstRule_42 rfl (lv_at hl 0 rfl) ?_
      refine m_getR (k' := 1) hx hb hts in_G hown hK hZ (by decide) rfl rfl 0 (by decide) (hts _ k2_8) (fun _ h9 => h9) rfl dG_firstRule_43 ?_
      refine lv_iload_n hx hb dG_firstRule_46 rfl (lv_at hl 1 rfl) ?_
      refine lv_aload_n hx hb dG_firstRule_47 rfl (lv_at hl 0 rfl) ?_
      refine m_getR (k' := 1) hx hb hts in_G hown hK hZ (by decide) rfl rfl 0 (by decide) (hts _ k2_8) (fun _ h9 => h9) rfl dG_firstRule_48 ?_
      refine m_getR (k' := 9) hx hb hts in_P hown hK hZ (by decide) rfl rfl 11 (by decide) (hts _ k1_57) (fun _ h9 => h9) rfl dG_firstRule_51 ?_
      refine lv_aload_n hx hb dG_firstRule_54 rfl (lv_at hl 0 rfl) ?_
      refine m_getR (k' := 66) hx hb hts in_G hown hK hZ (by decide) rfl rfl 4 (by decide) (hts _ k2_12) (fun _ h9 => h9) rfl dG_firstRule_55 ?_
      obtain ⟨r_6, hc, hf⟩ := m_b1x hf
      refine m_ci (va_runV (As := [.int x1, .ref (ad 9), .ref (ad 66)]) (rest := [.int x1, .ref (ad 71)]) ⟨hx, hb, hml, hown, hts⟩ (cP_sumAt l D ad c3 M x1 9 66 ⟨rfl, by decide, grX_9⟩ isX_X_66 hc) (cwV 3 hts (gV k2_192 k2_193 k2_194 k1_2 kc_P_sumAt) rfl rfl rfl (by decide +kernel) ⟨by decide, by decide⟩) (m_preV hK hN hZ (by decide) rfl rfl) rfl rfl hl.1 rfl (lv_room (Nat.le_of_ble_eq_true rfl)) dG_firstRule_58 ⟨Nat.zero_le _, Nat.zero_le _⟩) hZ (fun H locs hZ => ?_)
      refine lv_bipush (v := 100) hx hb dG_firstRule_61 (by decide) ?_
      refine lv_idiv hx hb dG_firstRule_63 (by decide) ?_
      obtain ⟨r_7, hc, hf⟩ := m_b1x hf
      refine m_ci (va_runV (As := [.int x1, .int (r_6 / 100)]) (rest := []) ⟨hx, hb, hml, hown, hts⟩ (cL_drifts l D ad c3 M x1 (r_6 / 100) hc) (cwV 2 hts (gV k3_10 k3_11 k3_12 k1_7 kc_L_drifts) rfl rfl rfl (by decide +kernel) ⟨by decide, by decide⟩) (m_preV hK hN hZ (by decide) rfl rfl) rfl rfl hl.1 rfl (lv_room (Nat.le_of_ble_eq_true rfl)) dG_firstRule_64 ⟨Nat.zero_le _, Nat.zero_le _⟩) hZ (fun H locs hZ => ?_)
      refine lv_if_eq (tgt := 72) hx hb dG_firstRule_67 (by decide) (fun c_8 => ?_) (fun c_8 => ?_)
      · have hf := m_t hf c_8
        refine lv_aload_n hx hb dG_firstRule_72 rfl (lv_at hl 0 rfl) ?_
        refine m_getR (k' := 71) hx hb hts in_G hown hK hZ (by decide) rfl rfl 6 (by decide) (hts _ k2_14) (fun _ h9 => h9) rfl dG_firstRule_73 ?_
        refine lv_iload_n hx hb dG_firstRule_76 rfl (lv_at hl 1 rfl) ?_
        refine lv_aload_n hx hb dG_firstRule_77 rfl (lv_at hl 0 rfl) ?_
        refine m_get hx hb hts in_G hown hK hZ (by decide) rfl rfl 8 (by decide) (hts _ k2_16) (fun _ h9 => h9) rfl dG_firstRule_78 ?_
        obtain ⟨r_9, hc, hf⟩ := m_b1x hf
        refine m_ci (va_runV (As := [.int x1, .int (M 0 8)]) (rest := []) ⟨hx, hb, hml, hown, hts⟩ (cL_jumps l D ad c3 M x1 (M 0 8) hc) (cwV 2 hts (gV k3_14 k3_15 k3_16 k1_7 kc_L_jumps) rfl rfl rfl (by decide +kernel) ⟨by decide, by decide⟩) (m_preV hK hN hZ (by decide) rfl rfl) rfl rfl hl.1 rfl (lv_room (Nat.le_of_ble_eq_true rfl)) dG_firstRule_81 ⟨Nat.zero_le _, Nat.zero_le _⟩) hZ (fun H locs hZ => ?_)
        refine lv_if_eq (tgt := 91) hx hb dG_firstRule_84 (by decide) (fun c_10 => ?_) (fun c_10 => ?_)
        · have hf := m_t hf c_10
          refine lv_iconst (v := 0) hx hb dG_firstRule_91 (by decide) ?_
          exact hret _ _ _ _ _ (fun _ _ => 0) hf rfl hZ dG_firstRule_92
        · have hf := m_f hf c_10
          refine lv_iconst (v := 3) hx hb dG_firstRule_87 (by decide) ?_
          refine lv_goto (tgt := 92) hx hb dG_firstRule_88 (by decide) ?_
          exact hret _ _ _ _ _ (fun _ _ => 0) hf rfl hZ dG_firstRule_92
      · have hf := m_f hf c_8
        refine lv_iconst (v := 2) hx hb dG_firstRule_70 (by decide) ?_
        exact hret _ _ _ _ _ (fun _ _ => 0) hf rfl hZ dG_firstRule_71
  · have hf := m_t hf c_2
    refine lv_iconst (v := 1) hx hb dG_firstRule_25 (by decide) ?_
    exact hret _ _ _ _ _ (fun _ _ => 0) hf rfl hZ dG_firstRule_26
abbrev rmL_addFired : Room := { frames := 0, cells := 0, slots := 0, locals := 0 }
set_option maxHeartbeats 4000000 in
set_option maxRecDepth 100000 in
theorem cL_addFired (l : Launch) (D : va_G) (ad : Nat → Nat) (c3 : ClassId × ClassId × ClassId) (M : mMem) (x1 : Int32) (x2 : Int32)  {M' : mMem} (hf : fL_addFired M x1 x2 = some M') : kVX l D ad c3 yL_addFired wL_addFired rmL_addFired [.ref (ad 71), .int x1, .int x2] M M' := by
  refine m_oV (cc := bL_addFired) (maxL := 3) (own := R_L) nestX (by decide) rfl (Nat.le_of_ble_eq_true rfl) rfl (fun p e s m args below meth c Q hx hb hml hown hts hK hN hret ls hZ hl => ?_)
  have hl : lv_has ls 3 [(0, .ref (ad 71)), (1, .int x1), (2, .int x2)] := hl
  unfold fL_addFired at hf
  refine lv_aload_n hx hb dL_addFired_0 rfl (lv_at hl 0 rfl) ?_
  refine m_getR (k' := 80) hx hb hts in_L hown hK hZ (by decide) rfl rfl 4 (by decide) (hts _ k1_227) (fun _ h9 => h9) rfl dL_addFired_1 ?_
  refine lv_aload_n hx hb dL_addFired_4 rfl (lv_at hl 0 rfl) ?_
  refine m_get hx hb hts in_L hown hK hZ (by decide) rfl rfl 3 (by decide) (hts _ k1_225) (fun _ h9 => h9) rfl dL_addFired_5 ?_
  refine lv_iload_n hx hb dL_addFired_8 rfl (lv_at hl 1 rfl) ?_
  obtain ⟨h_1, hf⟩ := m_gx hf
  obtain ⟨M_2, eM_2, hf⟩ := m_lx hf
  refine m_iast hx hb hK hZ (by decide) rfl h_1 dL_addFired_9 eM_2 (fun H locs hZ => ?_)
  refine lv_aload_n hx hb dL_addFired_10 rfl (lv_at hl 0 rfl) ?_
  refine m_getR (k' := 81) hx hb hts in_L hown hK hZ (by decide) rfl rfl 5 (by decide) (hts _ k1_229) (fun _ h9 => h9) rfl dL_addFired_11 ?_
  refine lv_aload_n hx hb dL_addFired_14 rfl (lv_at hl 0 rfl) ?_
  refine m_get hx hb hts in_L hown hK hZ (by decide) rfl rfl 3 (by decide) (hts _ k1_225) (fun _ h9 => h9) rfl dL_addFired_15 ?_
  refine lv_aload_n hx hb dL_addFired_18 rfl (lv_at hl 0 rfl) ?_
  refine m_getR (k' := 72) hx hb hts in_L hown hK hZ (by decide) rfl rfl 1 (by decide) (hts _ k1_223) (fun _ h9 => h9) rfl dL_addFired_19 ?_
  refine lv_iload_n hx hb dL_addFired_22 rfl (lv_at hl 1 rfl) ?_
  obtain ⟨h_inb_x1_6, hf⟩ := m_gx hf
  refine m_iald hx hb hK hZ (by decide) rfl h_inb_x1_6 dL_addFired_23 ?_
  refine lv_iconst (v := 1) hx hb dL_addFired_24 (by decide) ?_
  refine lv_isub hx hb dL_addFired_25 ?_
  obtain ⟨h_3, hf⟩ := m_gx hf
  obtain ⟨M_4, eM_4, hf⟩ := m_lx hf
  refine m_iast hx hb hK hZ (by decide) rfl h_3 dL_addFired_26 eM_4 (fun H locs hZ => ?_)
  refine lv_aload_n hx hb dL_addFired_27 rfl (lv_at hl 0 rfl) ?_
  refine m_getR (k' := 82) hx hb hts in_L hown hK hZ (by decide) rfl rfl 6 (by decide) (hts _ k1_231) (fun _ h9 => h9) rfl dL_addFired_28 ?_
  refine lv_aload_n hx hb dL_addFired_31 rfl (lv_at hl 0 rfl) ?_
  refine m_get hx hb hts in_L hown hK hZ (by decide) rfl rfl 3 (by decide) (hts _ k1_225) (fun _ h9 => h9) rfl dL_addFired_32 ?_
  refine lv_iload_n hx hb dL_addFired_35 rfl (lv_at hl 2 rfl) ?_
  obtain ⟨h_5, hf⟩ := m_gx hf
  obtain ⟨M_6, eM_6, hf⟩ := m_lx hf
  refine m_iast hx hb hK hZ (by decide) rfl h_5 dL_addFired_36 eM_6 (fun H locs hZ => ?_)
  refine lv_aload_n hx hb dL_addFired_37 rfl (lv_at hl 0 rfl) ?_
  refine lv_dup hx hb dL_addFired_38 rfl ?_
  refine m_get hx hb hts in_L hown hK hZ (by decide) rfl rfl 3 (by decide) (hts _ k1_225) (fun _ h9 => h9) rfl dL_addFired_39 ?_
  refine lv_iconst (v := 1) hx hb dL_addFired_42 (by decide) ?_
  refine lv_iadd hx hb dL_addFired_43 ?_
  obtain ⟨M_7, eM_7, hf⟩ := m_lx hf
  refine m_put (ty := .int) hx hb hts in_L ⟨ty_L_ok, nm_L_ok⟩ hown hK hZ (by decide) rfl rfl 3 (by decide) (hts _ k1_225) (fun _ h9 => h9) rfl (by decide +kernel) rfl rfl rfl dL_addFired_44 eM_7 (fun H locs hZ => ?_)
  exact hret _ _ _ _ _ hf hZ dL_addFired_47
end
section
abbrev rmG_test : Room := { frames := 3, cells := 0, slots := 0, locals := 69 }
set_option maxHeartbeats 4000000 in
set_option maxRecDepth 100000 in
theorem cG_test (l : Launch) (D : va_G) (ad : Nat → Nat) (c3 : ClassId × ClassId × ClassId) (M : mMem) (x1 : Int32) (x2 : Int32)  {r : Int32} {M' : mMem} (hf : fG_test M x1 x2 = some (r, M')) : kIX l D ad c3 yG_test wG_test rmG_test [.ref (ad 0), .int x1, .int x2] M r M' := by
  refine m_oI (cc := bG_test) (maxL := 4) (ty := .int) (own := R_G) nestX (by decide) rfl (Nat.le_of_ble_eq_true rfl) rfl (fun p e s m args below meth c Q hx hb hml hown hts hK hN hret ls hZ hl => ?_)
  have hl : lv_has ls 4 [(0, .ref (ad 0)), (1, .int x1), (2, .int x2)] := hl
  unfold fG_test at hf
  refine lv_aload_n hx hb dG_test_0 rfl (lv_at hl 0 rfl) ?_
  refine m_getR (k' := 1) hx hb hts in_G hown hK hZ (by decide) rfl rfl 0 (by decide) (hts _ k2_8) (fun _ h9 => h9) rfl dG_test_1 ?_
  refine lv_iload_n hx hb dG_test_4 rfl (lv_at hl 1 rfl) ?_
  obtain ⟨r_1, hc, hf⟩ := m_b1x hf
  refine m_ci (va_runV (As := [.int x1]) (rest := []) ⟨hx, hb, hml, hown, hts⟩ (cP_hasSieve l D ad c3 M x1 hc) (cwV 1 hts (gV k2_59 k2_60 k2_61 k1_2 kc_P_hasSieve) rfl rfl rfl (by decide +kernel) ⟨by decide, by decide⟩) (m_preV hK hN hZ (by decide) rfl rfl) rfl rfl hl.1 rfl (lv_room (Nat.le_of_ble_eq_true rfl)) dG_test_5 ⟨Nat.zero_le _, Nat.zero_le _⟩) hZ (fun H locs hZ => ?_)
  refine lv_if_eq (tgt := 34) hx hb dG_test_8 (by decide) (fun c_2 => ?_) (fun c_2 => ?_)
  · have hf := m_t hf c_2
    refine lv_iconst (v := (-1)) hx hb dG_test_34 (by decide) ?_
    exact hret _ _ _ _ _ _ hf rfl hZ dG_test_35
  · have hf := m_f hf c_2
    refine lv_iload_n hx hb dG_test_11 rfl (lv_at hl 2 rfl) ?_
    refine lv_iconst (v := 0) hx hb dG_test_12 (by decide) ?_
    refine lv_sipush (v := 1000) hx hb dG_test_13 (by decide) ?_
    obtain ⟨r_3, hc, hf⟩ := m_b1x hf
    refine m_ci (va_runS (As := [.int x2, .int 0, .int 1000]) (rest := []) ⟨hx, hb, hml, hown, hts⟩ (cG_within l D ad c3 M x2 0 1000 hc) (cwS 3 hts (gS9 k2_68 k2_69 k1_1 kc_G_within) rfl rfl rfl (by decide +kernel) ⟨by decide, by decide⟩) (m_preS hK hN hZ) rfl rfl hl.1 rfl (lv_room (Nat.le_of_ble_eq_true rfl)) dG_test_16 ⟨Nat.zero_le _, Nat.zero_le _⟩) hZ (fun H locs hZ => ?_)
    refine lv_if_eq (tgt := 34) hx hb dG_test_19 (by decide) (fun c_4 => ?_) (fun c_4 => ?_)
    · have hf := m_t hf c_4
      refine lv_iconst (v := (-1)) hx hb dG_test_34 (by decide) ?_
      exact hret _ _ _ _ _ _ hf rfl hZ dG_test_35
    · have hf := m_f hf c_4
      refine lv_aload_n hx hb dG_test_22 rfl (lv_at hl 0 rfl) ?_
      refine m_getR (k' := 71) hx hb hts in_G hown hK hZ (by decide) rfl rfl 6 (by decide) (hts _ k2_14) (fun _ h9 => h9) rfl dG_test_23 ?_
      refine m_get hx hb hts in_L hown hK hZ (by decide) rfl rfl 0 (by decide) (hts _ k1_222) (fun _ h9 => h9) rfl dG_test_26 ?_
      refine lv_bipush (v := 100) hx hb dG_test_29 (by decide) ?_
      refine lv_icmp_lt (tgt := 36) hx hb dG_test_31 (by decide) (fun c_5 => ?_) (fun c_5 => ?_)
      · have hf := m_t hf c_5
        refine lv_aload_n hx hb dG_test_36 rfl (lv_at hl 0 rfl) ?_
        refine m_getR (k' := 71) hx hb hts in_G hown hK hZ (by decide) rfl rfl 6 (by decide) (hts _ k2_14) (fun _ h9 => h9) rfl dG_test_37 ?_
        refine lv_iload_n hx hb dG_test_40 rfl (lv_at hl 1 rfl) ?_
        refine lv_iload_n hx hb dG_test_41 rfl (lv_at hl 2 rfl) ?_
        obtain ⟨M_6, hc, hf⟩ := m_b1x hf
        refine m_cv (va_runV (As := [.int x1, .int x2]) (rest := []) ⟨hx, hb, hml, hown, hts⟩ (cL_add l D ad c3 M x1 x2 hc) (cwV 2 hts (gV k3_2 k3_3 k3_4 k1_7 kc_L_add) rfl rfl rfl (by decide +kernel) ⟨by decide, by decide⟩) (m_preV hK hN hZ (by decide) rfl rfl) rfl rfl hl.1 rfl (lv_room (Nat.le_of_ble_eq_true rfl)) dG_test_42 ⟨Nat.zero_le _, Nat.zero_le _⟩) hZ (fun H locs hZ => ?_)
        refine lv_aload_n hx hb dG_test_45 rfl (lv_at hl 0 rfl) ?_
        refine lv_iload_n hx hb dG_test_46 rfl (lv_at hl 1 rfl) ?_
        refine lv_iload_n hx hb dG_test_47 rfl (lv_at hl 2 rfl) ?_
        obtain ⟨r_7, hc, hf⟩ := m_b1x hf
        refine m_ci (va_runV (As := [.int x1, .int x2]) (rest := []) ⟨hx, hb, hml, hown, hts⟩ (cG_firstRule l D ad c3 M_6 x1 x2 hc) (cwV 2 hts (gV k3_6 k3_8 kp_10 k1_1 kc_G_firstRule) rfl rfl rfl (by decide +kernel) ⟨by decide, by decide⟩) (m_preV hK hN hZ (by decide) rfl rfl) rfl rfl hl.1 rfl (lv_room (Nat.le_of_ble_eq_true rfl)) dG_test_48 ⟨Nat.zero_le _, Nat.zero_le _⟩) hZ (fun H locs hZ => ?_)
        refine lv_istore_n (lv' := [(3, .int r_7), (0, .ref (ad 0)), (1, .int x1), (2, .int x2)]) hx hb dG_test_51 rfl hl (by decide) rfl (fun ls hl => ?_)
        refine lv_iload_n hx hb dG_test_52 rfl (lv_at hl 0 rfl) ?_
        refine lv_if_eq (tgt := 65) hx hb dG_test_53 (by decide) (fun c_8 => ?_) (fun c_8 => ?_)
        · have hf := m_t hf c_8
          refine lv_iload_n hx hb dG_test_65 rfl (lv_at hl 0 rfl) ?_
          exact hret _ _ _ _ _ _ hf rfl hZ dG_test_66
        · have hf := m_f hf c_8
          refine lv_aload_n hx hb dG_test_56 rfl (lv_at hl 1 rfl) ?_
          refine m_getR (k' := 71) hx hb hts in_G hown hK hZ (by decide) rfl rfl 6 (by decide) (hts _ k2_14) (fun _ h9 => h9) rfl dG_test_57 ?_
          refine lv_iload_n hx hb dG_test_60 rfl (lv_at hl 2 rfl) ?_
          refine lv_iload_n hx hb dG_test_61 rfl (lv_at hl 0 rfl) ?_
          obtain ⟨M_9, hc, hf⟩ := m_b1x hf
          refine m_cv (va_runV (As := [.int x1, .int r_7]) (rest := []) ⟨hx, hb, hml, hown, hts⟩ (cL_addFired l D ad c3 M_6 x1 r_7 hc) (cwV 2 hts (gV k3_21 k3_22 k3_23 k1_7 kc_L_addFired) rfl rfl rfl (by decide +kernel) ⟨by decide, by decide⟩) (m_preV hK hN hZ (by decide) rfl rfl) rfl rfl hl.1 rfl (lv_room (Nat.le_of_ble_eq_true rfl)) dG_test_62 ⟨Nat.zero_le _, Nat.zero_le _⟩) hZ (fun H locs hZ => ?_)
          refine lv_iload_n hx hb dG_test_65 rfl (lv_at hl 0 rfl) ?_
          exact hret _ _ _ _ _ _ hf rfl hZ dG_test_66
      · have hf := m_f hf c_5
        refine lv_iconst (v := (-1)) hx hb dG_test_34 (by decide) ?_
        exact hret _ _ _ _ _ _ hf rfl hZ dG_test_35
abbrev rmG_fired : Room := { frames := 0, cells := 0, slots := 0, locals := 0 }
set_option maxHeartbeats 4000000 in
set_option maxRecDepth 100000 in
theorem cG_fired (l : Launch) (D : va_G) (ad : Nat → Nat) (c3 : ClassId × ClassId × ClassId) (M : mMem) (x1 : Int32) (x2 : Int32)  {r : Int32} (hf : fG_fired M x1 x2 = some r) : kPX l D ad c3 yG_fired wG_fired rmG_fired [.ref (ad 0), .int x1, .int x2] M r := by
  refine m_oP (cc := bG_fired) (maxL := 3) (ty := .int) (own := R_G) nestX (by decide) rfl (Nat.le_of_ble_eq_true rfl) rfl (fun p e s m args below meth c Q hx hb hml hown hts hK hN hret ls hZ hl => ?_)
  have hl : lv_has ls 3 [(0, .ref (ad 0)), (1, .int x1), (2, .int x2)] := hl
  unfold fG_fired at hf
  refine lv_iload_n hx hb dG_fired_0 rfl (lv_at hl 1 rfl) ?_
  refine lv_if_lt (tgt := 15) hx hb dG_fired_1 (by decide) (fun c_1 => ?_) (fun c_1 => ?_)
  · have hf := m_t hf c_1
    refine lv_iconst (v := (-1)) hx hb dG_fired_15 (by decide) ?_
    exact hret _ _ _ _ _ (fun _ _ => 0) hf rfl hZ dG_fired_16
  · have hf := m_f hf c_1
    refine lv_iload_n hx hb dG_fired_4 rfl (lv_at hl 1 rfl) ?_
    refine lv_aload_n hx hb dG_fired_5 rfl (lv_at hl 0 rfl) ?_
    refine m_getR (k' := 71) hx hb hts in_G hown hK hZ (by decide) rfl rfl 6 (by decide) (hts _ k2_14) (fun _ h9 => h9) rfl dG_fired_6 ?_
    refine m_get hx hb hts in_L hown hK hZ (by decide) rfl rfl 3 (by decide) (hts _ k1_226) (fun _ h9 => h9) rfl dG_fired_9 ?_
    refine lv_icmp_lt (tgt := 17) hx hb dG_fired_12 (by decide) (fun c_2 => ?_) (fun c_2 => ?_)
    · have hf := m_t hf c_2
      refine lv_iload_n hx hb dG_fired_17 rfl (lv_at hl 2 rfl) ?_
      by_cases c_3 : x2 = 0
      · have hf := m_t hf c_3
        refine lv_tableIn (tgt := 44) hx hb dG_fired_18 (by rw [c_3]; decide) (by rw [c_3]; decide) (by rw [c_3]; rfl) (by decide) ?_
        refine lv_aload_n hx hb dG_fired_44 rfl (lv_at hl 0 rfl) ?_
        refine m_getR (k' := 71) hx hb hts in_G hown hK hZ (by decide) rfl rfl 6 (by decide) (hts _ k2_14) (fun _ h9 => h9) rfl dG_fired_45 ?_
        refine m_getR (k' := 80) hx hb hts in_L hown hK hZ (by decide) rfl rfl 4 (by decide) (hts _ k1_228) (fun _ h9 => h9) rfl dG_fired_48 ?_
        refine lv_iload_n hx hb dG_fired_51 rfl (lv_at hl 1 rfl) ?_
        obtain ⟨h_inb_x1_100, hf⟩ := m_gx hf
        refine m_iald hx hb hK hZ (by decide) rfl h_inb_x1_100 dG_fired_52 ?_
        exact hret _ _ _ _ _ (fun _ _ => 0) hf rfl hZ dG_fired_53
      have hf := m_f hf c_3
      by_cases c_4 : x2 = 1
      · have hf := m_t hf c_4
        refine lv_tableIn (tgt := 54) hx hb dG_fired_18 (by rw [c_4]; decide) (by rw [c_4]; decide) (by rw [c_4]; rfl) (by decide) ?_
        refine lv_aload_n hx hb dG_fired_54 rfl (lv_at hl 0 rfl) ?_
        refine m_getR (k' := 71) hx hb hts in_G hown hK hZ (by decide) rfl rfl 6 (by decide) (hts _ k2_14) (fun _ h9 => h9) rfl dG_fired_55 ?_
        refine m_getR (k' := 81) hx hb hts in_L hown hK hZ (by decide) rfl rfl 5 (by decide) (hts _ k1_230) (fun _ h9 => h9) rfl dG_fired_58 ?_
        refine lv_iload_n hx hb dG_fired_61 rfl (lv_at hl 1 rfl) ?_
        obtain ⟨h_inb_x1_100, hf⟩ := m_gx hf
        refine m_iald hx hb hK hZ (by decide) rfl h_inb_x1_100 dG_fired_62 ?_
        exact hret _ _ _ _ _ (fun _ _ => 0) hf rfl hZ dG_fired_63
      have hf := m_f hf c_4
      by_cases c_5 : x2 = 2
      · have hf := m_t hf c_5
        refine lv_tableIn (tgt := 64) hx hb dG_fired_18 (by rw [c_5]; decide) (by rw [c_5]; decide) (by rw [c_5]; rfl) (by decide) ?_
        refine lv_aload_n hx hb dG_fired_64 rfl (lv_at hl 0 rfl) ?_
        refine m_getR (k' := 71) hx hb hts in_G hown hK hZ (by decide) rfl rfl 6 (by decide) (hts _ k2_14) (fun _ h9 => h9) rfl dG_fired_65 ?_
        refine m_getR (k' := 82) hx hb hts in_L hown hK hZ (by decide) rfl rfl 6 (by decide) (hts _ k1_232) (fun _ h9 => h9) rfl dG_fired_68 ?_
        refine lv_iload_n hx hb dG_fired_71 rfl (lv_at hl 1 rfl) ?_
        obtain ⟨h_inb_x1_100, hf⟩ := m_gx hf
        refine m_iald hx hb hK hZ (by decide) rfl h_inb_x1_100 dG_fired_72 ?_
        exact hret _ _ _ _ _ (fun _ _ => 0) hf rfl hZ dG_fired_73
      have hf := m_f hf c_5
      refine lv_tableOut (tgt := 74) hx hb dG_fired_18 (m_sw0_2 c_3 c_4 c_5) (by decide) ?_
      refine lv_iconst (v := (-1)) hx hb dG_fired_74 (by decide) ?_
      exact hret _ _ _ _ _ (fun _ _ => 0) hf rfl hZ dG_fired_75
    · have hf := m_f hf c_2
      refine lv_iconst (v := (-1)) hx hb dG_fired_15 (by decide) ?_
      exact hret _ _ _ _ _ (fun _ _ => 0) hf rfl hZ dG_fired_16
abbrev rmG_count : Room := { frames := 11, cells := 0, slots := 0, locals := 299 }
set_option maxHeartbeats 4000000 in
set_option maxRecDepth 100000 in
theorem cG_count (l : Launch) (D : va_G) (ad : Nat → Nat) (c3 : ClassId × ClassId × ClassId) (M : mMem) (x1 : Int32)  {r : Int32} {M' : mMem} (hf : fG_count M x1 = some (r, M')) : kIX l D ad c3 yG_count wG_count rmG_count [.ref (ad 0), .int x1] M r M' := by
  refine m_oI (cc := bG_count) (maxL := 2) (ty := .int) (own := R_G) nestX (by decide) rfl (Nat.le_of_ble_eq_true rfl) rfl (fun p e s m args below meth c Q hx hb hml hown hts hK hN hret ls hZ hl => ?_)
  have hl : lv_has ls 2 [(0, .ref (ad 0)), (1, .int x1)] := hl
  unfold fG_count at hf
  refine lv_iload_n hx hb dG_count_0 rfl (lv_at hl 1 rfl) ?_
  by_cases c_1 : x1 = 0
  · have hf := m_t hf c_1
    refine lv_tableIn (tgt := 40) hx hb dG_count_1 (by rw [c_1]; decide) (by rw [c_1]; decide) (by rw [c_1]; rfl) (by decide) ?_
    refine lv_aload_n hx hb dG_count_40 rfl (lv_at hl 0 rfl) ?_
    refine m_getR (k' := 1) hx hb hts in_G hown hK hZ (by decide) rfl rfl 0 (by decide) (hts _ k2_8) (fun _ h9 => h9) rfl dG_count_41 ?_
    refine m_get hx hb hts in_P hown hK hZ (by decide) rfl rfl 0 (by decide) (hts _ k1_28) (fun _ h9 => h9) rfl dG_count_44 ?_
    exact hret _ _ _ _ _ _ hf rfl hZ dG_count_47
  have hf := m_f hf c_1
  by_cases c_2 : x1 = 1
  · have hf := m_t hf c_2
    refine lv_tableIn (tgt := 48) hx hb dG_count_1 (by rw [c_2]; decide) (by rw [c_2]; decide) (by rw [c_2]; rfl) (by decide) ?_
    refine lv_aload_n hx hb dG_count_48 rfl (lv_at hl 0 rfl) ?_
    refine m_getR (k' := 1) hx hb hts in_G hown hK hZ (by decide) rfl rfl 0 (by decide) (hts _ k2_8) (fun _ h9 => h9) rfl dG_count_49 ?_
    refine m_get hx hb hts in_P hown hK hZ (by decide) rfl rfl 1 (by decide) (hts _ k1_31) (fun _ h9 => h9) rfl dG_count_52 ?_
    exact hret _ _ _ _ _ _ hf rfl hZ dG_count_55
  have hf := m_f hf c_2
  by_cases c_3 : x1 = 2
  · have hf := m_t hf c_3
    refine lv_tableIn (tgt := 56) hx hb dG_count_1 (by rw [c_3]; decide) (by rw [c_3]; decide) (by rw [c_3]; rfl) (by decide) ?_
    refine lv_aload_n hx hb dG_count_56 rfl (lv_at hl 0 rfl) ?_
    refine m_getR (k' := 71) hx hb hts in_G hown hK hZ (by decide) rfl rfl 6 (by decide) (hts _ k2_14) (fun _ h9 => h9) rfl dG_count_57 ?_
    refine m_get hx hb hts in_L hown hK hZ (by decide) rfl rfl 0 (by decide) (hts _ k1_222) (fun _ h9 => h9) rfl dG_count_60 ?_
    exact hret _ _ _ _ _ _ hf rfl hZ dG_count_63
  have hf := m_f hf c_3
  by_cases c_4 : x1 = 3
  · have hf := m_t hf c_4
    refine lv_tableIn (tgt := 64) hx hb dG_count_1 (by rw [c_4]; decide) (by rw [c_4]; decide) (by rw [c_4]; rfl) (by decide) ?_
    refine lv_aload_n hx hb dG_count_64 rfl (lv_at hl 0 rfl) ?_
    refine m_getR (k' := 71) hx hb hts in_G hown hK hZ (by decide) rfl rfl 6 (by decide) (hts _ k2_14) (fun _ h9 => h9) rfl dG_count_65 ?_
    refine m_get hx hb hts in_L hown hK hZ (by decide) rfl rfl 3 (by decide) (hts _ k1_226) (fun _ h9 => h9) rfl dG_count_68 ?_
    exact hret _ _ _ _ _ _ hf rfl hZ dG_count_71
  have hf := m_f hf c_4
  by_cases c_5 : x1 = 4
  · have hf := m_t hf c_5
    refine lv_tableIn (tgt := 72) hx hb dG_count_1 (by rw [c_5]; decide) (by rw [c_5]; decide) (by rw [c_5]; rfl) (by decide) ?_
    refine lv_aload_n hx hb dG_count_72 rfl (lv_at hl 0 rfl) ?_
    obtain ⟨M_6, hc, hf⟩ := m_b1x hf
    refine m_cv (va_runV (As := []) (rest := []) ⟨hx, hb, hml, hown, hts⟩ (cG_searchOnce l D ad c3 M hc) (cwV 0 hts (gV k2_140 k2_142 kp_4 k1_1 kc_G_searchOnce) rfl rfl rfl (by decide +kernel) ⟨by decide, by decide⟩) (m_preV hK hN hZ (by decide) rfl rfl) rfl rfl hl.1 rfl (lv_room (Nat.le_of_ble_eq_true rfl)) dG_count_73 ⟨Nat.zero_le _, Nat.zero_le _⟩) hZ (fun H locs hZ => ?_)
    refine lv_aload_n hx hb dG_count_76 rfl (lv_at hl 0 rfl) ?_
    refine m_getR (k' := 24) hx hb hts in_G hown hK hZ (by decide) rfl rfl 1 (by decide) (hts _ k2_9) (fun _ h9 => h9) rfl dG_count_77 ?_
    refine m_get hx hb hts in_S hown hK hZ (by decide) rfl rfl 9 (by decide) (hts _ k1_143) (fun _ h9 => h9) rfl dG_count_80 ?_
    exact hret _ _ _ _ _ _ hf rfl hZ dG_count_83
  have hf := m_f hf c_5
  by_cases c_7 : x1 = 5
  · have hf := m_t hf c_7
    refine lv_tableIn (tgt := 84) hx hb dG_count_1 (by rw [c_7]; decide) (by rw [c_7]; decide) (by rw [c_7]; rfl) (by decide) ?_
    refine lv_aload_n hx hb dG_count_84 rfl (lv_at hl 0 rfl) ?_
    obtain ⟨M_8, hc, hf⟩ := m_b1x hf
    refine m_cv (va_runV (As := []) (rest := []) ⟨hx, hb, hml, hown, hts⟩ (cG_searchOnce l D ad c3 M hc) (cwV 0 hts (gV k2_140 k2_142 kp_4 k1_1 kc_G_searchOnce) rfl rfl rfl (by decide +kernel) ⟨by decide, by decide⟩) (m_preV hK hN hZ (by decide) rfl rfl) rfl rfl hl.1 rfl (lv_room (Nat.le_of_ble_eq_true rfl)) dG_count_85 ⟨Nat.zero_le _, Nat.zero_le _⟩) hZ (fun H locs hZ => ?_)
    refine lv_aload_n hx hb dG_count_88 rfl (lv_at hl 0 rfl) ?_
    refine m_getR (k' := 24) hx hb hts in_G hown hK hZ (by decide) rfl rfl 1 (by decide) (hts _ k2_9) (fun _ h9 => h9) rfl dG_count_89 ?_
    refine m_get hx hb hts in_S hown hK hZ (by decide) rfl rfl 10 (by decide) (hts _ k1_145) (fun _ h9 => h9) rfl dG_count_92 ?_
    exact hret _ _ _ _ _ _ hf rfl hZ dG_count_95
  have hf := m_f hf c_7
  refine lv_tableOut (tgt := 96) hx hb dG_count_1 (m_sw0_5 c_1 c_2 c_3 c_4 c_5 c_7) (by decide) ?_
  refine lv_iconst (v := (-1)) hx hb dG_count_96 (by decide) ?_
  exact hret _ _ _ _ _ _ hf rfl hZ dG_count_97
end
