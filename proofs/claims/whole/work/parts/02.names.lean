def R_G : String := "GradingMixes"
def T_G : u_T := fun k => match k with
  | 0 => ("GradingMixes", "plant", "LGradingMixes$Plant;", true)
  | 1 => ("GradingMixes", "search", "LGradingMixes$Search;", true)
  | 2 => ("GradingMixes", "widerSearch", "LGradingMixes$Search;", true)
  | 3 => ("GradingMixes", "text", "LGradingMixes$BandText;", true)
  | 4 => ("GradingMixes", "hand", "LGradingMixes$Mix;", true)
  | 5 => ("GradingMixes", "lastBatch", "LGradingMixes$Batch;", true)
  | 6 => ("GradingMixes", "log", "LGradingMixes$TestLog;", true)
  | 7 => ("GradingMixes", "searched", "Z", false)
  | _ => ("GradingMixes", "limit", "I", false)
def ty_G : Nat → FieldType := fun k => match k with
  | 0 => .object "GradingMixes$Plant"
  | 1 => .object "GradingMixes$Search"
  | 2 => .object "GradingMixes$Search"
  | 3 => .object "GradingMixes$BandText"
  | 4 => .object "GradingMixes$Mix"
  | 5 => .object "GradingMixes$Batch"
  | 6 => .object "GradingMixes$TestLog"
  | 7 => .boolean
  | _ => .int
theorem nm_G_ok : ∀ a, a < 9 → ∀ b, b < 9 → a ≠ b → (T_G a).2.1 ≠ (T_G b).2.1 := by decide +kernel
theorem ty_G_ok : ∀ k, k < 9 → parseFieldDescriptor (T_G k).2.2.1 = some (ty_G k) := by decide +kernel
def R_P : String := "GradingMixes$Plant"
def T_P : u_T := fun k => match k with
  | 0 => ("GradingMixes$Plant", "sieves", "I", false)
  | 1 => ("GradingMixes$Plant", "stocks", "I", false)
  | 2 => ("GradingMixes$Plant", "cap", "I", false)
  | 3 => ("GradingMixes$Plant", "step", "I", false)
  | 4 => ("GradingMixes$Plant", "low", "[I", true)
  | 5 => ("GradingMixes$Plant", "high", "[I", true)
  | 6 => ("GradingMixes$Plant", "price", "[I", true)
  | 7 => ("GradingMixes$Plant", "least", "[I", true)
  | 8 => ("GradingMixes$Plant", "most", "[I", true)
  | 9 => ("GradingMixes$Plant", "old", "[Z", true)
  | 10 => ("GradingMixes$Plant", "water", "[I", true)
  | 11 => ("GradingMixes$Plant", "middle", "[[I", true)
  | 12 => ("GradingMixes$Plant", "lower", "[[I", true)
  | _ => ("GradingMixes$Plant", "upper", "[[I", true)
def ty_P : Nat → FieldType := fun k => match k with
  | 0 => .int
  | 1 => .int
  | 2 => .int
  | 3 => .int
  | 4 => .array .int
  | 5 => .array .int
  | 6 => .array .int
  | 7 => .array .int
  | 8 => .array .int
  | 9 => .array .boolean
  | 10 => .array .int
  | 11 => .array (.array .int)
  | 12 => .array (.array .int)
  | _ => .array (.array .int)
theorem nm_P_ok : ∀ a, a < 14 → ∀ b, b < 14 → a ≠ b → (T_P a).2.1 ≠ (T_P b).2.1 := by decide +kernel
theorem ty_P_ok : ∀ k, k < 14 → parseFieldDescriptor (T_P k).2.2.1 = some (ty_P k) := by decide +kernel
def R_S : String := "GradingMixes$Search"
def T_S : u_T := fun k => match k with
  | 0 => ("GradingMixes$Search", "plant", "LGradingMixes$Plant;", true)
  | 1 => ("GradingMixes$Search", "need", "[I", true)
  | 2 => ("GradingMixes$Search", "allow", "[I", true)
  | 3 => ("GradingMixes$Search", "shares", "[I", true)
  | 4 => ("GradingMixes$Search", "lowerBefore", "[[I", true)
  | 5 => ("GradingMixes$Search", "upperBefore", "[[I", true)
  | 6 => ("GradingMixes$Search", "kept", "[Z", true)
  | 7 => ("GradingMixes$Search", "best", "LGradingMixes$Mix;", true)
  | 8 => ("GradingMixes$Search", "nearest", "LGradingMixes$Mix;", true)
  | 9 => ("GradingMixes$Search", "mixes", "I", false)
  | _ => ("GradingMixes$Search", "keeping", "I", false)
def ty_S : Nat → FieldType := fun k => match k with
  | 0 => .object "GradingMixes$Plant"
  | 1 => .array .int
  | 2 => .array .int
  | 3 => .array .int
  | 4 => .array (.array .int)
  | 5 => .array (.array .int)
  | 6 => .array .boolean
  | 7 => .object "GradingMixes$Mix"
  | 8 => .object "GradingMixes$Mix"
  | 9 => .int
  | _ => .int
theorem nm_S_ok : ∀ a, a < 11 → ∀ b, b < 11 → a ≠ b → (T_S a).2.1 ≠ (T_S b).2.1 := by decide +kernel
theorem ty_S_ok : ∀ k, k < 11 → parseFieldDescriptor (T_S k).2.2.1 = some (ty_S k) := by decide +kernel
def R_T : String := "GradingMixes$BandText"
def T_T : u_T := fun k => match k with
  | 0 => ("GradingMixes$BandText", "lows", "[I", true)
  | 1 => ("GradingMixes$BandText", "highs", "[I", true)
  | 2 => ("GradingMixes$BandText", "signs", "[I", true)
  | 3 => ("GradingMixes$BandText", "size", "I", false)
  | _ => ("GradingMixes$BandText", "at", "I", false)
def ty_T : Nat → FieldType := fun k => match k with
  | 0 => .array .int
  | 1 => .array .int
  | 2 => .array .int
  | 3 => .int
  | _ => .int
theorem nm_T_ok : ∀ a, a < 5 → ∀ b, b < 5 → a ≠ b → (T_T a).2.1 ≠ (T_T b).2.1 := by decide +kernel
theorem ty_T_ok : ∀ k, k < 5 → parseFieldDescriptor (T_T k).2.2.1 = some (ty_T k) := by decide +kernel
def R_X : String := "GradingMixes$Mix"
def T_X : u_T := fun k => match k with
  | 0 => ("GradingMixes$Mix", "there", "Z", false)
  | 1 => ("GradingMixes$Mix", "shares", "[I", true)
  | 2 => ("GradingMixes$Mix", "price", "I", false)
  | _ => ("GradingMixes$Mix", "missed", "I", false)
def ty_X : Nat → FieldType := fun k => match k with
  | 0 => .boolean
  | 1 => .array .int
  | 2 => .int
  | _ => .int
theorem nm_X_ok : ∀ a, a < 4 → ∀ b, b < 4 → a ≠ b → (T_X a).2.1 ≠ (T_X b).2.1 := by decide +kernel
theorem ty_X_ok : ∀ k, k < 4 → parseFieldDescriptor (T_X k).2.2.1 = some (ty_X k) := by decide +kernel
def R_B : String := "GradingMixes$Batch"
def T_B : u_T := fun k => match k with
  | 0 => ("GradingMixes$Batch", "there", "Z", false)
  | 1 => ("GradingMixes$Batch", "dry", "[I", true)
  | _ => ("GradingMixes$Batch", "wet", "[I", true)
def ty_B : Nat → FieldType := fun k => match k with
  | 0 => .boolean
  | 1 => .array .int
  | _ => .array .int
theorem nm_B_ok : ∀ a, a < 3 → ∀ b, b < 3 → a ≠ b → (T_B a).2.1 ≠ (T_B b).2.1 := by decide +kernel
theorem ty_B_ok : ∀ k, k < 3 → parseFieldDescriptor (T_B k).2.2.1 = some (ty_B k) := by decide +kernel
def R_L : String := "GradingMixes$TestLog"
def T_L : u_T := fun k => match k with
  | 0 => ("GradingMixes$TestLog", "total", "I", false)
  | 1 => ("GradingMixes$TestLog", "sizes", "[I", true)
  | 2 => ("GradingMixes$TestLog", "values", "[[I", true)
  | 3 => ("GradingMixes$TestLog", "firedTotal", "I", false)
  | 4 => ("GradingMixes$TestLog", "firedSieve", "[I", true)
  | 5 => ("GradingMixes$TestLog", "firedNumber", "[I", true)
  | _ => ("GradingMixes$TestLog", "firedRule", "[I", true)
def ty_L : Nat → FieldType := fun k => match k with
  | 0 => .int
  | 1 => .array .int
  | 2 => .array (.array .int)
  | 3 => .int
  | 4 => .array .int
  | 5 => .array .int
  | _ => .array .int
theorem nm_L_ok : ∀ a, a < 7 → ∀ b, b < 7 → a ≠ b → (T_L a).2.1 ≠ (T_L b).2.1 := by decide +kernel
theorem ty_L_ok : ∀ k, k < 7 → parseFieldDescriptor (T_L k).2.2.1 = some (ty_L k) := by decide +kernel
def R_M : String := "GradingMixesModel"
def T_M : u_T := fun k => match k with
  | 0 => ("GradingMixesModel", "sieves", "I", false)
  | 1 => ("GradingMixesModel", "lows", "[I", true)
  | 2 => ("GradingMixesModel", "highs", "[I", true)
  | 3 => ("GradingMixesModel", "stocks", "I", false)
  | 4 => ("GradingMixesModel", "prices", "[I", true)
  | 5 => ("GradingMixesModel", "leasts", "[I", true)
  | 6 => ("GradingMixesModel", "mosts", "[I", true)
  | 7 => ("GradingMixesModel", "olds", "[Z", true)
  | 8 => ("GradingMixesModel", "waters", "[I", true)
  | 9 => ("GradingMixesModel", "passing", "[I", true)
  | 10 => ("GradingMixesModel", "offs", "[I", true)
  | 11 => ("GradingMixesModel", "cap", "I", false)
  | 12 => ("GradingMixesModel", "step", "I", false)
  | 13 => ("GradingMixesModel", "size", "I", false)
  | 14 => ("GradingMixesModel", "text", "[I", true)
  | 15 => ("GradingMixesModel", "at", "I", false)
  | 16 => ("GradingMixesModel", "readLows", "[I", true)
  | 17 => ("GradingMixesModel", "readHighs", "[I", true)
  | 18 => ("GradingMixesModel", "has", "Z", false)
  | 19 => ("GradingMixesModel", "shares", "[I", true)
  | 20 => ("GradingMixesModel", "now", "[I", true)
  | 21 => ("GradingMixesModel", "best", "[I", true)
  | 22 => ("GradingMixesModel", "found", "Z", false)
  | 23 => ("GradingMixesModel", "bestMiss", "I", false)
  | 24 => ("GradingMixesModel", "bestCost", "I", false)
  | 25 => ("GradingMixesModel", "mixes", "I", false)
  | 26 => ("GradingMixesModel", "keeping", "I", false)
  | 27 => ("GradingMixesModel", "kept", "[Z", true)
  | 28 => ("GradingMixesModel", "batched", "Z", false)
  | 29 => ("GradingMixesModel", "dry", "[I", true)
  | 30 => ("GradingMixesModel", "wetKilos", "[I", true)
  | 31 => ("GradingMixesModel", "limit", "I", false)
  | 32 => ("GradingMixesModel", "tests", "I", false)
  | 33 => ("GradingMixesModel", "testSieve", "[I", true)
  | 34 => ("GradingMixesModel", "testValue", "[I", true)
  | 35 => ("GradingMixesModel", "testNumber", "[I", true)
  | _ => ("GradingMixesModel", "testRule", "[I", true)
def ty_M : Nat → FieldType := fun k => match k with
  | 0 => .int
  | 1 => .array .int
  | 2 => .array .int
  | 3 => .int
  | 4 => .array .int
  | 5 => .array .int
  | 6 => .array .int
  | 7 => .array .boolean
  | 8 => .array .int
  | 9 => .array .int
  | 10 => .array .int
  | 11 => .int
  | 12 => .int
  | 13 => .int
  | 14 => .array .int
  | 15 => .int
  | 16 => .array .int
  | 17 => .array .int
  | 18 => .boolean
  | 19 => .array .int
  | 20 => .array .int
  | 21 => .array .int
  | 22 => .boolean
  | 23 => .int
  | 24 => .int
  | 25 => .int
  | 26 => .int
  | 27 => .array .boolean
  | 28 => .boolean
  | 29 => .array .int
  | 30 => .array .int
  | 31 => .int
  | 32 => .int
  | 33 => .array .int
  | 34 => .array .int
  | 35 => .array .int
  | _ => .array .int
theorem nm_M_ok : ∀ a, a < 37 → ∀ b, b < 37 → a ≠ b → (T_M a).2.1 ≠ (T_M b).2.1 := by decide +kernel
theorem ty_M_ok : ∀ k, k < 37 → parseFieldDescriptor (T_M k).2.2.1 = some (ty_M k) := by decide +kernel
def R_W : String := "GradingMixesLaw"
abbrev vCl : List vw_C := [(R_G, T_G, 9), (R_P, T_P, 14), (R_S, T_S, 11), (R_T, T_T, 5), (R_X, T_X, 4), (R_B, T_B, 3), (R_L, T_L, 7), (R_M, T_M, 37)]
/-- the words that every contract has -/
def wA : List Cond := lw_tbl.filter goodWord
theorem wA_in {w : Cond} (h : w ∈ wA) : w ∈ lw_tbl := (List.mem_filter.mp h).1
theorem wA_ok {w : Cond} (h : w ∈ wA) : (w.onTables && w.keeps) = true ∨ ∃ ty, w = .arrayClass ty := good_of_word (List.mem_filter.mp h).2
theorem inAp {w : Cond} (i : Nat) (h : (k2_sels lw_privs)[i]? = some w) (g : goodWord w = true) : w ∈ wA := List.mem_filter.mpr ⟨List.mem_append_left _ (List.mem_of_getElem? h), g⟩
theorem inA1 {w : Cond} (i : Nat) (h : tables_1_1[i]? = some w) (g : goodWord w = true) : w ∈ wA := List.mem_filter.mpr ⟨List.mem_append_right _ (List.mem_append_left _ (List.mem_of_getElem? h)), g⟩
theorem inA2 {w : Cond} (i : Nat) (h : tables_1_2[i]? = some w) (g : goodWord w = true) : w ∈ wA := List.mem_filter.mpr ⟨List.mem_append_right _ (List.mem_append_right _ (List.mem_append_left _ (List.mem_of_getElem? h))), g⟩
theorem inA3 {w : Cond} (i : Nat) (h : tables_1_3[i]? = some w) (g : goodWord w = true) : w ∈ wA := List.mem_filter.mpr ⟨List.mem_append_right _ (List.mem_append_right _ (List.mem_append_right _ (List.mem_append_left _ (List.mem_of_getElem? h)))), g⟩
theorem inA4 {w : Cond} (i : Nat) (h : tables_1_4[i]? = some w) (g : goodWord w = true) : w ∈ wA := List.mem_filter.mpr ⟨List.mem_append_right _ (List.mem_append_right _ (List.mem_append_right _ (List.mem_append_right _ (List.mem_of_getElem? h)))), g⟩
theorem in_G : ∀ w ∈ u_ws R_G T_G 9, w ∈ wA := by
  intro w hw
  refine List.mem_filter.mpr ⟨List.mem_append_right _ ?_, ?_⟩
  · revert w hw
    decide +kernel
  · revert w hw
    decide +kernel
theorem in_P : ∀ w ∈ u_ws R_P T_P 14, w ∈ wA := by
  intro w hw
  refine List.mem_filter.mpr ⟨List.mem_append_right _ ?_, ?_⟩
  · revert w hw
    decide +kernel
  · revert w hw
    decide +kernel
theorem in_S : ∀ w ∈ u_ws R_S T_S 11, w ∈ wA := by
  intro w hw
  refine List.mem_filter.mpr ⟨List.mem_append_right _ ?_, ?_⟩
  · revert w hw
    decide +kernel
  · revert w hw
    decide +kernel
theorem in_T : ∀ w ∈ u_ws R_T T_T 5, w ∈ wA := by
  intro w hw
  refine List.mem_filter.mpr ⟨List.mem_append_right _ ?_, ?_⟩
  · revert w hw
    decide +kernel
  · revert w hw
    decide +kernel
theorem in_X : ∀ w ∈ u_ws R_X T_X 4, w ∈ wA := by
  intro w hw
  refine List.mem_filter.mpr ⟨List.mem_append_right _ ?_, ?_⟩
  · revert w hw
    decide +kernel
  · revert w hw
    decide +kernel
theorem in_B : ∀ w ∈ u_ws R_B T_B 3, w ∈ wA := by
  intro w hw
  refine List.mem_filter.mpr ⟨List.mem_append_right _ ?_, ?_⟩
  · revert w hw
    decide +kernel
  · revert w hw
    decide +kernel
theorem in_L : ∀ w ∈ u_ws R_L T_L 7, w ∈ wA := by
  intro w hw
  refine List.mem_filter.mpr ⟨List.mem_append_right _ ?_, ?_⟩
  · revert w hw
    decide +kernel
  · revert w hw
    decide +kernel
theorem in_M : ∀ w ∈ u_ws R_M T_M 37, w ∈ wA := by
  intro w hw
  refine List.mem_filter.mpr ⟨List.mem_append_right _ ?_, ?_⟩
  · revert w hw
    decide +kernel
  · revert w hw
    decide +kernel
theorem gN {y : MethodName} {b : ByteArray} {mL : Nat} {ret : Option FieldType} (h : Cond.code y b mL ret ∈ wA) : GoodIn wA (Cond.code y b mL ret :: wA) := fun w hw => by
  have hm : w ∈ wA := (List.mem_cons.mp hw).elim (fun e => e ▸ h) id
  exact ⟨hm, wA_ok hm⟩
theorem gV {own C : String} {idx : Nat} {y : MethodName} {b : ByteArray} {mL : Nat} {ret : Option FieldType} (h1 : Cond.methodLink own idx y ∈ wA) (h2 : Cond.instanceMethod y ∈ wA) (h3 : Cond.selects C y y ∈ wA) (h4 : Cond.initialized C ∈ wA) (h : Cond.code y b mL ret ∈ wA) : GoodIn wA (wsV own idx C y (Cond.code y b mL ret :: wA)) := by
  intro w hw
  have hm : w ∈ wA := by
    unfold wsV at hw
    rcases List.mem_append.mp hw with q | q
    · rcases List.mem_cons.mp q with rfl | q
      · exact h1
      · rcases List.mem_cons.mp q with rfl | q
        · exact h2
        · rcases List.mem_cons.mp q with rfl | q
          · exact h3
          · rcases List.mem_cons.mp q with rfl | q
            · exact h4
            · exact absurd q List.not_mem_nil
    · exact (gN h w q).1
  exact ⟨hm, wA_ok hm⟩
theorem gS9 {own : String} {idx : Nat} {y : MethodName} {b : ByteArray} {mL : Nat} {ret : Option FieldType} (h1 : Cond.methodLink own idx y ∈ wA) (h2 : Cond.static y ∈ wA) (h4 : Cond.initialized own ∈ wA) (h : Cond.code y b mL ret ∈ wA) : GoodIn wA (wsS own idx y (Cond.code y b mL ret :: wA)) := by
  intro w hw
  have hm : w ∈ wA := by
    unfold wsS at hw
    rcases List.mem_append.mp hw with q | q
    · rcases List.mem_cons.mp q with rfl | q
      · exact h1
      · rcases List.mem_cons.mp q with rfl | q
        · exact h2
        · rcases List.mem_cons.mp q with rfl | q
          · exact h4
          · exact absurd q List.not_mem_nil
    · exact (gN h w q).1
  exact ⟨hm, wA_ok hm⟩
abbrev bG_init : ByteArray := prog_1_method_1_code
abbrev yG_init : MethodName := ⟨"GradingMixes", "<init>", "()V"⟩
abbrev wG_init : List Cond := Cond.code yG_init bG_init 1 none :: wA
theorem kc_G_init : Cond.code yG_init bG_init 1 none ∈ wA := inA1 14 rfl rfl
abbrev bG_sieve : ByteArray := prog_1_method_2_code
abbrev yG_sieve : MethodName := ⟨"GradingMixes", "sieve", "(II)I"⟩
abbrev wG_sieve : List Cond := Cond.code yG_sieve bG_sieve 4 (some .int) :: wA
theorem kc_G_sieve : Cond.code yG_sieve bG_sieve 4 (some .int) ∈ wA := inA2 39 rfl rfl
abbrev bG_band : ByteArray := prog_1_method_3_code
abbrev yG_band : MethodName := ⟨"GradingMixes", "band", "(III)Z"⟩
abbrev wG_band : List Cond := Cond.code yG_band bG_band 4 (some .boolean) :: wA
theorem kc_G_band : Cond.code yG_band bG_band 4 (some .boolean) ∈ wA := inA2 58 rfl rfl
abbrev bG_stock : ByteArray := prog_1_method_4_code
abbrev yG_stock : MethodName := ⟨"GradingMixes", "stock", "(IIIZ)I"⟩
abbrev wG_stock : List Cond := Cond.code yG_stock bG_stock 7 (some .int) :: wA
theorem kc_G_stock : Cond.code yG_stock bG_stock 7 (some .int) ∈ wA := inA2 66 rfl rfl
abbrev bG_passes : ByteArray := prog_1_method_5_code
abbrev yG_passes : MethodName := ⟨"GradingMixes", "passes", "(IIII)Z"⟩
abbrev wG_passes : List Cond := Cond.code yG_passes bG_passes 5 (some .boolean) :: wA
theorem kc_G_passes : Cond.code yG_passes bG_passes 5 (some .boolean) ∈ wA := inA2 78 rfl rfl
abbrev bG_cap : ByteArray := prog_1_method_6_code
abbrev yG_cap : MethodName := ⟨"GradingMixes", "cap", "(I)I"⟩
abbrev wG_cap : List Cond := Cond.code yG_cap bG_cap 3 (some .int) :: wA
theorem kc_G_cap : Cond.code yG_cap bG_cap 3 (some .int) ∈ wA := inA2 96 rfl rfl
abbrev bG_step : ByteArray := prog_1_method_7_code
abbrev yG_step : MethodName := ⟨"GradingMixes", "step", "(I)I"⟩
abbrev wG_step : List Cond := Cond.code yG_step bG_step 3 (some .int) :: wA
theorem kc_G_step : Cond.code yG_step bG_step 3 (some .int) ∈ wA := inA2 100 rfl rfl
abbrev bG_unit : ByteArray := prog_1_method_8_code
abbrev yG_unit : MethodName := ⟨"GradingMixes", "unit", "(I)Z"⟩
abbrev wG_unit : List Cond := Cond.code yG_unit bG_unit 2 (some .boolean) :: wA
theorem kc_G_unit : Cond.code yG_unit bG_unit 2 (some .boolean) ∈ wA := inA2 104 rfl rfl
abbrev bG_read : ByteArray := prog_1_method_9_code
abbrev yG_read : MethodName := ⟨"GradingMixes", "read", "()I"⟩
abbrev wG_read : List Cond := Cond.code yG_read bG_read 3 (some .int) :: wA
theorem kc_G_read : Cond.code yG_read bG_read 3 (some .int) ∈ wA := inA2 113 rfl rfl
abbrev bG_run : ByteArray := prog_1_method_10_code
abbrev yG_run : MethodName := ⟨"GradingMixes", "run", "()I"⟩
abbrev wG_run : List Cond := Cond.code yG_run bG_run 1 (some .int) :: wA
theorem kc_G_run : Cond.code yG_run bG_run 1 (some .int) ∈ wA := inA2 139 rfl rfl
abbrev bG_near : ByteArray := prog_1_method_11_code
abbrev yG_near : MethodName := ⟨"GradingMixes", "near", "()I"⟩
abbrev wG_near : List Cond := Cond.code yG_near bG_near 1 (some .int) :: wA
theorem kc_G_near : Cond.code yG_near bG_near 1 (some .int) ∈ wA := inA2 183 rfl rfl
abbrev bG_share : ByteArray := prog_1_method_12_code
abbrev yG_share : MethodName := ⟨"GradingMixes", "share", "(I)I"⟩
abbrev wG_share : List Cond := Cond.code yG_share bG_share 2 (some .int) :: wA
theorem kc_G_share : Cond.code yG_share bG_share 2 (some .int) ∈ wA := inA2 187 rfl rfl
abbrev bG_told : ByteArray := prog_1_method_13_code
abbrev yG_told : MethodName := ⟨"GradingMixes", "told", "(II)I"⟩
abbrev wG_told : List Cond := Cond.code yG_told bG_told 3 (some .int) :: wA
theorem kc_G_told : Cond.code yG_told bG_told 3 (some .int) ∈ wA := inA2 191 rfl rfl
abbrev bG_cost : ByteArray := prog_1_method_14_code
abbrev yG_cost : MethodName := ⟨"GradingMixes", "cost", "()I"⟩
abbrev wG_cost : List Cond := Cond.code yG_cost bG_cost 1 (some .int) :: wA
theorem kc_G_cost : Cond.code yG_cost bG_cost 1 (some .int) ∈ wA := inA2 204 rfl rfl
abbrev bG_lonely : ByteArray := prog_1_method_15_code
abbrev yG_lonely : MethodName := ⟨"GradingMixes", "lonely", "(I)I"⟩
abbrev wG_lonely : List Cond := Cond.code yG_lonely bG_lonely 4 (some .int) :: wA
theorem kc_G_lonely : Cond.code yG_lonely bG_lonely 4 (some .int) ∈ wA := inA2 208 rfl rfl
abbrev bG_worth : ByteArray := prog_1_method_16_code
abbrev yG_worth : MethodName := ⟨"GradingMixes", "worth", "(IZI)I"⟩
abbrev wG_worth : List Cond := Cond.code yG_worth bG_worth 4 (some .int) :: wA
theorem kc_G_worth : Cond.code yG_worth bG_worth 4 (some .int) ∈ wA := inA2 212 rfl rfl
abbrev bG_water : ByteArray := prog_1_method_17_code
abbrev yG_water : MethodName := ⟨"GradingMixes", "water", "(II)I"⟩
abbrev wG_water : List Cond := Cond.code yG_water bG_water 4 (some .int) :: wA
theorem kc_G_water : Cond.code yG_water bG_water 4 (some .int) ∈ wA := inA2 220 rfl rfl
abbrev bG_batch : ByteArray := prog_1_method_18_code
abbrev yG_batch : MethodName := ⟨"GradingMixes", "batch", "(I)I"⟩
abbrev wG_batch : List Cond := Cond.code yG_batch bG_batch 2 (some .int) :: wA
theorem kc_G_batch : Cond.code yG_batch bG_batch 2 (some .int) ∈ wA := inA2 224 rfl rfl
abbrev bG_mass : ByteArray := prog_1_method_19_code
abbrev yG_mass : MethodName := ⟨"GradingMixes", "mass", "(IZ)I"⟩
abbrev wG_mass : List Cond := Cond.code yG_mass bG_mass 3 (some .int) :: wA
theorem kc_G_mass : Cond.code yG_mass bG_mass 3 (some .int) ∈ wA := inA2 233 rfl rfl
abbrev bG_limit : ByteArray := prog_1_method_20_code
abbrev yG_limit : MethodName := ⟨"GradingMixes", "limit", "(I)I"⟩
abbrev wG_limit : List Cond := Cond.code yG_limit bG_limit 3 (some .int) :: wA
theorem kc_G_limit : Cond.code yG_limit bG_limit 3 (some .int) ∈ wA := inA2 237 rfl rfl
abbrev bG_test : ByteArray := prog_1_method_21_code
abbrev yG_test : MethodName := ⟨"GradingMixes", "test", "(II)I"⟩
abbrev wG_test : List Cond := Cond.code yG_test bG_test 4 (some .int) :: wA
theorem kc_G_test : Cond.code yG_test bG_test 4 (some .int) ∈ wA := inA3 1 rfl rfl
abbrev bG_fired : ByteArray := prog_1_method_22_code
abbrev yG_fired : MethodName := ⟨"GradingMixes", "fired", "(II)I"⟩
abbrev wG_fired : List Cond := Cond.code yG_fired bG_fired 3 (some .int) :: wA
theorem kc_G_fired : Cond.code yG_fired bG_fired 3 (some .int) ∈ wA := inA3 28 rfl rfl
abbrev bG_count : ByteArray := prog_1_method_23_code
abbrev yG_count : MethodName := ⟨"GradingMixes", "count", "(I)I"⟩
abbrev wG_count : List Cond := Cond.code yG_count bG_count 2 (some .int) :: wA
theorem kc_G_count : Cond.code yG_count bG_count 2 (some .int) ∈ wA := inA3 32 rfl rfl
abbrev bG_within : ByteArray := prog_1_method_24_code
abbrev yG_within : MethodName := ⟨"GradingMixes", "within", "(III)Z"⟩
abbrev wG_within : List Cond := Cond.code yG_within bG_within 3 (some .boolean) :: wA
theorem kc_G_within : Cond.code yG_within bG_within 3 (some .boolean) ∈ wA := inA2 70 rfl rfl
abbrev bG_mayBeBand : ByteArray := prog_1_method_25_code
abbrev yG_mayBeBand : MethodName := ⟨"GradingMixes", "mayBeBand", "(II)Z"⟩
abbrev wG_mayBeBand : List Cond := Cond.code yG_mayBeBand bG_mayBeBand 2 (some .boolean) :: wA
theorem kc_G_mayBeBand : Cond.code yG_mayBeBand bG_mayBeBand 2 (some .boolean) ∈ wA := inA2 42 rfl rfl
abbrev bG_forget : ByteArray := prog_1_method_26_code
abbrev yG_forget : MethodName := ⟨"GradingMixes", "forget", "()V"⟩
abbrev wG_forget : List Cond := Cond.code yG_forget bG_forget 1 none :: wA
theorem kc_G_forget : Cond.code yG_forget bG_forget 1 none ∈ wA := inA2 50 rfl rfl
abbrev bG_searchOnce : ByteArray := prog_1_method_27_code
abbrev yG_searchOnce : MethodName := ⟨"GradingMixes", "searchOnce", "()V"⟩
abbrev wG_searchOnce : List Cond := Cond.code yG_searchOnce bG_searchOnce 1 none :: wA
theorem kc_G_searchOnce : Cond.code yG_searchOnce bG_searchOnce 1 none ∈ wA := inA2 143 rfl rfl
abbrev bG_takeInHand : ByteArray := prog_1_method_28_code
abbrev yG_takeInHand : MethodName := ⟨"GradingMixes", "takeInHand", "(LGradingMixes$Mix;)Z"⟩
abbrev wG_takeInHand : List Cond := Cond.code yG_takeInHand bG_takeInHand 2 (some .boolean) :: wA
theorem kc_G_takeInHand : Cond.code yG_takeInHand bG_takeInHand 2 (some .boolean) ∈ wA := inA2 178 rfl rfl
abbrev bG_firstRule : ByteArray := prog_1_method_29_code
abbrev yG_firstRule : MethodName := ⟨"GradingMixes", "firstRule", "(II)I"⟩
abbrev wG_firstRule : List Cond := Cond.code yG_firstRule bG_firstRule 3 (some .int) :: wA
theorem kc_G_firstRule : Cond.code yG_firstRule bG_firstRule 3 (some .int) ∈ wA := inA3 9 rfl rfl
abbrev bP_init : ByteArray := prog_5_method_1_code
abbrev yP_init : MethodName := ⟨"GradingMixes$Plant", "<init>", "()V"⟩
abbrev wP_init : List Cond := Cond.code yP_init bP_init 1 none :: wA
theorem kc_P_init : Cond.code yP_init bP_init 1 none ∈ wA := inA1 22 rfl rfl
abbrev bP_hasSieve : ByteArray := prog_5_method_2_code
abbrev yP_hasSieve : MethodName := ⟨"GradingMixes$Plant", "hasSieve", "(I)Z"⟩
abbrev wP_hasSieve : List Cond := Cond.code yP_hasSieve bP_hasSieve 2 (some .boolean) :: wA
theorem kc_P_hasSieve : Cond.code yP_hasSieve bP_hasSieve 2 (some .boolean) ∈ wA := inA2 62 rfl rfl
abbrev bP_hasStock : ByteArray := prog_5_method_3_code
abbrev yP_hasStock : MethodName := ⟨"GradingMixes$Plant", "hasStock", "(I)Z"⟩
abbrev wP_hasStock : List Cond := Cond.code yP_hasStock bP_hasStock 2 (some .boolean) :: wA
theorem kc_P_hasStock : Cond.code yP_hasStock bP_hasStock 2 (some .boolean) ∈ wA := inA2 82 rfl rfl
abbrev bP_setBand : ByteArray := prog_5_method_4_code
abbrev yP_setBand : MethodName := ⟨"GradingMixes$Plant", "setBand", "(III)V"⟩
abbrev wP_setBand : List Cond := Cond.code yP_setBand bP_setBand 4 none :: wA
theorem kc_P_setBand : Cond.code yP_setBand bP_setBand 4 none ∈ wA := inA2 46 rfl rfl
abbrev bP_setStock : ByteArray := prog_5_method_5_code
abbrev yP_setStock : MethodName := ⟨"GradingMixes$Plant", "setStock", "(IIIIZ)V"⟩
abbrev wP_setStock : List Cond := Cond.code yP_setStock bP_setStock 6 none :: wA
theorem kc_P_setStock : Cond.code yP_setStock bP_setStock 6 none ∈ wA := inA2 74 rfl rfl
abbrev bP_setPassing : ByteArray := prog_5_method_6_code
abbrev yP_setPassing : MethodName := ⟨"GradingMixes$Plant", "setPassing", "(IIII)V"⟩
abbrev wP_setPassing : List Cond := Cond.code yP_setPassing bP_setPassing 5 none :: wA
theorem kc_P_setPassing : Cond.code yP_setPassing bP_setPassing 5 none ∈ wA := inA2 86 rfl rfl
abbrev bP_sumAt : ByteArray := prog_5_method_7_code
abbrev yP_sumAt : MethodName := ⟨"GradingMixes$Plant", "sumAt", "(I[[ILGradingMixes$Mix;)I"⟩
abbrev wP_sumAt : List Cond := Cond.code yP_sumAt bP_sumAt 6 (some .int) :: wA
theorem kc_P_sumAt : Cond.code yP_sumAt bP_sumAt 6 (some .int) ∈ wA := inA2 195 rfl rfl
abbrev bP_missAt : ByteArray := prog_5_method_8_code
abbrev yP_missAt : MethodName := ⟨"GradingMixes$Plant", "missAt", "(ILGradingMixes$Mix;)I"⟩
abbrev wP_missAt : List Cond := Cond.code yP_missAt bP_missAt 5 (some .int) :: wA
theorem kc_P_missAt : Cond.code yP_missAt bP_missAt 5 (some .int) ∈ wA := inA2 199 rfl rfl
abbrev bS_init : ByteArray := prog_6_method_1_code
abbrev yS_init : MethodName := ⟨"GradingMixes$Search", "<init>", "(LGradingMixes$Plant;)V"⟩
abbrev wS_init : List Cond := Cond.code yS_init bS_init 2 none :: wA
theorem kc_S_init : Cond.code yS_init bS_init 2 none ∈ wA := inA1 99 rfl rfl
abbrev bS_useBands : ByteArray := prog_6_method_2_code
abbrev yS_useBands : MethodName := ⟨"GradingMixes$Search", "useBands", "()V"⟩
abbrev wS_useBands : List Cond := Cond.code yS_useBands bS_useBands 2 none :: wA
theorem kc_S_useBands : Cond.code yS_useBands bS_useBands 2 none ∈ wA := inA2 147 rfl rfl
abbrev bS_widen : ByteArray := prog_6_method_3_code
abbrev yS_widen : MethodName := ⟨"GradingMixes$Search", "widen", "(IZI)V"⟩
abbrev wS_widen : List Cond := Cond.code yS_widen bS_widen 4 none :: wA
theorem kc_S_widen : Cond.code yS_widen bS_widen 4 none ∈ wA := inA2 216 rfl rfl
abbrev bS_lookAtAll : ByteArray := prog_6_method_4_code
abbrev yS_lookAtAll : MethodName := ⟨"GradingMixes$Search", "lookAtAll", "()V"⟩
abbrev wS_lookAtAll : List Cond := Cond.code yS_lookAtAll bS_lookAtAll 2 none :: wA
theorem kc_S_lookAtAll : Cond.code yS_lookAtAll bS_lookAtAll 2 none ∈ wA := inA2 151 rfl rfl
abbrev bS_fillFrom : ByteArray := prog_6_method_5_code
abbrev yS_fillFrom : MethodName := ⟨"GradingMixes$Search", "fillFrom", "(IIII)V"⟩
abbrev wS_fillFrom : List Cond := Cond.code yS_fillFrom bS_fillFrom 10 none :: wA
theorem kc_S_fillFrom : Cond.code yS_fillFrom bS_fillFrom 10 none ∈ wA := inA2 155 rfl rfl
abbrev bS_putShare : ByteArray := prog_6_method_6_code
abbrev yS_putShare : MethodName := ⟨"GradingMixes$Search", "putShare", "(II)V"⟩
abbrev wS_putShare : List Cond := Cond.code yS_putShare bS_putShare 4 none :: wA
theorem kc_S_putShare : Cond.code yS_putShare bS_putShare 4 none ∈ wA := inA2 174 rfl rfl
abbrev bS_missOfAll : ByteArray := prog_6_method_7_code
abbrev yS_missOfAll : MethodName := ⟨"GradingMixes$Search", "missOfAll", "(II)I"⟩
abbrev wS_missOfAll : List Cond := Cond.code yS_missOfAll bS_missOfAll 12 (some .int) :: wA
theorem kc_S_missOfAll : Cond.code yS_missOfAll bS_missOfAll 12 (some .int) ∈ wA := inA2 161 rfl rfl
abbrev bS_lookAt : ByteArray := prog_6_method_8_code
abbrev yS_lookAt : MethodName := ⟨"GradingMixes$Search", "lookAt", "(II)V"⟩
abbrev wS_lookAt : List Cond := Cond.code yS_lookAt bS_lookAt 3 none :: wA
theorem kc_S_lookAt : Cond.code yS_lookAt bS_lookAt 3 none ∈ wA := inA2 166 rfl rfl
abbrev bT_init : ByteArray := prog_2_method_1_code
abbrev yT_init : MethodName := ⟨"GradingMixes$BandText", "<init>", "()V"⟩
abbrev wT_init : List Cond := Cond.code yT_init bT_init 1 none :: wA
theorem kc_T_init : Cond.code yT_init bT_init 1 none ∈ wA := inA1 173 rfl rfl
abbrev bT_collect : ByteArray := prog_2_method_2_code
abbrev yT_collect : MethodName := ⟨"GradingMixes$BandText", "collect", "(I)Z"⟩
abbrev wT_collect : List Cond := Cond.code yT_collect bT_collect 2 (some .boolean) :: wA
theorem kc_T_collect : Cond.code yT_collect bT_collect 2 (some .boolean) ∈ wA := inA2 108 rfl rfl
abbrev bT_clear : ByteArray := prog_2_method_3_code
abbrev yT_clear : MethodName := ⟨"GradingMixes$BandText", "clear", "()V"⟩
abbrev wT_clear : List Cond := Cond.code yT_clear bT_clear 1 none :: wA
theorem kc_T_clear : Cond.code yT_clear bT_clear 1 none ∈ wA := inA2 135 rfl rfl
abbrev bT_parse : ByteArray := prog_2_method_4_code
abbrev yT_parse : MethodName := ⟨"GradingMixes$BandText", "parse", "(I)I"⟩
abbrev wT_parse : List Cond := Cond.code yT_parse bT_parse 4 (some .int) :: wA
theorem kc_T_parse : Cond.code yT_parse bT_parse 4 (some .int) ∈ wA := inA2 117 rfl rfl
abbrev bT_parseBand : ByteArray := prog_2_method_5_code
abbrev yT_parseBand : MethodName := ⟨"GradingMixes$BandText", "parseBand", "(II)I"⟩
abbrev wT_parseBand : List Cond := Cond.code yT_parseBand bT_parseBand 6 (some .int) :: wA
theorem kc_T_parseBand : Cond.code yT_parseBand bT_parseBand 6 (some .int) ∈ wA := inA2 121 rfl rfl
abbrev bT_parseNumber : ByteArray := prog_2_method_6_code
abbrev yT_parseNumber : MethodName := ⟨"GradingMixes$BandText", "parseNumber", "()I"⟩
abbrev wT_parseNumber : List Cond := Cond.code yT_parseNumber bT_parseNumber 3 (some .int) :: wA
theorem kc_T_parseNumber : Cond.code yT_parseNumber bT_parseNumber 3 (some .int) ∈ wA := inA2 125 rfl rfl
abbrev bT_skip : ByteArray := prog_2_method_7_code
abbrev yT_skip : MethodName := ⟨"GradingMixes$BandText", "skip", "(C)Z"⟩
abbrev wT_skip : List Cond := Cond.code yT_skip bT_skip 2 (some .boolean) :: wA
theorem kc_T_skip : Cond.code yT_skip bT_skip 2 (some .boolean) ∈ wA := inA2 130 rfl rfl
abbrev bX_init : ByteArray := prog_4_method_1_code
abbrev yX_init : MethodName := ⟨"GradingMixes$Mix", "<init>", "()V"⟩
abbrev wX_init : List Cond := Cond.code yX_init bX_init 1 none :: wA
theorem kc_X_init : Cond.code yX_init bX_init 1 none ∈ wA := inA1 106 rfl rfl
abbrev bX_set : ByteArray := prog_4_method_2_code
abbrev yX_set : MethodName := ⟨"GradingMixes$Mix", "set", "([III)V"⟩
abbrev wX_set : List Cond := Cond.code yX_set bX_set 5 none :: wA
theorem kc_X_set : Cond.code yX_set bX_set 5 none ∈ wA := inA2 170 rfl rfl
abbrev bB_init : ByteArray := prog_3_method_1_code
abbrev yB_init : MethodName := ⟨"GradingMixes$Batch", "<init>", "()V"⟩
abbrev wB_init : List Cond := Cond.code yB_init bB_init 1 none :: wA
theorem kc_B_init : Cond.code yB_init bB_init 1 none ∈ wA := inA1 199 rfl rfl
abbrev bB_fill : ByteArray := prog_3_method_2_code
abbrev yB_fill : MethodName := ⟨"GradingMixes$Batch", "fill", "(ILGradingMixes$Mix;LGradingMixes$Plant;)I"⟩
abbrev wB_fill : List Cond := Cond.code yB_fill bB_fill 10 (some .int) :: wA
theorem kc_B_fill : Cond.code yB_fill bB_fill 10 (some .int) ∈ wA := inA2 229 rfl rfl
abbrev bL_init : ByteArray := prog_7_method_1_code
abbrev yL_init : MethodName := ⟨"GradingMixes$TestLog", "<init>", "()V"⟩
abbrev wL_init : List Cond := Cond.code yL_init bL_init 1 none :: wA
theorem kc_L_init : Cond.code yL_init bL_init 1 none ∈ wA := inA1 218 rfl rfl
abbrev bL_clear : ByteArray := prog_7_method_2_code
abbrev yL_clear : MethodName := ⟨"GradingMixes$TestLog", "clear", "()V"⟩
abbrev wL_clear : List Cond := Cond.code yL_clear bL_clear 2 none :: wA
theorem kc_L_clear : Cond.code yL_clear bL_clear 2 none ∈ wA := inA2 54 rfl rfl
abbrev bL_add : ByteArray := prog_7_method_3_code
abbrev yL_add : MethodName := ⟨"GradingMixes$TestLog", "add", "(II)V"⟩
abbrev wL_add : List Cond := Cond.code yL_add bL_add 3 none :: wA
theorem kc_L_add : Cond.code yL_add bL_add 3 none ∈ wA := inA3 5 rfl rfl
abbrev bL_addFired : ByteArray := prog_7_method_4_code
abbrev yL_addFired : MethodName := ⟨"GradingMixes$TestLog", "addFired", "(II)V"⟩
abbrev wL_addFired : List Cond := Cond.code yL_addFired bL_addFired 3 none :: wA
theorem kc_L_addFired : Cond.code yL_addFired bL_addFired 3 none ∈ wA := inA3 24 rfl rfl
abbrev bL_drifts : ByteArray := prog_7_method_5_code
abbrev yL_drifts : MethodName := ⟨"GradingMixes$TestLog", "drifts", "(II)Z"⟩
abbrev wL_drifts : List Cond := Cond.code yL_drifts bL_drifts 7 (some .boolean) :: wA
theorem kc_L_drifts : Cond.code yL_drifts bL_drifts 7 (some .boolean) ∈ wA := inA3 13 rfl rfl
abbrev bL_jumps : ByteArray := prog_7_method_6_code
abbrev yL_jumps : MethodName := ⟨"GradingMixes$TestLog", "jumps", "(II)Z"⟩
abbrev wL_jumps : List Cond := Cond.code yL_jumps bL_jumps 4 (some .boolean) :: wA
theorem kc_L_jumps : Cond.code yL_jumps bL_jumps 4 (some .boolean) ∈ wA := inA3 17 rfl rfl
abbrev bM_init : ByteArray := prog_9_method_1_code
abbrev yM_init : MethodName := ⟨"GradingMixesModel", "<init>", "()V"⟩
abbrev wM_init : List Cond := Cond.code yM_init bM_init 1 none :: wA
theorem kc_M_init : Cond.code yM_init bM_init 1 none ∈ wA := inA3 37 rfl rfl
abbrev bM_within : ByteArray := prog_9_method_2_code
abbrev yM_within : MethodName := ⟨"GradingMixesModel", "within", "(III)Z"⟩
abbrev wM_within : List Cond := Cond.code yM_within bM_within 3 (some .boolean) :: wA
theorem kc_M_within : Cond.code yM_within bM_within 3 (some .boolean) ∈ wA := inA3 177 rfl rfl
abbrev bM_isSieve : ByteArray := prog_9_method_3_code
abbrev yM_isSieve : MethodName := ⟨"GradingMixesModel", "isSieve", "(I)Z"⟩
abbrev wM_isSieve : List Cond := Cond.code yM_isSieve bM_isSieve 2 (some .boolean) :: wA
theorem kc_M_isSieve : Cond.code yM_isSieve bM_isSieve 2 (some .boolean) ∈ wA := inA3 169 rfl rfl
abbrev bM_isStock : ByteArray := prog_9_method_4_code
abbrev yM_isStock : MethodName := ⟨"GradingMixesModel", "isStock", "(I)Z"⟩
abbrev wM_isStock : List Cond := Cond.code yM_isStock bM_isStock 2 (some .boolean) :: wA
theorem kc_M_isStock : Cond.code yM_isStock bM_isStock 2 (some .boolean) ∈ wA := inA3 185 rfl rfl
abbrev bM_isBand : ByteArray := prog_9_method_5_code
abbrev yM_isBand : MethodName := ⟨"GradingMixesModel", "isBand", "(II)Z"⟩
abbrev wM_isBand : List Cond := Cond.code yM_isBand bM_isBand 2 (some .boolean) :: wA
theorem kc_M_isBand : Cond.code yM_isBand bM_isBand 2 (some .boolean) ∈ wA := inA3 157 rfl rfl
abbrev bM_changed : ByteArray := prog_9_method_6_code
abbrev yM_changed : MethodName := ⟨"GradingMixesModel", "changed", "()V"⟩
abbrev wM_changed : List Cond := Cond.code yM_changed bM_changed 1 none :: wA
theorem kc_M_changed : Cond.code yM_changed bM_changed 1 none ∈ wA := inA3 161 rfl rfl
abbrev bM_sieve : ByteArray := prog_9_method_7_code
abbrev yM_sieve : MethodName := ⟨"GradingMixesModel", "sieve", "(II)I"⟩
abbrev wM_sieve : List Cond := Cond.code yM_sieve bM_sieve 3 (some .int) :: wA
theorem kc_M_sieve : Cond.code yM_sieve bM_sieve 3 (some .int) ∈ wA := inA3 154 rfl rfl
abbrev bM_band : ByteArray := prog_9_method_8_code
abbrev yM_band : MethodName := ⟨"GradingMixesModel", "band", "(III)Z"⟩
abbrev wM_band : List Cond := Cond.code yM_band bM_band 4 (some .boolean) :: wA
theorem kc_M_band : Cond.code yM_band bM_band 4 (some .boolean) ∈ wA := inA3 165 rfl rfl
abbrev bM_stock : ByteArray := prog_9_method_9_code
abbrev yM_stock : MethodName := ⟨"GradingMixesModel", "stock", "(IIIZ)I"⟩
abbrev wM_stock : List Cond := Cond.code yM_stock bM_stock 5 (some .int) :: wA
theorem kc_M_stock : Cond.code yM_stock bM_stock 5 (some .int) ∈ wA := inA3 173 rfl rfl
abbrev bM_passes : ByteArray := prog_9_method_10_code
abbrev yM_passes : MethodName := ⟨"GradingMixesModel", "passes", "(IIII)Z"⟩
abbrev wM_passes : List Cond := Cond.code yM_passes bM_passes 5 (some .boolean) :: wA
theorem kc_M_passes : Cond.code yM_passes bM_passes 5 (some .boolean) ∈ wA := inA3 181 rfl rfl
abbrev bM_cap : ByteArray := prog_9_method_11_code
abbrev yM_cap : MethodName := ⟨"GradingMixesModel", "cap", "(I)I"⟩
abbrev wM_cap : List Cond := Cond.code yM_cap bM_cap 3 (some .int) :: wA
theorem kc_M_cap : Cond.code yM_cap bM_cap 3 (some .int) ∈ wA := inA3 189 rfl rfl
abbrev bM_step : ByteArray := prog_9_method_12_code
abbrev yM_step : MethodName := ⟨"GradingMixesModel", "step", "(I)I"⟩
abbrev wM_step : List Cond := Cond.code yM_step bM_step 4 (some .int) :: wA
theorem kc_M_step : Cond.code yM_step bM_step 4 (some .int) ∈ wA := inA3 193 rfl rfl
abbrev bM_unit : ByteArray := prog_9_method_13_code
abbrev yM_unit : MethodName := ⟨"GradingMixesModel", "unit", "(I)Z"⟩
abbrev wM_unit : List Cond := Cond.code yM_unit bM_unit 2 (some .boolean) :: wA
theorem kc_M_unit : Cond.code yM_unit bM_unit 2 (some .boolean) ∈ wA := inA3 197 rfl rfl
abbrev bM_isDigit : ByteArray := prog_9_method_14_code
abbrev yM_isDigit : MethodName := ⟨"GradingMixesModel", "isDigit", "()Z"⟩
abbrev wM_isDigit : List Cond := Cond.code yM_isDigit bM_isDigit 1 (some .boolean) :: wA
theorem kc_M_isDigit : Cond.code yM_isDigit bM_isDigit 1 (some .boolean) ∈ wA := inA3 213 rfl rfl
abbrev bM_number : ByteArray := prog_9_method_15_code
abbrev yM_number : MethodName := ⟨"GradingMixesModel", "number", "()I"⟩
abbrev wM_number : List Cond := Cond.code yM_number bM_number 3 (some .int) :: wA
theorem kc_M_number : Cond.code yM_number bM_number 3 (some .int) ∈ wA := inA3 209 rfl rfl
abbrev bM_takes : ByteArray := prog_9_method_16_code
abbrev yM_takes : MethodName := ⟨"GradingMixesModel", "takes", "(I)Z"⟩
abbrev wM_takes : List Cond := Cond.code yM_takes bM_takes 3 (some .boolean) :: wA
theorem kc_M_takes : Cond.code yM_takes bM_takes 3 (some .boolean) ∈ wA := inA3 217 rfl rfl
abbrev bM_readBands : ByteArray := prog_9_method_17_code
abbrev yM_readBands : MethodName := ⟨"GradingMixesModel", "readBands", "()I"⟩
abbrev wM_readBands : List Cond := Cond.code yM_readBands bM_readBands 7 (some .int) :: wA
theorem kc_M_readBands : Cond.code yM_readBands bM_readBands 7 (some .int) ∈ wA := inA3 205 rfl rfl
abbrev bM_read : ByteArray := prog_9_method_18_code
abbrev yM_read : MethodName := ⟨"GradingMixesModel", "read", "()I"⟩
abbrev wM_read : List Cond := Cond.code yM_read bM_read 3 (some .int) :: wA
theorem kc_M_read : Cond.code yM_read bM_read 3 (some .int) ∈ wA := inA3 201 rfl rfl
abbrev bM_lowerPart : ByteArray := prog_9_method_19_code
abbrev yM_lowerPart : MethodName := ⟨"GradingMixesModel", "lowerPart", "(II)I"⟩
abbrev wM_lowerPart : List Cond := Cond.code yM_lowerPart bM_lowerPart 4 (some .int) :: wA
theorem kc_M_lowerPart : Cond.code yM_lowerPart bM_lowerPart 4 (some .int) ∈ wA := inA4 5 rfl rfl
abbrev bM_upperPart : ByteArray := prog_9_method_20_code
abbrev yM_upperPart : MethodName := ⟨"GradingMixesModel", "upperPart", "(II)I"⟩
abbrev wM_upperPart : List Cond := Cond.code yM_upperPart bM_upperPart 4 (some .int) :: wA
theorem kc_M_upperPart : Cond.code yM_upperPart bM_upperPart 4 (some .int) ∈ wA := inA4 9 rfl rfl
abbrev bM_endOf : ByteArray := prog_9_method_21_code
abbrev yM_endOf : MethodName := ⟨"GradingMixesModel", "endOf", "([III)I"⟩
abbrev wM_endOf : List Cond := Cond.code yM_endOf bM_endOf 7 (some .int) :: wA
theorem kc_M_endOf : Cond.code yM_endOf bM_endOf 7 (some .int) ∈ wA := inA4 1 rfl rfl
abbrev bM_missOf : ByteArray := prog_9_method_22_code
abbrev yM_missOf : MethodName := ⟨"GradingMixesModel", "missOf", "([IIII)I"⟩
abbrev wM_missOf : List Cond := Cond.code yM_missOf bM_missOf 7 (some .int) :: wA
theorem kc_M_missOf : Cond.code yM_missOf bM_missOf 7 (some .int) ∈ wA := inA3 237 rfl rfl
abbrev bM_costOf : ByteArray := prog_9_method_23_code
abbrev yM_costOf : MethodName := ⟨"GradingMixesModel", "costOf", "([I)I"⟩
abbrev wM_costOf : List Cond := Cond.code yM_costOf bM_costOf 4 (some .int) :: wA
theorem kc_M_costOf : Cond.code yM_costOf bM_costOf 4 (some .int) ∈ wA := inA4 13 rfl rfl
abbrev bM_isMix : ByteArray := prog_9_method_24_code
abbrev yM_isMix : MethodName := ⟨"GradingMixesModel", "isMix", "()Z"⟩
abbrev wM_isMix : List Cond := Cond.code yM_isMix bM_isMix 5 (some .boolean) :: wA
theorem kc_M_isMix : Cond.code yM_isMix bM_isMix 5 (some .boolean) ∈ wA := inA3 229 rfl rfl
abbrev bM_goThrough : ByteArray := prog_9_method_25_code
abbrev yM_goThrough : MethodName := ⟨"GradingMixesModel", "goThrough", "(ZIII)V"⟩
abbrev wM_goThrough : List Cond := Cond.code yM_goThrough bM_goThrough 8 none :: wA
theorem kc_M_goThrough : Cond.code yM_goThrough bM_goThrough 8 none ∈ wA := inA3 225 rfl rfl
abbrev bM_look : ByteArray := prog_9_method_26_code
abbrev yM_look : MethodName := ⟨"GradingMixesModel", "look", "(ZIII)V"⟩
abbrev wM_look : List Cond := Cond.code yM_look bM_look 9 none :: wA
theorem kc_M_look : Cond.code yM_look bM_look 9 none ∈ wA := inA3 233 rfl rfl
abbrev bM_take : ByteArray := prog_9_method_27_code
abbrev yM_take : MethodName := ⟨"GradingMixesModel", "take", "()V"⟩
abbrev wM_take : List Cond := Cond.code yM_take bM_take 2 none :: wA
theorem kc_M_take : Cond.code yM_take bM_take 2 none ∈ wA := inA4 17 rfl rfl
abbrev bM_run : ByteArray := prog_9_method_28_code
abbrev yM_run : MethodName := ⟨"GradingMixesModel", "run", "()I"⟩
abbrev wM_run : List Cond := Cond.code yM_run bM_run 1 (some .int) :: wA
theorem kc_M_run : Cond.code yM_run bM_run 1 (some .int) ∈ wA := inA3 221 rfl rfl
abbrev bM_near : ByteArray := prog_9_method_29_code
abbrev yM_near : MethodName := ⟨"GradingMixesModel", "near", "()I"⟩
abbrev wM_near : List Cond := Cond.code yM_near bM_near 1 (some .int) :: wA
theorem kc_M_near : Cond.code yM_near bM_near 1 (some .int) ∈ wA := inA4 21 rfl rfl
abbrev bM_share : ByteArray := prog_9_method_30_code
abbrev yM_share : MethodName := ⟨"GradingMixesModel", "share", "(I)I"⟩
abbrev wM_share : List Cond := Cond.code yM_share bM_share 2 (some .int) :: wA
theorem kc_M_share : Cond.code yM_share bM_share 2 (some .int) ∈ wA := inA4 25 rfl rfl
abbrev bM_told : ByteArray := prog_9_method_31_code
abbrev yM_told : MethodName := ⟨"GradingMixesModel", "told", "(II)I"⟩
abbrev wM_told : List Cond := Cond.code yM_told bM_told 3 (some .int) :: wA
theorem kc_M_told : Cond.code yM_told bM_told 3 (some .int) ∈ wA := inA4 29 rfl rfl
abbrev bM_cost : ByteArray := prog_9_method_32_code
abbrev yM_cost : MethodName := ⟨"GradingMixesModel", "cost", "()I"⟩
abbrev wM_cost : List Cond := Cond.code yM_cost bM_cost 1 (some .int) :: wA
theorem kc_M_cost : Cond.code yM_cost bM_cost 1 (some .int) ∈ wA := inA4 33 rfl rfl
abbrev bM_lonely : ByteArray := prog_9_method_33_code
abbrev yM_lonely : MethodName := ⟨"GradingMixesModel", "lonely", "(I)I"⟩
abbrev wM_lonely : List Cond := Cond.code yM_lonely bM_lonely 4 (some .int) :: wA
theorem kc_M_lonely : Cond.code yM_lonely bM_lonely 4 (some .int) ∈ wA := inA4 37 rfl rfl
abbrev bM_worth : ByteArray := prog_9_method_34_code
abbrev yM_worth : MethodName := ⟨"GradingMixesModel", "worth", "(IZI)I"⟩
abbrev wM_worth : List Cond := Cond.code yM_worth bM_worth 7 (some .int) :: wA
theorem kc_M_worth : Cond.code yM_worth bM_worth 7 (some .int) ∈ wA := inA4 41 rfl rfl
abbrev bM_water : ByteArray := prog_9_method_35_code
abbrev yM_water : MethodName := ⟨"GradingMixesModel", "water", "(II)I"⟩
abbrev wM_water : List Cond := Cond.code yM_water bM_water 4 (some .int) :: wA
theorem kc_M_water : Cond.code yM_water bM_water 4 (some .int) ∈ wA := inA4 45 rfl rfl
abbrev bM_batch : ByteArray := prog_9_method_36_code
abbrev yM_batch : MethodName := ⟨"GradingMixesModel", "batch", "(I)I"⟩
abbrev wM_batch : List Cond := Cond.code yM_batch bM_batch 8 (some .int) :: wA
theorem kc_M_batch : Cond.code yM_batch bM_batch 8 (some .int) ∈ wA := inA4 49 rfl rfl
abbrev bM_mass : ByteArray := prog_9_method_37_code
abbrev yM_mass : MethodName := ⟨"GradingMixesModel", "mass", "(IZ)I"⟩
abbrev wM_mass : List Cond := Cond.code yM_mass bM_mass 3 (some .int) :: wA
theorem kc_M_mass : Cond.code yM_mass bM_mass 3 (some .int) ∈ wA := inA4 56 rfl rfl
abbrev bM_limit : ByteArray := prog_9_method_38_code
abbrev yM_limit : MethodName := ⟨"GradingMixesModel", "limit", "(I)I"⟩
abbrev wM_limit : List Cond := Cond.code yM_limit bM_limit 3 (some .int) :: wA
theorem kc_M_limit : Cond.code yM_limit bM_limit 3 (some .int) ∈ wA := inA4 60 rfl rfl
abbrev bM_driftsOff : ByteArray := prog_9_method_39_code
abbrev yM_driftsOff : MethodName := ⟨"GradingMixesModel", "driftsOff", "(I)Z"⟩
abbrev wM_driftsOff : List Cond := Cond.code yM_driftsOff bM_driftsOff 7 (some .boolean) :: wA
theorem kc_M_driftsOff : Cond.code yM_driftsOff bM_driftsOff 7 (some .boolean) ∈ wA := inA4 68 rfl rfl
abbrev bM_test : ByteArray := prog_9_method_40_code
abbrev yM_test : MethodName := ⟨"GradingMixesModel", "test", "(II)I"⟩
abbrev wM_test : List Cond := Cond.code yM_test bM_test 7 (some .int) :: wA
theorem kc_M_test : Cond.code yM_test bM_test 7 (some .int) ∈ wA := inA4 64 rfl rfl
abbrev bM_fired : ByteArray := prog_9_method_41_code
abbrev yM_fired : MethodName := ⟨"GradingMixesModel", "fired", "(II)I"⟩
abbrev wM_fired : List Cond := Cond.code yM_fired bM_fired 5 (some .int) :: wA
theorem kc_M_fired : Cond.code yM_fired bM_fired 5 (some .int) ∈ wA := inA4 72 rfl rfl
abbrev bM_count : ByteArray := prog_9_method_42_code
abbrev yM_count : MethodName := ⟨"GradingMixesModel", "count", "(I)I"⟩
abbrev wM_count : List Cond := Cond.code yM_count bM_count 4 (some .int) :: wA
theorem kc_M_count : Cond.code yM_count bM_count 4 (some .int) ∈ wA := inA4 76 rfl rfl
theorem kc_object : Cond.code Lib.objectInit ⟨#[0xb1]⟩ 1 none ∈ wA := inA1 17 rfl rfl
theorem kc_math_max : Cond.code Lib.Math.max.name Lib.Math.max.code 2 (some .int) ∈ wA := inA2 89 rfl rfl
theorem kc_math_min : Cond.code Lib.Math.min.name Lib.Math.min.code 2 (some .int) ∈ wA := inA2 92 rfl rfl
theorem kc_math_abs : Cond.code Lib.Math.abs.name Lib.Math.abs.code 1 (some .int) ∈ wA := inA3 20 rfl rfl
def nwX : List Cond := [.methodLinkNest "GradingMixes" 9 ⟨"GradingMixes$Plant", "<init>", "()V"⟩ "GradingMixes", .methodLinkNest "GradingMixes$Search" 35 ⟨"GradingMixes$Mix", "<init>", "()V"⟩ "GradingMixes", .methodLinkNest "GradingMixes" 30 ⟨"GradingMixes$BandText", "<init>", "()V"⟩ "GradingMixes", .methodLinkNest "GradingMixes" 37 ⟨"GradingMixes$Mix", "<init>", "()V"⟩ "GradingMixes", .methodLinkNest "GradingMixes" 44 ⟨"GradingMixes$Batch", "<init>", "()V"⟩ "GradingMixes", .methodLinkNest "GradingMixes" 51 ⟨"GradingMixes$TestLog", "<init>", "()V"⟩ "GradingMixes", .methodLinkNest "GradingMixes$BandText" 28 ⟨"GradingMixes", "within", "(III)Z"⟩ "GradingMixes", .methodLinkNest "GradingMixes$BandText" 44 ⟨"GradingMixes", "mayBeBand", "(II)Z"⟩ "GradingMixes", .methodLinkNest "GradingMixes$Search" 97 ⟨"GradingMixes", "within", "(III)Z"⟩ "GradingMixes"]
def nwM : List Cond := []
theorem nestX : ∀ w ∈ nwX, ∃ a i x h, w = Cond.methodLinkNest a i x h := by
  intro w hw
  unfold nwX at hw
  simp only [List.mem_cons, List.not_mem_nil, or_false] at hw
  rcases hw with rfl | rfl | rfl | rfl | rfl | rfl | rfl | rfl | rfl <;> exact ⟨_, _, _, _, rfl⟩
theorem nestM : ∀ w ∈ nwM, ∃ a i x h, w = Cond.methodLinkNest a i x h := fun w hw => absurd hw List.not_mem_nil
theorem nk_0 : (Cond.methodLinkNest "GradingMixes" 9 ⟨"GradingMixes$Plant", "<init>", "()V"⟩ "GradingMixes") ∈ nwX := List.mem_of_getElem? (i := 0) rfl
theorem nt_0 : (Cond.methodLinkNest "GradingMixes" 9 ⟨"GradingMixes$Plant", "<init>", "()V"⟩ "GradingMixes") ∈ lw_tbl := List.mem_append_right _ (List.mem_append_left _ (List.mem_of_getElem? (i := 20) rfl))
theorem nk_1 : (Cond.methodLinkNest "GradingMixes$Search" 35 ⟨"GradingMixes$Mix", "<init>", "()V"⟩ "GradingMixes") ∈ nwX := List.mem_of_getElem? (i := 1) rfl
theorem nt_1 : (Cond.methodLinkNest "GradingMixes$Search" 35 ⟨"GradingMixes$Mix", "<init>", "()V"⟩ "GradingMixes") ∈ lw_tbl := List.mem_append_right _ (List.mem_append_left _ (List.mem_of_getElem? (i := 104) rfl))
theorem nk_2 : (Cond.methodLinkNest "GradingMixes" 30 ⟨"GradingMixes$BandText", "<init>", "()V"⟩ "GradingMixes") ∈ nwX := List.mem_of_getElem? (i := 2) rfl
theorem nt_2 : (Cond.methodLinkNest "GradingMixes" 30 ⟨"GradingMixes$BandText", "<init>", "()V"⟩ "GradingMixes") ∈ lw_tbl := List.mem_append_right _ (List.mem_append_left _ (List.mem_of_getElem? (i := 171) rfl))
theorem nk_3 : (Cond.methodLinkNest "GradingMixes" 37 ⟨"GradingMixes$Mix", "<init>", "()V"⟩ "GradingMixes") ∈ nwX := List.mem_of_getElem? (i := 3) rfl
theorem nt_3 : (Cond.methodLinkNest "GradingMixes" 37 ⟨"GradingMixes$Mix", "<init>", "()V"⟩ "GradingMixes") ∈ lw_tbl := List.mem_append_right _ (List.mem_append_left _ (List.mem_of_getElem? (i := 194) rfl))
theorem nk_4 : (Cond.methodLinkNest "GradingMixes" 44 ⟨"GradingMixes$Batch", "<init>", "()V"⟩ "GradingMixes") ∈ nwX := List.mem_of_getElem? (i := 4) rfl
theorem nt_4 : (Cond.methodLinkNest "GradingMixes" 44 ⟨"GradingMixes$Batch", "<init>", "()V"⟩ "GradingMixes") ∈ lw_tbl := List.mem_append_right _ (List.mem_append_left _ (List.mem_of_getElem? (i := 197) rfl))
theorem nk_5 : (Cond.methodLinkNest "GradingMixes" 51 ⟨"GradingMixes$TestLog", "<init>", "()V"⟩ "GradingMixes") ∈ nwX := List.mem_of_getElem? (i := 5) rfl
theorem nt_5 : (Cond.methodLinkNest "GradingMixes" 51 ⟨"GradingMixes$TestLog", "<init>", "()V"⟩ "GradingMixes") ∈ lw_tbl := List.mem_append_right _ (List.mem_append_left _ (List.mem_of_getElem? (i := 216) rfl))
theorem nk_6 : (Cond.methodLinkNest "GradingMixes$BandText" 28 ⟨"GradingMixes", "within", "(III)Z"⟩ "GradingMixes") ∈ nwX := List.mem_of_getElem? (i := 6) rfl
theorem nt_6 : (Cond.methodLinkNest "GradingMixes$BandText" 28 ⟨"GradingMixes", "within", "(III)Z"⟩ "GradingMixes") ∈ lw_tbl := List.mem_append_right _ (List.mem_append_right _ (List.mem_append_left _ (List.mem_of_getElem? (i := 109) rfl)))
theorem nk_7 : (Cond.methodLinkNest "GradingMixes$BandText" 44 ⟨"GradingMixes", "mayBeBand", "(II)Z"⟩ "GradingMixes") ∈ nwX := List.mem_of_getElem? (i := 7) rfl
theorem nt_7 : (Cond.methodLinkNest "GradingMixes$BandText" 44 ⟨"GradingMixes", "mayBeBand", "(II)Z"⟩ "GradingMixes") ∈ lw_tbl := List.mem_append_right _ (List.mem_append_right _ (List.mem_append_left _ (List.mem_of_getElem? (i := 131) rfl)))
theorem nk_8 : (Cond.methodLinkNest "GradingMixes$Search" 97 ⟨"GradingMixes", "within", "(III)Z"⟩ "GradingMixes") ∈ nwX := List.mem_of_getElem? (i := 8) rfl
theorem nt_8 : (Cond.methodLinkNest "GradingMixes$Search" 97 ⟨"GradingMixes", "within", "(III)Z"⟩ "GradingMixes") ∈ lw_tbl := List.mem_append_right _ (List.mem_append_right _ (List.mem_append_left _ (List.mem_of_getElem? (i := 157) rfl)))
theorem nt_over : (Cond.arrayOver (.array .int)) ∈ lw_tbl := List.mem_append_right _ (List.mem_append_left _ (List.mem_of_getElem? (i := 25) rfl))
