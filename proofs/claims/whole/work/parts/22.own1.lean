/-! names of what the printed names leave out (by program) -/
def TM : u_T := fun k => match k with
  | 0 => ("LessonSolverModel", "thrown", "I", false)
  | 1 => ("LessonSolverModel", "n", "I", true)
  | 2 => ("LessonSolverModel", "words", "I", true)
  | 3 => ("LessonSolverModel", "all", "[J", true)
  | 4 => ("LessonSolverModel", "left", "[J", true)
  | 5 => ("LessonSolverModel", "clause", "[J", true)
  | 6 => ("LessonSolverModel", "making", "[I", true)
  | 7 => ("LessonSolverModel", "assumed", "[I", true)
  | 8 => ("LessonSolverModel", "made", "I", false)
  | 9 => ("LessonSolverModel", "clauses", "I", false)
  | 10 => ("LessonSolverModel", "literals", "I", false)
  | _ => ("LessonSolverModel", "assumptions", "I", false)
def tyM : Nat → FieldType := fun k => match k with
  | 0 => .int
  | 1 => .int
  | 2 => .int
  | 3 => .array .long
  | 4 => .array .long
  | 5 => .array .long
  | 6 => .array .int
  | 7 => .array .int
  | 8 => .int
  | 9 => .int
  | 10 => .int
  | _ => .int
theorem nmM : ∀ a, a < 12 → ∀ b, b < 12 → a ≠ b → (TM a).2.1 ≠ (TM b).2.1 := by decide +kernel
theorem tyM_ok : ∀ k, k < 12 → parseFieldDescriptor (TM k).2.2.1 = some (tyM k) := by decide +kernel
def ksT : List Cond := lw_tbl.filter goodWord
theorem inM : ∀ w ∈ u_ws RX4 TM 12, w ∈ ksT := by decide +kernel
abbrev ksCl : List vw_C := [(RX0, TX0, 4), (RX1, TX1, 5), (RX2, TX2, 5), (RX3, TX3, 10), (RX4, TM, 12)]
abbrev cX3_count : ByteArray := prog_1_method_10_code
def yX3_count : MethodName := ⟨RX3, "count", "(I)I"⟩
def wsX3_count : List Cond := .code yX3_count cX3_count 2 (some .int) :: ksT
abbrev cX3_wipe : ByteArray := prog_1_method_11_code
def yX3_wipe : MethodName := ⟨RX3, "wipe", "()V"⟩
def wsX3_wipe : List Cond := .code yX3_wipe cX3_wipe 1 none :: ksT
abbrev cX4_init : ByteArray := prog_6_method_1_code
def yX4_init : MethodName := ⟨RX4, "<init>", "(I)V"⟩
def wsX4_init : List Cond := .code yX4_init cX4_init 2 none :: ksT
abbrev cX4_clear : ByteArray := prog_6_method_3_code
def yX4_clear : MethodName := ⟨RX4, "clear", "()V"⟩
def wsX4_clear : List Cond := .code yX4_clear cX4_clear 2 none :: ksT
abbrev cX4_isLiteral : ByteArray := prog_6_method_4_code
def yX4_isLiteral : MethodName := ⟨RX4, "isLiteral", "(I)Z"⟩
def wsX4_isLiteral : List Cond := .code yX4_isLiteral cX4_isLiteral 2 (some .boolean) :: ksT
abbrev cX4_row : ByteArray := prog_6_method_5_code
def yX4_row : MethodName := ⟨RX4, "row", "(II)J"⟩
def wsX4_row : List Cond := .code yX4_row cX4_row 6 (some .long) :: ksT
abbrev cX4_add : ByteArray := prog_6_method_6_code
def yX4_add : MethodName := ⟨RX4, "add", "(I)Z"⟩
def wsX4_add : List Cond := .code yX4_add cX4_add 2 (some .boolean) :: ksT
abbrev cX4_close : ByteArray := prog_6_method_7_code
def yX4_close : MethodName := ⟨RX4, "close", "()I"⟩
def wsX4_close : List Cond := .code yX4_close cX4_close 6 (some .int) :: ksT
abbrev cX4_assume : ByteArray := prog_6_method_8_code
def yX4_assume : MethodName := ⟨RX4, "assume", "(I)I"⟩
def wsX4_assume : List Cond := .code yX4_assume cX4_assume 2 (some .int) :: ksT
abbrev cX4_retract : ByteArray := prog_6_method_9_code
def yX4_retract : MethodName := ⟨RX4, "retract", "(I)I"⟩
def wsX4_retract : List Cond := .code yX4_retract cX4_retract 2 (some .int) :: ksT
abbrev cX4_leaves : ByteArray := prog_6_method_10_code
def yX4_leaves : MethodName := ⟨RX4, "leaves", "(J)Z"⟩
def wsX4_leaves : List Cond := .code yX4_leaves cX4_leaves 7 (some .boolean) :: ksT
abbrev cX4_solve : ByteArray := prog_6_method_11_code
def yX4_solve : MethodName := ⟨RX4, "solve", "()Z"⟩
def wsX4_solve : List Cond := .code yX4_solve cX4_solve 1 (some .boolean) :: ksT
abbrev cX4_least : ByteArray := prog_6_method_12_code
def yX4_least : MethodName := ⟨RX4, "least", "()I"⟩
def wsX4_least : List Cond := .code yX4_least cX4_least 3 (some .int) :: ksT
abbrev cX4_implied : ByteArray := prog_6_method_13_code
def yX4_implied : MethodName := ⟨RX4, "implied", "(I)I"⟩
def wsX4_implied : List Cond := .code yX4_implied cX4_implied 4 (some .int) :: ksT
abbrev cX4_core : ByteArray := prog_6_method_14_code
def yX4_core : MethodName := ⟨RX4, "core", "()J"⟩
def wsX4_core : List Cond := .code yX4_core cX4_core 6 (some .long) :: ksT
abbrev cX4_count : ByteArray := prog_6_method_15_code
def yX4_count : MethodName := ⟨RX4, "count", "(I)I"⟩
def wsX4_count : List Cond := .code yX4_count cX4_count 2 (some .int) :: ksT
abbrev cX4_wipe : ByteArray := prog_6_method_16_code
def yX4_wipe : MethodName := ⟨RX4, "wipe", "()V"⟩
def wsX4_wipe : List Cond := .code yX4_wipe cX4_wipe 1 none :: ksT
abbrev cX0_clear : ByteArray := prog_2_method_2_code
def yX0_clear : MethodName := ⟨RX0, "clear", "()V"⟩
def wsX0_clear : List Cond := .code yX0_clear cX0_clear 1 none :: ksT
abbrev cL_cell : ByteArray := method_2_code
def yL_cell : MethodName := ⟨RL, "cell", "([II)I"⟩
def wsL_cell : List Cond := .code yL_cell cL_cell 2 (some .int) :: ksT
theorem ks_inT {w : Cond} (h : w ∈ ksT) : w ∈ lw_tbl := (List.mem_filter.mp h).1
theorem ks_gw {w : Cond} (h : w ∈ ksT) : (w.onTables && w.keeps) = true ∨ ∃ ty, w = .arrayClass ty := good_of_word (List.mem_filter.mp h).2
theorem ks_GI0 {own C : String} {idx : Nat} {y : MethodName} {ws : List Cond} (h : ∀ w ∈ wsV own idx C y [], w ∈ ksT) (h2 : ∀ w ∈ ws, w ∈ ksT) : GoodIn lw_tbl (wsV own idx C y ws) := by
  intro w hw
  have hm : w ∈ ksT := by
    rcases List.mem_append.mp hw with q | q
    · exact h w (List.mem_append_left _ q)
    · exact h2 w q
  exact ⟨ks_inT hm, ks_gw hm⟩
theorem ks_GI {own C : String} {idx : Nat} {y : MethodName} {ws : List Cond} {c0 : Cond} (h : ∀ w ∈ wsV own idx C y [], w ∈ ksT) (h2 : ∀ w ∈ ws, w ∈ ksT) : GoodIn (c0 :: ksT) (wsV own idx C y ws) := by
  intro w hw
  have hm : w ∈ ksT := by
    rcases List.mem_append.mp hw with q | q
    · exact h w (List.mem_append_left _ q)
    · exact h2 w q
  exact ⟨List.mem_cons_of_mem _ hm, ks_gw hm⟩
theorem ks_wt {y : MethodName} {cd : ByteArray} {mL : Nat} {r : Option FieldType} (h : Cond.code y cd mL r ∈ ksT) : ∀ w ∈ Cond.code y cd mL r :: ksT, w ∈ ksT := fun w hw => by
  rcases List.mem_cons.mp hw with q | q
  · rw [q]; exact h
  · exact q

