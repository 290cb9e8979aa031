/-- a private method of a class that the tables say can be made, by its rows of tables_1 -/
def lw_okq (q : MethodName × Nat) : Prop := (q.1.cls ≠ "java/lang/invoke/MethodHandle" ∧ q.1.cls ≠ "java/lang/invoke/VarHandle") ∧ Cond.instantiable q.1.cls q.2 ∈ tables_1 ∧ Cond.privateMethod q.1 ∈ tables_1 ∧ Cond.instanceMethod q.1 ∈ tables_1
/-! names, words, decode rows: written by a program out of the Statement's tables and javap's listing -/
abbrev R_FG : String := "FilterGuard"
abbrev R_Pr : String := "FilterGuard$Program"
abbrev R_Ma : String := "FilterGuard$Maps"
abbrev R_Me : String := "FilterGuard$Memory"
abbrev R_Fo : String := "FilterGuard$Foretold"
abbrev R_Ch : String := "FilterGuard$Checker"
abbrev R_St : String := "FilterGuard$State"
abbrev R_Ra : String := "FilterGuard$Range"
abbrev R_Ru : String := "FilterGuard$Runner"
abbrev R_Mo : String := "FilterGuardModel"
abbrev R_La : String := "FilterGuardLaw"
abbrev R_Ar : String := "java/util/Arrays"
abbrev E_IAE : String := "java/lang/IllegalArgumentException"
abbrev E_ISE : String := "java/lang/IllegalStateException"
abbrev E_IOE : String := "java/lang/IndexOutOfBoundsException"
abbrev E_NSE : String := "java/util/NoSuchElementException"
def F_FG : u_T := fun k => match k with
  | 0 => (R_FG, "program", "LFilterGuard$Program;", true)
  | 1 => (R_FG, "maps", "LFilterGuard$Maps;", true)
  | 2 => (R_FG, "memory", "LFilterGuard$Memory;", true)
  | 3 => (R_FG, "foretold", "LFilterGuard$Foretold;", true)
  | 4 => (R_FG, "checker", "LFilterGuard$Checker;", true)
  | 5 => (R_FG, "runner", "LFilterGuard$Runner;", true)
  | _ => (R_FG, "passed", "Z", false)
def t_FG : Nat → FieldType := fun k => match k with
  | 0 => (.object R_Pr)
  | 1 => (.object R_Ma)
  | 2 => (.object R_Me)
  | 3 => (.object R_Fo)
  | 4 => (.object R_Ch)
  | 5 => (.object R_Ru)
  | _ => .boolean
set_option maxRecDepth 100000 in
theorem n_FG : ∀ a, a < 7 → ∀ b, b < 7 → a ≠ b → (F_FG a).2.1 ≠ (F_FG b).2.1 := by decide +kernel
set_option maxRecDepth 100000 in
theorem t_FG_ok : ∀ k, k < 7 → parseFieldDescriptor (F_FG k).2.2.1 = some (t_FG k) := by decide +kernel
set_option maxRecDepth 100000 in
theorem zz_df_FG : ∀ j, j < 7 → defaultValue (t_FG j) = vp_V [.null, .null, .null, .null, .null, .null, .int 0] j := by decide +kernel
def F_Pr : u_T := fun k => match k with
  | 0 => (R_Pr, "sort", "[I", true)
  | 1 => (R_Pr, "dst", "[I", true)
  | 2 => (R_Pr, "src", "[I", true)
  | 3 => (R_Pr, "off", "[I", true)
  | 4 => (R_Pr, "imm", "[I", true)
  | _ => (R_Pr, "size", "I", false)
def t_Pr : Nat → FieldType := fun k => match k with
  | 0 => (.array .int)
  | 1 => (.array .int)
  | 2 => (.array .int)
  | 3 => (.array .int)
  | 4 => (.array .int)
  | _ => .int
set_option maxRecDepth 100000 in
theorem n_Pr : ∀ a, a < 6 → ∀ b, b < 6 → a ≠ b → (F_Pr a).2.1 ≠ (F_Pr b).2.1 := by decide +kernel
set_option maxRecDepth 100000 in
theorem t_Pr_ok : ∀ k, k < 6 → parseFieldDescriptor (F_Pr k).2.2.1 = some (t_Pr k) := by decide +kernel
set_option maxRecDepth 100000 in
theorem zz_df_Pr : ∀ j, j < 6 → defaultValue (t_Pr j) = vp_V [.null, .null, .null, .null, .null, .int 0] j := by decide +kernel
def F_Ma : u_T := fun k => match k with
  | 0 => (R_Ma, "keyBytes", "[I", true)
  | 1 => (R_Ma, "valueBytes", "[I", true)
  | 2 => (R_Ma, "values", "[B", true)
  | 3 => (R_Ma, "sought", "[B", true)
  | 4 => (R_Ma, "places", "[I", true)
  | 5 => (R_Ma, "taken", "[Z", true)
  | 6 => (R_Ma, "keys", "[B", true)
  | _ => (R_Ma, "size", "I", false)
def t_Ma : Nat → FieldType := fun k => match k with
  | 0 => (.array .int)
  | 1 => (.array .int)
  | 2 => (.array .byte)
  | 3 => (.array .byte)
  | 4 => (.array .int)
  | 5 => (.array .boolean)
  | 6 => (.array .byte)
  | _ => .int
set_option maxRecDepth 100000 in
theorem n_Ma : ∀ a, a < 8 → ∀ b, b < 8 → a ≠ b → (F_Ma a).2.1 ≠ (F_Ma b).2.1 := by decide +kernel
set_option maxRecDepth 100000 in
theorem t_Ma_ok : ∀ k, k < 8 → parseFieldDescriptor (F_Ma k).2.2.1 = some (t_Ma k) := by decide +kernel
set_option maxRecDepth 100000 in
theorem zz_df_Ma : ∀ j, j < 8 → defaultValue (t_Ma j) = vp_V [.null, .null, .null, .null, .null, .null, .null, .int 0] j := by decide +kernel
def F_Me : u_T := fun k => match k with
  | 0 => (R_Me, "maps", "LFilterGuard$Maps;", true)
  | 1 => (R_Me, "packet", "[B", true)
  | 2 => (R_Me, "stack", "[B", true)
  | 3 => (R_Me, "packetLength", "I", false)
  | _ => (R_Me, "strays", "I", false)
def t_Me : Nat → FieldType := fun k => match k with
  | 0 => (.object R_Ma)
  | 1 => (.array .byte)
  | 2 => (.array .byte)
  | 3 => .int
  | _ => .int
set_option maxRecDepth 100000 in
theorem n_Me : ∀ a, a < 5 → ∀ b, b < 5 → a ≠ b → (F_Me a).2.1 ≠ (F_Me b).2.1 := by decide +kernel
set_option maxRecDepth 100000 in
theorem t_Me_ok : ∀ k, k < 5 → parseFieldDescriptor (F_Me k).2.2.1 = some (t_Me k) := by decide +kernel
set_option maxRecDepth 100000 in
theorem zz_df_Me : ∀ j, j < 5 → defaultValue (t_Me j) = vp_V [.null, .null, .null, .int 0, .int 0] j := by decide +kernel
def F_Fo : u_T := fun k => match k with
  | 0 => (R_Fo, "gone", "[I", true)
  | 1 => (R_Fo, "number", "[Z", true)
  | 2 => (R_Fo, "low", "[J", true)
  | _ => (R_Fo, "high", "[J", true)
def t_Fo : Nat → FieldType := fun k => match k with
  | 0 => (.array .int)
  | 1 => (.array .boolean)
  | 2 => (.array .long)
  | _ => (.array .long)
set_option maxRecDepth 100000 in
theorem n_Fo : ∀ a, a < 4 → ∀ b, b < 4 → a ≠ b → (F_Fo a).2.1 ≠ (F_Fo b).2.1 := by decide +kernel
set_option maxRecDepth 100000 in
theorem t_Fo_ok : ∀ k, k < 4 → parseFieldDescriptor (F_Fo k).2.2.1 = some (t_Fo k) := by decide +kernel
set_option maxRecDepth 100000 in
theorem zz_df_Fo : ∀ j, j < 4 → defaultValue (t_Fo j) = vp_V [.null, .null, .null, .null] j := by decide +kernel
def F_Ch : u_T := fun k => match k with
  | 0 => (R_Ch, "program", "LFilterGuard$Program;", true)
  | 1 => (R_Ch, "maps", "LFilterGuard$Maps;", true)
  | 2 => (R_Ch, "foretold", "LFilterGuard$Foretold;", true)
  | 3 => (R_Ch, "now", "LFilterGuard$State;", true)
  | 4 => (R_Ch, "other", "LFilterGuard$State;", true)
  | 5 => (R_Ch, "waiting", "[LFilterGuard$State;", true)
  | 6 => (R_Ch, "x", "LFilterGuard$Range;", true)
  | 7 => (R_Ch, "y", "LFilterGuard$Range;", true)
  | 8 => (R_Ch, "z", "LFilterGuard$Range;", true)
  | 9 => (R_Ch, "waits", "I", false)
  | 10 => (R_Ch, "tags", "I", false)
  | 11 => (R_Ch, "gone", "I", false)
  | 12 => (R_Ch, "fault", "I", false)
  | _ => (R_Ch, "faultAt", "I", false)
def t_Ch : Nat → FieldType := fun k => match k with
  | 0 => (.object R_Pr)
  | 1 => (.object R_Ma)
  | 2 => (.object R_Fo)
  | 3 => (.object R_St)
  | 4 => (.object R_St)
  | 5 => (.array (.object R_St))
  | 6 => (.object R_Ra)
  | 7 => (.object R_Ra)
  | 8 => (.object R_Ra)
  | 9 => .int
  | 10 => .int
  | 11 => .int
  | 12 => .int
  | _ => .int
set_option maxRecDepth 100000 in
theorem n_Ch : ∀ a, a < 14 → ∀ b, b < 14 → a ≠ b → (F_Ch a).2.1 ≠ (F_Ch b).2.1 := by decide +kernel
set_option maxRecDepth 100000 in
theorem t_Ch_ok : ∀ k, k < 14 → parseFieldDescriptor (F_Ch k).2.2.1 = some (t_Ch k) := by decide +kernel
set_option maxRecDepth 100000 in
theorem zz_df_Ch : ∀ j, j < 14 → defaultValue (t_Ch j) = vp_V [.null, .null, .null, .null, .null, .null, .null, .null, .null, .int 0, .int 0, .int 0, .int 0, .int 0] j := by decide +kernel
def F_St : u_T := fun k => match k with
  | 0 => (R_St, "kind", "[I", true)
  | 1 => (R_St, "map", "[I", true)
  | 2 => (R_St, "tag", "[I", true)
  | 3 => (R_St, "low", "[J", true)
  | 4 => (R_St, "high", "[J", true)
  | 5 => (R_St, "data", "[I", true)
  | 6 => (R_St, "length", "I", false)
  | _ => (R_St, "at", "I", false)
def t_St : Nat → FieldType := fun k => match k with
  | 0 => (.array .int)
  | 1 => (.array .int)
  | 2 => (.array .int)
  | 3 => (.array .long)
  | 4 => (.array .long)
  | 5 => (.array .int)
  | 6 => .int
  | _ => .int
set_option maxRecDepth 100000 in
theorem n_St : ∀ a, a < 8 → ∀ b, b < 8 → a ≠ b → (F_St a).2.1 ≠ (F_St b).2.1 := by decide +kernel
set_option maxRecDepth 100000 in
theorem t_St_ok : ∀ k, k < 8 → parseFieldDescriptor (F_St k).2.2.1 = some (t_St k) := by decide +kernel
set_option maxRecDepth 100000 in
theorem zz_df_St : ∀ j, j < 8 → defaultValue (t_St j) = vp_V [.null, .null, .null, .null, .null, .null, .int 0, .int 0] j := by decide +kernel
def F_Ra : u_T := fun k => match k with
  | 0 => (R_Ra, "low", "J", false)
  | _ => (R_Ra, "high", "J", false)
def t_Ra : Nat → FieldType := fun k => match k with
  | 0 => .long
  | _ => .long
set_option maxRecDepth 100000 in
theorem n_Ra : ∀ a, a < 2 → ∀ b, b < 2 → a ≠ b → (F_Ra a).2.1 ≠ (F_Ra b).2.1 := by decide +kernel
set_option maxRecDepth 100000 in
theorem t_Ra_ok : ∀ k, k < 2 → parseFieldDescriptor (F_Ra k).2.2.1 = some (t_Ra k) := by decide +kernel
set_option maxRecDepth 100000 in
theorem zz_df_Ra : ∀ j, j < 2 → defaultValue (t_Ra j) = vp_V [.long 0, .long 0] j := by decide +kernel
def F_Ru : u_T := fun k => match k with
  | 0 => (R_Ru, "program", "LFilterGuard$Program;", true)
  | 1 => (R_Ru, "foretold", "LFilterGuard$Foretold;", true)
  | 2 => (R_Ru, "memory", "LFilterGuard$Memory;", true)
  | 3 => (R_Ru, "register", "[J", true)
  | 4 => (R_Ru, "kind", "[I", true)
  | 5 => (R_Ru, "log", "[J", true)
  | 6 => (R_Ru, "logged", "I", false)
  | 7 => (R_Ru, "done", "I", false)
  | 8 => (R_Ru, "chance", "J", false)
  | 9 => (R_Ru, "at", "I", false)
  | 10 => (R_Ru, "looks", "I", false)
  | _ => (R_Ru, "unforetold", "I", false)
def t_Ru : Nat → FieldType := fun k => match k with
  | 0 => (.object R_Pr)
  | 1 => (.object R_Fo)
  | 2 => (.object R_Me)
  | 3 => (.array .long)
  | 4 => (.array .int)
  | 5 => (.array .long)
  | 6 => .int
  | 7 => .int
  | 8 => .long
  | 9 => .int
  | 10 => .int
  | _ => .int
set_option maxRecDepth 100000 in
theorem n_Ru : ∀ a, a < 12 → ∀ b, b < 12 → a ≠ b → (F_Ru a).2.1 ≠ (F_Ru b).2.1 := by decide +kernel
set_option maxRecDepth 100000 in
theorem t_Ru_ok : ∀ k, k < 12 → parseFieldDescriptor (F_Ru k).2.2.1 = some (t_Ru k) := by decide +kernel
set_option maxRecDepth 100000 in
theorem zz_df_Ru : ∀ j, j < 12 → defaultValue (t_Ru j) = vp_V [.null, .null, .null, .null, .null, .null, .int 0, .int 0, .long 0, .int 0, .int 0, .int 0] j := by decide +kernel
def F_Mo : u_T := fun k => match k with
  | 0 => (R_Mo, "thrown", "I", false)
  | 1 => (R_Mo, "sort", "[I", true)
  | 2 => (R_Mo, "dst", "[I", true)
  | 3 => (R_Mo, "src", "[I", true)
  | 4 => (R_Mo, "off", "[I", true)
  | 5 => (R_Mo, "imm", "[I", true)
  | 6 => (R_Mo, "many", "I", false)
  | 7 => (R_Mo, "passed", "Z", false)
  | 8 => (R_Mo, "keyBytes", "[I", true)
  | 9 => (R_Mo, "valueBytes", "[I", true)
  | 10 => (R_Mo, "places", "[I", true)
  | 11 => (R_Mo, "maps", "I", false)
  | 12 => (R_Mo, "fault", "I", false)
  | 13 => (R_Mo, "faultAt", "I", false)
  | 14 => (R_Mo, "gone", "I", false)
  | 15 => (R_Mo, "kind", "[I", true)
  | 16 => (R_Mo, "mapOf", "[I", true)
  | 17 => (R_Mo, "tag", "[I", true)
  | 18 => (R_Mo, "low", "[J", true)
  | 19 => (R_Mo, "high", "[J", true)
  | 20 => (R_Mo, "stack", "[I", true)
  | 21 => (R_Mo, "length", "[I", true)
  | 22 => (R_Mo, "goesTo", "[I", true)
  | 23 => (R_Mo, "sides", "I", false)
  | 24 => (R_Mo, "tags", "I", false)
  | 25 => (R_Mo, "times", "[I", true)
  | 26 => (R_Mo, "seen", "[I", true)
  | 27 => (R_Mo, "leastLow", "[J", true)
  | 28 => (R_Mo, "mostHigh", "[J", true)
  | 29 => (R_Mo, "a", "J", false)
  | 30 => (R_Mo, "b", "J", false)
  | 31 => (R_Mo, "fits", "Z", false)
  | 32 => (R_Mo, "xl", "J", false)
  | 33 => (R_Mo, "xh", "J", false)
  | 34 => (R_Mo, "yl", "J", false)
  | 35 => (R_Mo, "yh", "J", false)
  | 36 => (R_Mo, "next", "Z", false)
  | 37 => (R_Mo, "other", "Z", false)
  | 38 => (R_Mo, "waits", "I", false)
  | 39 => (R_Mo, "to", "I", false)
  | 40 => (R_Mo, "packet", "[B", true)
  | 41 => (R_Mo, "packetEnd", "I", false)
  | 42 => (R_Mo, "data", "[B", true)
  | 43 => (R_Mo, "full", "[Z", true)
  | 44 => (R_Mo, "seed", "J", false)
  | 45 => (R_Mo, "log", "[J", true)
  | 46 => (R_Mo, "logged", "I", false)
  | 47 => (R_Mo, "done", "I", false)
  | 48 => (R_Mo, "wrong", "I", false)
  | 49 => (R_Mo, "is", "[I", true)
  | 50 => (R_Mo, "ofMap", "[I", true)
  | 51 => (R_Mo, "ofPlace", "[I", true)
  | 52 => (R_Mo, "ofTag", "[I", true)
  | 53 => (R_Mo, "is64", "[J", true)
  | 54 => (R_Mo, "own", "[B", true)
  | _ => (R_Mo, "runTags", "I", false)
def t_Mo : Nat → FieldType := fun k => match k with
  | 0 => .int
  | 1 => (.array .int)
  | 2 => (.array .int)
  | 3 => (.array .int)
  | 4 => (.array .int)
  | 5 => (.array .int)
  | 6 => .int
  | 7 => .boolean
  | 8 => (.array .int)
  | 9 => (.array .int)
  | 10 => (.array .int)
  | 11 => .int
  | 12 => .int
  | 13 => .int
  | 14 => .int
  | 15 => (.array .int)
  | 16 => (.array .int)
  | 17 => (.array .int)
  | 18 => (.array .long)
  | 19 => (.array .long)
  | 20 => (.array .int)
  | 21 => (.array .int)
  | 22 => (.array .int)
  | 23 => .int
  | 24 => .int
  | 25 => (.array .int)
  | 26 => (.array .int)
  | 27 => (.array .long)
  | 28 => (.array .long)
  | 29 => .long
  | 30 => .long
  | 31 => .boolean
  | 32 => .long
  | 33 => .long
  | 34 => .long
  | 35 => .long
  | 36 => .boolean
  | 37 => .boolean
  | 38 => .int
  | 39 => .int
  | 40 => (.array .byte)
  | 41 => .int
  | 42 => (.array .byte)
  | 43 => (.array .boolean)
  | 44 => .long
  | 45 => (.array .long)
  | 46 => .int
  | 47 => .int
  | 48 => .int
  | 49 => (.array .int)
  | 50 => (.array .int)
  | 51 => (.array .int)
  | 52 => (.array .int)
  | 53 => (.array .long)
  | 54 => (.array .byte)
  | _ => .int
set_option maxRecDepth 100000 in
theorem n_Mo : ∀ a, a < 56 → ∀ b, b < 56 → a ≠ b → (F_Mo a).2.1 ≠ (F_Mo b).2.1 := by decide +kernel
set_option maxRecDepth 100000 in
theorem t_Mo_ok : ∀ k, k < 56 → parseFieldDescriptor (F_Mo k).2.2.1 = some (t_Mo k) := by decide +kernel
set_option maxRecDepth 100000 in
theorem zz_df_Mo : ∀ j, j < 56 → defaultValue (t_Mo j) = vp_V [.int 0, .null, .null, .null, .null, .null, .int 0, .int 0, .null, .null, .null, .int 0, .int 0, .int 0, .int 0, .null, .null, .null, .null, .null, .null, .null, .null, .int 0, .int 0, .null, .null, .null, .null, .long 0, .long 0, .int 0, .long 0, .long 0, .long 0, .long 0, .int 0, .int 0, .int 0, .int 0, .null, .int 0, .null, .null, .long 0, .null, .int 0, .int 0, .int 0, .null, .null, .null, .null, .null, .null, .int 0] j := by decide +kernel
abbrev classes : List vw_C := [(R_FG, F_FG, 7), (R_Pr, F_Pr, 6), (R_Ma, F_Ma, 8), (R_Me, F_Me, 5), (R_Fo, F_Fo, 4), (R_Ch, F_Ch, 14), (R_St, F_St, 8), (R_Ra, F_Ra, 2), (R_Ru, F_Ru, 12), (R_Mo, F_Mo, 56)]
abbrev y_FG_within : MethodName := ⟨R_FG, "within", "(III)Z"⟩
abbrev y_Ra_init : MethodName := ⟨R_Ra, "<init>", "()V"⟩
abbrev y_St_init : MethodName := ⟨R_St, "<init>", "()V"⟩
abbrev y_Pr_init : MethodName := ⟨R_Pr, "<init>", "()V"⟩
abbrev y_Ma_init : MethodName := ⟨R_Ma, "<init>", "()V"⟩
abbrev y_Me_init : MethodName := ⟨R_Me, "<init>", "(LFilterGuard$Maps;)V"⟩
abbrev y_Fo_init : MethodName := ⟨R_Fo, "<init>", "()V"⟩
abbrev y_Ru_init : MethodName := ⟨R_Ru, "<init>", "(LFilterGuard$Program;LFilterGuard$Foretold;LFilterGuard$Memory;)V"⟩
abbrev y_Ch_init : MethodName := ⟨R_Ch, "<init>", "(LFilterGuard$Program;LFilterGuard$Maps;LFilterGuard$Foretold;)V"⟩
abbrev y_FG_init : MethodName := ⟨R_FG, "<init>", "()V"⟩
abbrev y_Mo_init : MethodName := ⟨R_Mo, "<init>", "()V"⟩
abbrev y_Ma_append : MethodName := ⟨R_Ma, "append", "(III)I"⟩
abbrev y_FG_map : MethodName := ⟨R_FG, "map", "(III)I"⟩
abbrev y_Pr_append : MethodName := ⟨R_Pr, "append", "(IIIII)I"⟩
abbrev y_FG_add : MethodName := ⟨R_FG, "add", "(IIIII)I"⟩
abbrev y_FG_check : MethodName := ⟨R_FG, "check", "()I"⟩
abbrev y_Ar_fill : MethodName := ⟨R_Ar, "fill", "([BB)V"⟩
abbrev y_Ma_forget : MethodName := ⟨R_Ma, "forget", "()V"⟩
abbrev y_Ch_forget : MethodName := ⟨R_Ch, "forget", "()V"⟩
abbrev y_Ru_forget : MethodName := ⟨R_Ru, "forget", "()V"⟩
abbrev y_FG_clear : MethodName := ⟨R_FG, "clear", "()V"⟩
abbrev y_Me_feedNumber : MethodName := ⟨R_Me, "feedNumber", "(I)V"⟩
abbrev y_FG_feed : MethodName := ⟨R_FG, "feed", "(IIIII)I"⟩
abbrev y_FG_end : MethodName := ⟨R_FG, "end", "(I)I"⟩
abbrev y_FG_seed : MethodName := ⟨R_FG, "seed", "(J)V"⟩
abbrev y_FG_run : MethodName := ⟨R_FG, "run", "()J"⟩
abbrev y_FG_letter : MethodName := ⟨R_FG, "letter", "(I)I"⟩
abbrev y_Ma_has : MethodName := ⟨R_Ma, "has", "(II)Z"⟩
abbrev y_FG_place : MethodName := ⟨R_FG, "place", "(III)I"⟩
abbrev y_FG_log : MethodName := ⟨R_FG, "log", "(I)J"⟩
abbrev y_FG_known : MethodName := ⟨R_FG, "known", "(III)J"⟩
abbrev y_Ru_strays : MethodName := ⟨R_Ru, "strays", "()I"⟩
abbrev y_FG_count : MethodName := ⟨R_FG, "count", "(I)I"⟩
abbrev y_Mo_thrown : MethodName := ⟨R_Mo, "thrown", "()I"⟩
abbrev y_Mo_no : MethodName := ⟨R_Mo, "no", "(I)I"⟩
abbrev y_Mo_map : MethodName := ⟨R_Mo, "map", "(III)I"⟩
abbrev y_Mo_add : MethodName := ⟨R_Mo, "add", "(IIIII)I"⟩
abbrev y_Mo_check : MethodName := ⟨R_Mo, "check", "()I"⟩
abbrev y_Mo_clear : MethodName := ⟨R_Mo, "clear", "()V"⟩
abbrev y_Mo_feed : MethodName := ⟨R_Mo, "feed", "(IIIII)I"⟩
abbrev y_Mo_end : MethodName := ⟨R_Mo, "end", "(I)I"⟩
abbrev y_Mo_seed : MethodName := ⟨R_Mo, "seed", "(J)V"⟩
abbrev y_Mo_run : MethodName := ⟨R_Mo, "run", "()J"⟩
abbrev y_Mo_letter : MethodName := ⟨R_Mo, "letter", "(I)I"⟩
abbrev y_Mo_place : MethodName := ⟨R_Mo, "place", "(III)I"⟩
abbrev y_Mo_log : MethodName := ⟨R_Mo, "log", "(I)J"⟩
abbrev y_Mo_known : MethodName := ⟨R_Mo, "known", "(III)J"⟩
abbrev y_Mo_count : MethodName := ⟨R_Mo, "count", "(I)I"⟩
abbrev y_La_map : MethodName := ⟨R_La, "map", "(LFilterGuard;III[J)I"⟩
abbrev y_La_add : MethodName := ⟨R_La, "add", "(LFilterGuard;IIIII[J)I"⟩
abbrev y_La_check : MethodName := ⟨R_La, "check", "(LFilterGuard;[J)I"⟩
abbrev y_La_feed : MethodName := ⟨R_La, "feed", "(LFilterGuard;IIIII[J)I"⟩
abbrev y_La_end : MethodName := ⟨R_La, "end", "(LFilterGuard;I[J)I"⟩
abbrev y_La_run : MethodName := ⟨R_La, "run", "(LFilterGuard;[J)I"⟩
abbrev y_La_letter : MethodName := ⟨R_La, "letter", "(LFilterGuard;I[J)I"⟩
abbrev y_La_place : MethodName := ⟨R_La, "place", "(LFilterGuard;III[J)I"⟩
abbrev y_La_log : MethodName := ⟨R_La, "log", "(LFilterGuard;I[J)I"⟩
abbrev y_La_known : MethodName := ⟨R_La, "known", "(LFilterGuard;III[J)I"⟩
set_option maxRecDepth 1000000 in
theorem lw_p0 : lw_okq (y_Mo_no, 56) := ⟨⟨by decide +kernel, by decide +kernel⟩, List.mem_of_getElem? (i := 1092) rfl, List.mem_of_getElem? (i := 1275) rfl, List.mem_of_getElem? (i := 1276) rfl⟩
def lw_privs : List (MethodName × Nat) := [(y_Mo_no, 56)]
theorem lw_privs_ok : ∀ q ∈ lw_privs, lw_okq q := by
  intro q hq
  simp only [lw_privs, List.mem_cons, List.not_mem_nil, or_false] at hq
  rcases hq with rfl
  exact lw_p0
def lw_tbl : List Cond := k2_sels lw_privs ++ tables_1
/-- the words that every contract takes along -/
def zz_W1_0 : List Cond := [.initialized R_La, .initialized R_FG, .initialized R_Pr, .initialized R_Ma, .initialized R_Me, .initialized R_Fo, .initialized R_Ch, .initialized R_St, .initialized R_Ra, .initialized R_Ru, .initialized R_Mo, .initialized "java/lang/Throwable", .initialized "java/lang/Exception", .initialized "java/lang/RuntimeException", .initialized "java/lang/IllegalArgumentException", .initialized "java/lang/IllegalStateException", .initialized R_Ar, .initialized "java/lang/IndexOutOfBoundsException", .initialized "java/util/NoSuchElementException", .classLink R_La 8 R_FG, .instantiable R_FG 7, .methodLink R_La 54 y_FG_init, .instanceMethod y_FG_init, .code y_FG_init prog_1_method_1_code 1 none, .methodLink R_FG 3 (⟨"java/lang/Object", "<init>", "()V"⟩ : MethodName), .instanceMethod (⟨"java/lang/Object", "<init>", "()V"⟩ : MethodName), .code (⟨"java/lang/Object", "<init>", "()V"⟩ : MethodName) object_method_1_code 1 none, .classLink R_FG 9 R_Pr, .instantiable R_Pr 6, .instanceMethod y_Pr_init, .code y_Pr_init prog_7_method_1_code 1 none, .methodLink R_Pr 3 (⟨"java/lang/Object", "<init>", "()V"⟩ : MethodName), .fieldLink R_Pr 9 R_Pr "sort" "[I", .fieldLink R_Pr 15 R_Pr "dst" "[I", .fieldLink R_Pr 18 R_Pr "src" "[I", .fieldLink R_Pr 21 R_Pr "off" "[I", .fieldLink R_Pr 24 R_Pr "imm" "[I", .fieldLink R_Pr 27 R_Pr "size" "I", .fieldLink R_FG 85 R_Pr "size" "I", .laysFinal R_Pr R_Pr "sort" "[I", .laysFinal R_Pr R_Pr "dst" "[I", .laysFinal R_Pr R_Pr "src" "[I", .laysFinal R_Pr R_Pr "off" "[I", .laysFinal R_Pr R_Pr "imm" "[I", .lays R_Pr R_Pr "size" "I", .arrayClass .int, .classLink R_FG 16 R_Ma, .instantiable R_Ma 8, .instanceMethod y_Ma_init, .code y_Ma_init prog_5_method_1_code 1 none]
def zz_W1_1 : List Cond := [.methodLink R_Ma 3 (⟨"java/lang/Object", "<init>", "()V"⟩ : MethodName), .fieldLink R_Ma 9 R_Ma "keyBytes" "[I", .fieldLink R_Ma 15 R_Ma "valueBytes" "[I", .fieldLink R_Ma 18 R_Ma "values" "[B", .fieldLink R_Ma 22 R_Ma "sought" "[B", .fieldLink R_Ma 25 R_Ma "places" "[I", .fieldLink R_Ma 28 R_Ma "taken" "[Z", .fieldLink R_Ma 32 R_Ma "keys" "[B", .fieldLink R_Ma 35 R_Ma "size" "I", .fieldLink R_FG 72 R_Ma "size" "I", .laysFinal R_Ma R_Ma "keyBytes" "[I", .laysFinal R_Ma R_Ma "valueBytes" "[I", .laysFinal R_Ma R_Ma "values" "[B", .laysFinal R_Ma R_Ma "sought" "[B", .laysFinal R_Ma R_Ma "places" "[I", .laysFinal R_Ma R_Ma "taken" "[Z", .laysFinal R_Ma R_Ma "keys" "[B", .lays R_Ma R_Ma "size" "I", .arrayClass .byte, .arrayClass .boolean, .classLink R_FG 23 R_Me, .instantiable R_Me 5, .methodLink R_FG 25 y_Me_init, .instanceMethod y_Me_init, .code y_Me_init prog_6_method_1_code 2 none, .methodLink R_Me 3 (⟨"java/lang/Object", "<init>", "()V"⟩ : MethodName), .fieldLink R_Me 18 R_Me "maps" "LFilterGuard$Maps;", .fieldLink R_Me 9 R_Me "packet" "[B", .fieldLink R_Me 15 R_Me "stack" "[B", .fieldLink R_Me 22 R_Me "packetLength" "I", .fieldLink R_FG 102 R_Me "packetLength" "I", .fieldLink R_Ru 44 R_Me "strays" "I", .laysFinal R_Me R_Me "maps" "LFilterGuard$Maps;", .laysFinal R_Me R_Me "packet" "[B", .laysFinal R_Me R_Me "stack" "[B", .lays R_Me R_Me "packetLength" "I", .lays R_Me R_Me "strays" "I", .classLink R_FG 32 R_Fo, .instantiable R_Fo 4, .instanceMethod y_Fo_init, .code y_Fo_init prog_4_method_1_code 1 none, .methodLink R_Fo 3 (⟨"java/lang/Object", "<init>", "()V"⟩ : MethodName), .fieldLink R_Fo 9 R_Fo "gone" "[I", .fieldLink R_Fo 15 R_Fo "number" "[Z", .fieldLink R_Fo 19 R_Fo "low" "[J", .fieldLink R_Fo 23 R_Fo "high" "[J", .laysFinal R_Fo R_Fo "gone" "[I", .laysFinal R_Fo R_Fo "number" "[Z", .laysFinal R_Fo R_Fo "low" "[J", .laysFinal R_Fo R_Fo "high" "[J"]
def zz_W1_2 : List Cond := [.arrayClass .long, .classLink R_FG 39 R_Ch, .instantiable R_Ch 14, .methodLink R_FG 41 y_Ch_init, .instanceMethod y_Ch_init, .code y_Ch_init prog_3_method_1_code 5 none, .methodLink R_Ch 3 (⟨"java/lang/Object", "<init>", "()V"⟩ : MethodName), .classLink R_Ch 9 R_St, .instantiable R_St 8, .instanceMethod y_St_init, .code y_St_init prog_12_method_1_code 1 none, .methodLink R_St 3 (⟨"java/lang/Object", "<init>", "()V"⟩ : MethodName), .fieldLink R_St 9 R_St "kind" "[I", .fieldLink R_St 15 R_St "map" "[I", .fieldLink R_St 18 R_St "tag" "[I", .fieldLink R_St 21 R_St "low" "[J", .fieldLink R_St 25 R_St "high" "[J", .fieldLink R_St 28 R_St "data" "[I", .laysFinal R_St R_St "kind" "[I", .laysFinal R_St R_St "map" "[I", .laysFinal R_St R_St "tag" "[I", .laysFinal R_St R_St "low" "[J", .laysFinal R_St R_St "high" "[J", .laysFinal R_St R_St "data" "[I", .lays R_St R_St "length" "I", .lays R_St R_St "at" "I", .classLink R_Ch 25 R_Ra, .instantiable R_Ra 2, .instanceMethod y_Ra_init, .code y_Ra_init prog_8_method_1_code 1 none, .methodLink R_Ra 3 (⟨"java/lang/Object", "<init>", "()V"⟩ : MethodName), .lays R_Ra R_Ra "low" "J", .lays R_Ra R_Ra "high" "J", .fieldLink R_Ch 38 R_Ch "program" "LFilterGuard$Program;", .fieldLink R_Ch 42 R_Ch "maps" "LFilterGuard$Maps;", .fieldLink R_Ch 46 R_Ch "foretold" "LFilterGuard$Foretold;", .fieldLink R_Ch 12 R_Ch "now" "LFilterGuard$State;", .fieldLink R_Ch 18 R_Ch "other" "LFilterGuard$State;", .fieldLink R_Ch 21 R_Ch "waiting" "[LFilterGuard$State;", .fieldLink R_Ch 28 R_Ch "x" "LFilterGuard$Range;", .fieldLink R_Ch 32 R_Ch "y" "LFilterGuard$Range;", .fieldLink R_Ch 35 R_Ch "z" "LFilterGuard$Range;", .fieldLink R_Ch 54 R_Ch "gone" "I", .fieldLink R_FG 177 R_Ch "gone" "I", .fieldLink R_Ch 57 R_Ch "fault" "I", .fieldLink R_FG 171 R_Ch "fault" "I", .fieldLink R_Ch 50 R_Ch "faultAt" "I", .fieldLink R_FG 174 R_Ch "faultAt" "I", .laysFinal R_Ch R_Ch "program" "LFilterGuard$Program;", .laysFinal R_Ch R_Ch "maps" "LFilterGuard$Maps;"]
def zz_W1_3 : List Cond := [.laysFinal R_Ch R_Ch "foretold" "LFilterGuard$Foretold;", .laysFinal R_Ch R_Ch "now" "LFilterGuard$State;", .laysFinal R_Ch R_Ch "other" "LFilterGuard$State;", .laysFinal R_Ch R_Ch "waiting" "[LFilterGuard$State;", .laysFinal R_Ch R_Ch "x" "LFilterGuard$Range;", .laysFinal R_Ch R_Ch "y" "LFilterGuard$Range;", .laysFinal R_Ch R_Ch "z" "LFilterGuard$Range;", .lays R_Ch R_Ch "waits" "I", .lays R_Ch R_Ch "tags" "I", .lays R_Ch R_Ch "gone" "I", .lays R_Ch R_Ch "fault" "I", .lays R_Ch R_Ch "faultAt" "I", .classLink R_FG 48 R_Ru, .instantiable R_Ru 12, .methodLink R_FG 50 y_Ru_init, .instanceMethod y_Ru_init, .code y_Ru_init prog_10_method_1_code 4 none, .methodLink R_Ru 3 (⟨"java/lang/Object", "<init>", "()V"⟩ : MethodName), .fieldLink R_Ru 22 R_Ru "program" "LFilterGuard$Program;", .fieldLink R_Ru 26 R_Ru "foretold" "LFilterGuard$Foretold;", .fieldLink R_Ru 30 R_Ru "memory" "LFilterGuard$Memory;", .fieldLink R_Ru 9 R_Ru "register" "[J", .fieldLink R_Ru 15 R_Ru "kind" "[I", .fieldLink R_Ru 19 R_Ru "log" "[J", .fieldLink R_Ru 34 R_Ru "logged" "I", .fieldLink R_FG 151 R_Ru "logged" "I", .fieldLink R_Ru 38 R_Ru "done" "I", .fieldLink R_FG 180 R_Ru "done" "I", .fieldLink R_FG 116 R_Ru "chance" "J", .fieldLink R_Ru 41 R_Ru "unforetold" "I", .laysFinal R_Ru R_Ru "program" "LFilterGuard$Program;", .laysFinal R_Ru R_Ru "foretold" "LFilterGuard$Foretold;", .laysFinal R_Ru R_Ru "memory" "LFilterGuard$Memory;", .laysFinal R_Ru R_Ru "register" "[J", .laysFinal R_Ru R_Ru "kind" "[I", .laysFinal R_Ru R_Ru "log" "[J", .lays R_Ru R_Ru "logged" "I", .lays R_Ru R_Ru "done" "I", .lays R_Ru R_Ru "chance" "J", .lays R_Ru R_Ru "at" "I", .lays R_Ru R_Ru "looks" "I", .lays R_Ru R_Ru "unforetold" "I", .fieldLink R_FG 12 R_FG "program" "LFilterGuard$Program;", .fieldLink R_FG 19 R_FG "maps" "LFilterGuard$Maps;", .fieldLink R_FG 28 R_FG "memory" "LFilterGuard$Memory;", .fieldLink R_FG 35 R_FG "foretold" "LFilterGuard$Foretold;", .fieldLink R_FG 44 R_FG "checker" "LFilterGuard$Checker;", .fieldLink R_FG 53 R_FG "runner" "LFilterGuard$Runner;", .fieldLink R_FG 57 R_FG "passed" "Z", .laysFinal R_FG R_FG "program" "LFilterGuard$Program;"]
def zz_W1_4 : List Cond := [.laysFinal R_FG R_FG "maps" "LFilterGuard$Maps;", .laysFinal R_FG R_FG "memory" "LFilterGuard$Memory;", .laysFinal R_FG R_FG "foretold" "LFilterGuard$Foretold;", .laysFinal R_FG R_FG "checker" "LFilterGuard$Checker;", .laysFinal R_FG R_FG "runner" "LFilterGuard$Runner;", .lays R_FG R_FG "passed" "Z", .methodLink R_La 75 y_FG_clear, .instanceMethod y_FG_clear, .selects R_FG y_FG_clear y_FG_clear, .code y_FG_clear prog_1_method_5_code 1 none, .methodLink R_FG 97 y_Ma_forget, .instanceMethod y_Ma_forget, .selects R_Ma y_Ma_forget y_Ma_forget, .code y_Ma_forget prog_5_method_3_code 2 none, .methodLink R_Ma 39 y_Ar_fill, .static y_Ar_fill, .code y_Ar_fill prog_27_method_109_code 4 none, .methodLink R_FG 100 y_Ch_forget, .instanceMethod y_Ch_forget, .selects R_Ch y_Ch_forget y_Ch_forget, .code y_Ch_forget prog_3_method_2_code 1 none, .methodLink R_FG 101 y_Ru_forget, .instanceMethod y_Ru_forget, .selects R_Ru y_Ru_forget y_Ru_forget, .code y_Ru_forget prog_10_method_2_code 1 none, .methodLink R_La 88 y_FG_seed, .instanceMethod y_FG_seed, .selects R_FG y_FG_seed y_FG_seed, .code y_FG_seed prog_1_method_8_code 3 none, .methodLink R_La 108 y_FG_count, .instanceMethod y_FG_count, .selects R_FG y_FG_count y_FG_count, .code y_FG_count prog_1_method_14_code 2 (some .int), .methodLink R_FG 183 y_Ru_strays, .instanceMethod y_Ru_strays, .selects R_Ru y_Ru_strays y_Ru_strays, .code y_Ru_strays prog_10_method_3_code 1 (some .int), .methodLink R_La 58 y_La_map, .static y_La_map, .codeWith y_La_map method_3_code 6 (some .int) [(0, 12, 15, 13), (0, 12, 19, 15)], .classLink R_La 13 "java/lang/IllegalArgumentException", .classLink R_La 15 "java/lang/IllegalStateException", .methodLink R_La 7 y_FG_map, .instanceMethod y_FG_map, .selects R_FG y_FG_map y_FG_map, .code y_FG_map prog_1_method_2_code 4 (some .int), .methodLink R_FG 61 y_FG_within, .static y_FG_within, .code y_FG_within prog_1_method_15_code 3 (some .boolean), .classLink R_FG 65 "java/lang/IllegalArgumentException"]
def zz_W1_5 : List Cond := [.instantiable "java/lang/IllegalArgumentException" 6, .selects "java/lang/IllegalArgumentException" (⟨"java/lang/Throwable", "fillInStackTrace", "(I)Ljava/lang/Throwable;"⟩ : MethodName) (⟨"java/lang/Throwable", "fillInStackTrace", "(I)Ljava/lang/Throwable;"⟩ : MethodName), .selects "java/lang/IllegalArgumentException" (⟨"java/lang/Throwable", "fillInStackTrace", "()Ljava/lang/Throwable;"⟩ : MethodName) (⟨"java/lang/Throwable", "fillInStackTrace", "()Ljava/lang/Throwable;"⟩ : MethodName), .lays "java/lang/IllegalArgumentException" "java/lang/Throwable" "cause" "Ljava/lang/Throwable;", .lays "java/lang/Throwable" "java/lang/Throwable" "cause" "Ljava/lang/Throwable;", .lays "java/lang/IllegalArgumentException" "java/lang/Throwable" "stackTrace" "[Ljava/lang/StackTraceElement;", .lays "java/lang/Throwable" "java/lang/Throwable" "stackTrace" "[Ljava/lang/StackTraceElement;", .lays "java/lang/IllegalArgumentException" "java/lang/Throwable" "suppressedExceptions" "Ljava/util/List;", .lays "java/lang/Throwable" "java/lang/Throwable" "suppressedExceptions" "Ljava/util/List;", .lays "java/lang/IllegalArgumentException" "java/lang/Throwable" "detailMessage" "Ljava/lang/String;", .lays "java/lang/Throwable" "java/lang/Throwable" "detailMessage" "Ljava/lang/String;", .lays "java/lang/IllegalArgumentException" "java/lang/Throwable" "backtrace" "Ljava/lang/Object;", .lays "java/lang/Throwable" "java/lang/Throwable" "backtrace" "Ljava/lang/Object;", .fieldLink "java/lang/Throwable" 198 "java/lang/Throwable" "backtrace" "Ljava/lang/Object;", .superclass "java/lang/Throwable" "java/lang/Object", .instanceMethod (⟨"java/lang/Throwable", "<init>", "()V"⟩ : MethodName), .code (⟨"java/lang/Throwable", "<init>", "()V"⟩ : MethodName) prog_26_method_1_code 1 none, .methodLink "java/lang/Throwable" 1 (⟨"java/lang/Object", "<init>", "()V"⟩ : MethodName), .fieldLink "java/lang/Throwable" 13 "java/lang/Throwable" "UNASSIGNED_STACK" "[Ljava/lang/StackTraceElement;", .fieldLink "java/lang/Throwable" 20 "java/lang/Throwable" "SUPPRESSED_SENTINEL" "Ljava/util/List;", .methodLink "java/lang/Throwable" 27 (⟨"java/lang/Throwable", "fillInStackTrace", "()Ljava/lang/Throwable;"⟩ : MethodName), .instanceMethod (⟨"java/lang/Throwable", "fillInStackTrace", "()Ljava/lang/Throwable;"⟩ : MethodName), .selects "java/lang/IllegalStateException" (⟨"java/lang/Throwable", "fillInStackTrace", "()Ljava/lang/Throwable;"⟩ : MethodName) (⟨"java/lang/Throwable", "fillInStackTrace", "()Ljava/lang/Throwable;"⟩ : MethodName), .selects "java/lang/IndexOutOfBoundsException" (⟨"java/lang/Throwable", "fillInStackTrace", "()Ljava/lang/Throwable;"⟩ : MethodName) (⟨"java/lang/Throwable", "fillInStackTrace", "()Ljava/lang/Throwable;"⟩ : MethodName), .selects "java/util/NoSuchElementException" (⟨"java/lang/Throwable", "fillInStackTrace", "()Ljava/lang/Throwable;"⟩ : MethodName) (⟨"java/lang/Throwable", "fillInStackTrace", "()Ljava/lang/Throwable;"⟩ : MethodName), .codeSync (⟨"java/lang/Throwable", "fillInStackTrace", "()Ljava/lang/Throwable;"⟩ : MethodName) prog_26_method_18_code 1 (some (.object "java/lang/Throwable")), .methodLink "java/lang/Throwable" 202 (⟨"java/lang/Throwable", "fillInStackTrace", "(I)Ljava/lang/Throwable;"⟩ : MethodName), .instanceMethod (⟨"java/lang/Throwable", "fillInStackTrace", "(I)Ljava/lang/Throwable;"⟩ : MethodName), .instantiable "java/lang/Throwable" 6, .native (⟨"java/lang/Throwable", "fillInStackTrace", "(I)Ljava/lang/Throwable;"⟩ : MethodName), .methodLink R_FG 69 (⟨"java/lang/IllegalArgumentException", "<init>", "(Ljava/lang/String;)V"⟩ : MethodName), .instanceMethod (⟨"java/lang/IllegalArgumentException", "<init>", "(Ljava/lang/String;)V"⟩ : MethodName), .code (⟨"java/lang/IllegalArgumentException", "<init>", "(Ljava/lang/String;)V"⟩ : MethodName) prog_17_method_2_code 2 none, .methodLink "java/lang/IllegalArgumentException" 7 (⟨"java/lang/RuntimeException", "<init>", "(Ljava/lang/String;)V"⟩ : MethodName), .instanceMethod (⟨"java/lang/RuntimeException", "<init>", "(Ljava/lang/String;)V"⟩ : MethodName), .code (⟨"java/lang/RuntimeException", "<init>", "(Ljava/lang/String;)V"⟩ : MethodName) prog_23_method_2_code 2 none, .methodLink "java/lang/RuntimeException" 7 (⟨"java/lang/Exception", "<init>", "(Ljava/lang/String;)V"⟩ : MethodName), .instanceMethod (⟨"java/lang/Exception", "<init>", "(Ljava/lang/String;)V"⟩ : MethodName), .code (⟨"java/lang/Exception", "<init>", "(Ljava/lang/String;)V"⟩ : MethodName) prog_16_method_2_code 2 none, .methodLink "java/lang/Exception" 7 (⟨"java/lang/Throwable", "<init>", "(Ljava/lang/String;)V"⟩ : MethodName), .instanceMethod (⟨"java/lang/Throwable", "<init>", "(Ljava/lang/String;)V"⟩ : MethodName), .code (⟨"java/lang/Throwable", "<init>", "(Ljava/lang/String;)V"⟩ : MethodName) prog_26_method_2_code 2 none, .fieldLink "java/lang/Throwable" 198 "java/lang/Throwable" "backtrace" "Ljava/lang/Object;", .fieldLink "java/lang/Throwable" 31 "java/lang/Throwable" "detailMessage" "Ljava/lang/String;", .fieldLink "java/lang/Throwable" 7 "java/lang/Throwable" "cause" "Ljava/lang/Throwable;", .fieldLink "java/lang/Throwable" 17 "java/lang/Throwable" "stackTrace" "[Ljava/lang/StackTraceElement;", .fieldLink "java/lang/Throwable" 24 "java/lang/Throwable" "suppressedExceptions" "Ljava/util/List;", .superclass "java/lang/IllegalArgumentException" "java/lang/RuntimeException", .classLink R_FG 76 "java/lang/IllegalStateException", .instantiable "java/lang/IllegalStateException" 6]
def zz_W1_6 : List Cond := [.selects "java/lang/IllegalStateException" (⟨"java/lang/Throwable", "fillInStackTrace", "(I)Ljava/lang/Throwable;"⟩ : MethodName) (⟨"java/lang/Throwable", "fillInStackTrace", "(I)Ljava/lang/Throwable;"⟩ : MethodName), .lays "java/lang/IllegalStateException" "java/lang/Throwable" "cause" "Ljava/lang/Throwable;", .lays "java/lang/IllegalStateException" "java/lang/Throwable" "stackTrace" "[Ljava/lang/StackTraceElement;", .lays "java/lang/IllegalStateException" "java/lang/Throwable" "suppressedExceptions" "Ljava/util/List;", .lays "java/lang/IllegalStateException" "java/lang/Throwable" "detailMessage" "Ljava/lang/String;", .lays "java/lang/IllegalStateException" "java/lang/Throwable" "backtrace" "Ljava/lang/Object;", .methodLink R_FG 80 (⟨"java/lang/IllegalStateException", "<init>", "(Ljava/lang/String;)V"⟩ : MethodName), .instanceMethod (⟨"java/lang/IllegalStateException", "<init>", "(Ljava/lang/String;)V"⟩ : MethodName), .code (⟨"java/lang/IllegalStateException", "<init>", "(Ljava/lang/String;)V"⟩ : MethodName) prog_18_method_2_code 2 none, .methodLink "java/lang/IllegalStateException" 7 (⟨"java/lang/RuntimeException", "<init>", "(Ljava/lang/String;)V"⟩ : MethodName), .superclass "java/lang/IllegalStateException" "java/lang/RuntimeException", .methodLink R_FG 81 y_Ma_append, .instanceMethod y_Ma_append, .selects R_Ma y_Ma_append y_Ma_append, .code y_Ma_append prog_5_method_2_code 4 (some .int), .methodLink R_La 67 y_La_add, .static y_La_add, .codeWith y_La_add method_4_code 8 (some .int) [(0, 16, 19, 15)], .methodLink R_La 17 y_FG_add, .instanceMethod y_FG_add, .selects R_FG y_FG_add y_FG_add, .code y_FG_add prog_1_method_3_code 6 (some .int), .methodLink R_FG 88 y_Pr_append, .instanceMethod y_Pr_append, .selects R_Pr y_Pr_append y_Pr_append, .code y_Pr_append prog_7_method_2_code 6 (some .int), .methodLink R_La 71 y_La_check, .static y_La_check, .codeWith y_La_check method_5_code 3 (some .int) [(0, 8, 11, 15)], .methodLink R_La 21 y_FG_check, .instanceMethod y_FG_check, .selects R_FG y_FG_check y_FG_check, .code y_FG_check prog_1_method_4_code 2 (some .int), .methodLink R_La 79 y_La_feed, .static y_La_feed, .codeWith y_La_feed method_6_code 8 (some .int) [(0, 16, 19, 28)], .classLink R_La 28 "java/lang/IndexOutOfBoundsException", .methodLink R_La 25 y_FG_feed, .instanceMethod y_FG_feed, .selects R_FG y_FG_feed y_FG_feed, .code y_FG_feed prog_1_method_6_code 6 (some .int), .classLink R_FG 105 "java/lang/IndexOutOfBoundsException", .instantiable "java/lang/IndexOutOfBoundsException" 6, .selects "java/lang/IndexOutOfBoundsException" (⟨"java/lang/Throwable", "fillInStackTrace", "(I)Ljava/lang/Throwable;"⟩ : MethodName) (⟨"java/lang/Throwable", "fillInStackTrace", "(I)Ljava/lang/Throwable;"⟩ : MethodName), .lays "java/lang/IndexOutOfBoundsException" "java/lang/Throwable" "cause" "Ljava/lang/Throwable;", .lays "java/lang/IndexOutOfBoundsException" "java/lang/Throwable" "stackTrace" "[Ljava/lang/StackTraceElement;", .lays "java/lang/IndexOutOfBoundsException" "java/lang/Throwable" "suppressedExceptions" "Ljava/util/List;", .lays "java/lang/IndexOutOfBoundsException" "java/lang/Throwable" "detailMessage" "Ljava/lang/String;", .lays "java/lang/IndexOutOfBoundsException" "java/lang/Throwable" "backtrace" "Ljava/lang/Object;", .methodLink R_FG 109 (⟨"java/lang/IndexOutOfBoundsException", "<init>", "(Ljava/lang/String;)V"⟩ : MethodName)]
def zz_W1_7 : List Cond := [.instanceMethod (⟨"java/lang/IndexOutOfBoundsException", "<init>", "(Ljava/lang/String;)V"⟩ : MethodName), .code (⟨"java/lang/IndexOutOfBoundsException", "<init>", "(Ljava/lang/String;)V"⟩ : MethodName) prog_19_method_2_code 2 none, .methodLink "java/lang/IndexOutOfBoundsException" 7 (⟨"java/lang/RuntimeException", "<init>", "(Ljava/lang/String;)V"⟩ : MethodName), .superclass "java/lang/IndexOutOfBoundsException" "java/lang/RuntimeException", .methodLink R_FG 110 y_Me_feedNumber, .instanceMethod y_Me_feedNumber, .selects R_Me y_Me_feedNumber y_Me_feedNumber, .code y_Me_feedNumber prog_6_method_2_code 3 none, .methodLink R_La 82 y_La_end, .static y_La_end, .codeWith y_La_end method_7_code 4 (some .int) [(0, 9, 12, 13)], .methodLink R_La 30 y_FG_end, .instanceMethod y_FG_end, .selects R_FG y_FG_end y_FG_end, .code y_FG_end prog_1_method_7_code 2 (some .int), .methodLink R_La 93 y_La_run, .static y_La_run, .codeWith y_La_run method_8_code 3 (some .int) [(0, 7, 10, 15)], .methodLink R_La 34 y_FG_run, .instanceMethod y_FG_run, .selects R_FG y_FG_run y_FG_run, .code y_FG_run prog_1_method_9_code 1 (some .long), .methodLink R_La 96 y_La_letter, .static y_La_letter, .codeWith y_La_letter method_9_code 4 (some .int) [(0, 9, 12, 41)], .classLink R_La 41 "java/util/NoSuchElementException", .methodLink R_La 38 y_FG_letter, .instanceMethod y_FG_letter, .selects R_FG y_FG_letter y_FG_letter, .code y_FG_letter prog_1_method_10_code 2 (some .int), .classLink R_FG 126 "java/util/NoSuchElementException", .instantiable "java/util/NoSuchElementException" 6, .selects "java/util/NoSuchElementException" (⟨"java/lang/Throwable", "fillInStackTrace", "(I)Ljava/lang/Throwable;"⟩ : MethodName) (⟨"java/lang/Throwable", "fillInStackTrace", "(I)Ljava/lang/Throwable;"⟩ : MethodName), .lays "java/util/NoSuchElementException" "java/lang/Throwable" "cause" "Ljava/lang/Throwable;", .lays "java/util/NoSuchElementException" "java/lang/Throwable" "stackTrace" "[Ljava/lang/StackTraceElement;", .lays "java/util/NoSuchElementException" "java/lang/Throwable" "suppressedExceptions" "Ljava/util/List;", .lays "java/util/NoSuchElementException" "java/lang/Throwable" "detailMessage" "Ljava/lang/String;", .lays "java/util/NoSuchElementException" "java/lang/Throwable" "backtrace" "Ljava/lang/Object;", .methodLink R_FG 130 (⟨"java/util/NoSuchElementException", "<init>", "(Ljava/lang/String;)V"⟩ : MethodName), .instanceMethod (⟨"java/util/NoSuchElementException", "<init>", "(Ljava/lang/String;)V"⟩ : MethodName), .code (⟨"java/util/NoSuchElementException", "<init>", "(Ljava/lang/String;)V"⟩ : MethodName) prog_28_method_4_code 2 none, .methodLink "java/util/NoSuchElementException" 13 (⟨"java/lang/RuntimeException", "<init>", "(Ljava/lang/String;)V"⟩ : MethodName), .superclass "java/util/NoSuchElementException" "java/lang/RuntimeException", .methodLink R_La 99 y_La_place, .static y_La_place, .codeWith y_La_place method_10_code 6 (some .int) [(0, 12, 15, 41)], .methodLink R_La 43 y_FG_place, .instanceMethod y_FG_place, .selects R_FG y_FG_place y_FG_place, .code y_FG_place prog_1_method_11_code 4 (some .int)]
def zz_W1_8 : List Cond := [.methodLink R_FG 135 y_Ma_has, .instanceMethod y_Ma_has, .selects R_Ma y_Ma_has y_Ma_has, .code y_Ma_has prog_5_method_4_code 3 (some .boolean), .methodLink R_La 102 y_La_log, .static y_La_log, .codeWith y_La_log method_11_code 4 (some .int) [(0, 8, 11, 41)], .methodLink R_La 46 y_FG_log, .instanceMethod y_FG_log, .selects R_FG y_FG_log y_FG_log, .code y_FG_log prog_1_method_12_code 2 (some .long), .methodLink R_La 105 y_La_known, .static y_La_known, .codeWith y_La_known method_12_code 6 (some .int) [(0, 11, 14, 13), (0, 11, 18, 41)], .methodLink R_La 50 y_FG_known, .instanceMethod y_FG_known, .selects R_FG y_FG_known y_FG_known, .code y_FG_known prog_1_method_13_code 4 (some .long), .classLink R_La 55 R_Mo, .instantiable R_Mo 56, .methodLink R_La 57 y_Mo_init, .instanceMethod y_Mo_init, .code y_Mo_init prog_14_method_1_code 1 none, .methodLink R_Mo 5 (⟨"java/lang/Object", "<init>", "()V"⟩ : MethodName), .fieldLink R_Mo 109 R_Mo "thrown" "I", .fieldLink R_Mo 11 R_Mo "sort" "[I", .fieldLink R_Mo 15 R_Mo "dst" "[I", .fieldLink R_Mo 18 R_Mo "src" "[I", .fieldLink R_Mo 21 R_Mo "off" "[I", .fieldLink R_Mo 24 R_Mo "imm" "[I", .fieldLink R_Mo 123 R_Mo "many" "I", .fieldLink R_Mo 119 R_Mo "passed" "Z", .fieldLink R_Mo 27 R_Mo "keyBytes" "[I", .fieldLink R_Mo 30 R_Mo "valueBytes" "[I", .fieldLink R_Mo 33 R_Mo "places" "[I", .fieldLink R_Mo 116 R_Mo "maps" "I", .fieldLink R_Mo 339 R_Mo "fault" "I", .fieldLink R_Mo 36 R_Mo "faultAt" "I", .fieldLink R_Mo 342 R_Mo "gone" "I", .fieldLink R_Mo 40 R_Mo "kind" "[I", .fieldLink R_Mo 43 R_Mo "mapOf" "[I", .fieldLink R_Mo 46 R_Mo "tag" "[I", .fieldLink R_Mo 49 R_Mo "low" "[J", .fieldLink R_Mo 53 R_Mo "high" "[J", .fieldLink R_Mo 56 R_Mo "stack" "[I", .fieldLink R_Mo 59 R_Mo "length" "[I", .fieldLink R_Mo 62 R_Mo "goesTo" "[I", .fieldLink R_Mo 65 R_Mo "times" "[I", .fieldLink R_Mo 68 R_Mo "seen" "[I", .fieldLink R_Mo 71 R_Mo "leastLow" "[J"]
def zz_W1_9 : List Cond := [.fieldLink R_Mo 74 R_Mo "mostHigh" "[J", .fieldLink R_Mo 77 R_Mo "packet" "[B", .fieldLink R_Mo 390 R_Mo "packetEnd" "I", .fieldLink R_Mo 81 R_Mo "data" "[B", .fieldLink R_Mo 84 R_Mo "full" "[Z", .fieldLink R_Mo 434 R_Mo "seed" "J", .fieldLink R_Mo 88 R_Mo "log" "[J", .fieldLink R_Mo 431 R_Mo "logged" "I", .fieldLink R_Mo 441 R_Mo "done" "I", .fieldLink R_Mo 387 R_Mo "wrong" "I", .fieldLink R_Mo 91 R_Mo "is" "[I", .fieldLink R_Mo 94 R_Mo "ofMap" "[I", .fieldLink R_Mo 97 R_Mo "ofPlace" "[I", .fieldLink R_Mo 100 R_Mo "ofTag" "[I", .fieldLink R_Mo 103 R_Mo "is64" "[J", .fieldLink R_Mo 106 R_Mo "own" "[B", .lays R_Mo R_Mo "thrown" "I", .laysFinal R_Mo R_Mo "sort" "[I", .laysFinal R_Mo R_Mo "dst" "[I", .laysFinal R_Mo R_Mo "src" "[I", .laysFinal R_Mo R_Mo "off" "[I", .laysFinal R_Mo R_Mo "imm" "[I", .lays R_Mo R_Mo "many" "I", .lays R_Mo R_Mo "passed" "Z", .laysFinal R_Mo R_Mo "keyBytes" "[I", .laysFinal R_Mo R_Mo "valueBytes" "[I", .laysFinal R_Mo R_Mo "places" "[I", .lays R_Mo R_Mo "maps" "I", .lays R_Mo R_Mo "fault" "I", .lays R_Mo R_Mo "faultAt" "I", .lays R_Mo R_Mo "gone" "I", .laysFinal R_Mo R_Mo "kind" "[I", .laysFinal R_Mo R_Mo "mapOf" "[I", .laysFinal R_Mo R_Mo "tag" "[I", .laysFinal R_Mo R_Mo "low" "[J", .laysFinal R_Mo R_Mo "high" "[J", .laysFinal R_Mo R_Mo "stack" "[I", .laysFinal R_Mo R_Mo "length" "[I", .laysFinal R_Mo R_Mo "goesTo" "[I", .lays R_Mo R_Mo "sides" "I", .lays R_Mo R_Mo "tags" "I", .laysFinal R_Mo R_Mo "times" "[I", .laysFinal R_Mo R_Mo "seen" "[I", .laysFinal R_Mo R_Mo "leastLow" "[J", .laysFinal R_Mo R_Mo "mostHigh" "[J", .lays R_Mo R_Mo "a" "J", .lays R_Mo R_Mo "b" "J", .lays R_Mo R_Mo "fits" "Z", .lays R_Mo R_Mo "xl" "J", .lays R_Mo R_Mo "xh" "J"]
def zz_W1_10 : List Cond := [.lays R_Mo R_Mo "yl" "J", .lays R_Mo R_Mo "yh" "J", .lays R_Mo R_Mo "next" "Z", .lays R_Mo R_Mo "other" "Z", .lays R_Mo R_Mo "waits" "I", .lays R_Mo R_Mo "to" "I", .laysFinal R_Mo R_Mo "packet" "[B", .lays R_Mo R_Mo "packetEnd" "I", .laysFinal R_Mo R_Mo "data" "[B", .laysFinal R_Mo R_Mo "full" "[Z", .lays R_Mo R_Mo "seed" "J", .laysFinal R_Mo R_Mo "log" "[J", .lays R_Mo R_Mo "logged" "I", .lays R_Mo R_Mo "done" "I", .lays R_Mo R_Mo "wrong" "I", .laysFinal R_Mo R_Mo "is" "[I", .laysFinal R_Mo R_Mo "ofMap" "[I", .laysFinal R_Mo R_Mo "ofPlace" "[I", .laysFinal R_Mo R_Mo "ofTag" "[I", .laysFinal R_Mo R_Mo "is64" "[J", .laysFinal R_Mo R_Mo "own" "[B", .lays R_Mo R_Mo "runTags" "I", .methodLink R_La 64 y_Mo_thrown, .instanceMethod y_Mo_thrown, .selects R_Mo y_Mo_thrown y_Mo_thrown, .code y_Mo_thrown prog_14_method_2_code 1 (some .int), .methodLink R_La 63 y_Mo_map, .instanceMethod y_Mo_map, .selects R_Mo y_Mo_map y_Mo_map, .code y_Mo_map prog_14_method_4_code 4 (some .int), .methodLink R_Mo 112 y_Mo_no, .instanceMethod y_Mo_no, .code y_Mo_no prog_14_method_3_code 2 (some .int), .methodLink R_La 70 y_Mo_add, .instanceMethod y_Mo_add, .selects R_Mo y_Mo_add y_Mo_add, .code y_Mo_add prog_14_method_5_code 6 (some .int), .methodLink R_La 74 y_Mo_check, .instanceMethod y_Mo_check, .selects R_Mo y_Mo_check y_Mo_check, .code y_Mo_check prog_14_method_48_code 3 (some .int), .methodLink R_La 95 y_Mo_run, .instanceMethod y_Mo_run, .selects R_Mo y_Mo_run y_Mo_run, .code y_Mo_run prog_14_method_68_code 4 (some .long), .methodLink R_La 78 y_Mo_clear, .instanceMethod y_Mo_clear, .selects R_Mo y_Mo_clear y_Mo_clear, .code y_Mo_clear prog_14_method_69_code 2 none, .methodLink R_La 81 y_Mo_feed]
def zz_W1_11 : List Cond := [.instanceMethod y_Mo_feed, .selects R_Mo y_Mo_feed y_Mo_feed, .code y_Mo_feed prog_14_method_70_code 8 (some .int), .methodLink R_La 85 y_Mo_end, .instanceMethod y_Mo_end, .selects R_Mo y_Mo_end y_Mo_end, .code y_Mo_end prog_14_method_71_code 2 (some .int), .methodLink R_La 92 y_Mo_seed, .instanceMethod y_Mo_seed, .selects R_Mo y_Mo_seed y_Mo_seed, .code y_Mo_seed prog_14_method_72_code 3 none, .methodLink R_La 98 y_Mo_letter, .instanceMethod y_Mo_letter, .selects R_Mo y_Mo_letter y_Mo_letter, .code y_Mo_letter prog_14_method_73_code 2 (some .int), .methodLink R_La 101 y_Mo_place, .instanceMethod y_Mo_place, .selects R_Mo y_Mo_place y_Mo_place, .code y_Mo_place prog_14_method_74_code 4 (some .int), .methodLink R_La 104 y_Mo_log, .instanceMethod y_Mo_log, .selects R_Mo y_Mo_log y_Mo_log, .code y_Mo_log prog_14_method_75_code 2 (some .long), .methodLink R_La 107 y_Mo_known, .instanceMethod y_Mo_known, .selects R_Mo y_Mo_known y_Mo_known, .code y_Mo_known prog_14_method_76_code 5 (some .long), .methodLink R_La 111 y_Mo_count, .instanceMethod y_Mo_count, .selects R_Mo y_Mo_count y_Mo_count, .code y_Mo_count prog_14_method_77_code 2 (some .int), .constantLong R_La 86 (4294967295)]
def zz_W1 : List Cond := zz_W1_0 ++ (zz_W1_1 ++ (zz_W1_2 ++ (zz_W1_3 ++ (zz_W1_4 ++ (zz_W1_5 ++ (zz_W1_6 ++ (zz_W1_7 ++ (zz_W1_8 ++ (zz_W1_9 ++ (zz_W1_10 ++ (zz_W1_11)))))))))))
def zz_W : List Cond := [.selects R_Mo y_Mo_no y_Mo_no] ++ zz_W1
def zz_NT : List Cond := [.methodLinkNest R_FG 11 y_Pr_init R_FG, .methodLinkNest R_FG 18 y_Ma_init R_FG, .methodLinkNest R_FG 34 y_Fo_init R_FG, .methodLinkNest R_Ch 11 y_St_init R_FG, .methodLinkNest R_Ch 27 y_Ra_init R_FG, .methodLinkNest R_Ma 45 y_FG_within R_FG, .castable "java/lang/IllegalArgumentException" "java/lang/IllegalArgumentException", .declares (⟨"java/lang/RuntimeException", "<init>", "(Ljava/lang/String;)V"⟩ : MethodName), .declares (⟨"java/lang/Exception", "<init>", "(Ljava/lang/String;)V"⟩ : MethodName), .declares (⟨"java/lang/Throwable", "<init>", "(Ljava/lang/String;)V"⟩ : MethodName), .castable "java/lang/IllegalStateException" "java/lang/IllegalStateException", .castable "java/lang/IndexOutOfBoundsException" "java/lang/IndexOutOfBoundsException", .castable "java/util/NoSuchElementException" "java/util/NoSuchElementException"]
set_option maxRecDepth 1000000 in
theorem zz_W1_0_eq : zz_W1_0 = ([0, 1, 2, 3, 4, 5, 6, 7, 8, 9, 10, 11, 12, 13, 14, 15, 17, 25, 26, 27, 28, 29, 30, 31, 32, 33, 34, 35, 36, 38, 39, 40, 41, 44, 47, 50, 53, 56, 57, 60, 62, 64, 66, 68, 70, 73, 74, 75, 77, 78] : List Nat).filterMap (fun i => tables_1[i]?) := by rfl
theorem zz_W1_0_in : ∀ w ∈ zz_W1_0, w ∈ lw_tbl := by
  intro w h
  rw [zz_W1_0_eq] at h
  obtain ⟨i, -, hi⟩ := List.mem_filterMap.mp h
  exact List.mem_append_right _ (List.mem_of_getElem? hi)
theorem zz_W1_0_good : zz_W1_0.all goodWord = true := by decide +kernel
set_option maxRecDepth 1000000 in
theorem zz_W1_1_eq : zz_W1_1 = ([79, 80, 84, 88, 91, 93, 94, 95, 96, 97, 100, 102, 104, 106, 108, 110, 112, 114, 117, 118, 119, 120, 121, 122, 123, 124, 125, 127, 129, 130, 132, 133, 135, 137, 139, 141, 143, 146, 147, 149, 150, 151, 152, 153, 154, 155, 156, 158, 160, 162] : List Nat).filterMap (fun i => tables_1[i]?) := by rfl
theorem zz_W1_1_in : ∀ w ∈ zz_W1_1, w ∈ lw_tbl := by
  intro w h
  rw [zz_W1_1_eq] at h
  obtain ⟨i, -, hi⟩ := List.mem_filterMap.mp h
  exact List.mem_append_right _ (List.mem_of_getElem? hi)
theorem zz_W1_1_good : zz_W1_1.all goodWord = true := by decide +kernel
set_option maxRecDepth 1000000 in
theorem zz_W1_2_eq : zz_W1_2 = ([165, 166, 167, 168, 169, 170, 171, 172, 173, 175, 176, 177, 178, 180, 182, 184, 187, 190, 195, 197, 199, 201, 203, 205, 207, 209, 213, 214, 216, 217, 218, 225, 227, 230, 231, 232, 233, 234, 235, 236, 237, 238, 241, 242, 243, 244, 245, 246, 247, 249] : List Nat).filterMap (fun i => tables_1[i]?) := by rfl
theorem zz_W1_2_in : ∀ w ∈ zz_W1_2, w ∈ lw_tbl := by
  intro w h
  rw [zz_W1_2_eq] at h
  obtain ⟨i, -, hi⟩ := List.mem_filterMap.mp h
  exact List.mem_append_right _ (List.mem_of_getElem? hi)
theorem zz_W1_2_good : zz_W1_2.all goodWord = true := by decide +kernel
set_option maxRecDepth 1000000 in
theorem zz_W1_3_eq : zz_W1_3 = ([251, 253, 255, 257, 259, 261, 263, 265, 267, 269, 271, 273, 276, 277, 278, 279, 280, 281, 282, 283, 284, 285, 286, 287, 289, 290, 291, 292, 293, 297, 298, 300, 302, 304, 306, 308, 310, 312, 314, 316, 318, 320, 323, 324, 325, 326, 327, 328, 329, 330] : List Nat).filterMap (fun i => tables_1[i]?) := by rfl
theorem zz_W1_3_in : ∀ w ∈ zz_W1_3, w ∈ lw_tbl := by
  intro w h
  rw [zz_W1_3_eq] at h
  obtain ⟨i, -, hi⟩ := List.mem_filterMap.mp h
  exact List.mem_append_right _ (List.mem_of_getElem? hi)
theorem zz_W1_3_good : zz_W1_3.all goodWord = true := by decide +kernel
set_option maxRecDepth 1000000 in
theorem zz_W1_4_eq : zz_W1_4 = ([332, 334, 336, 338, 340, 342, 345, 346, 347, 348, 349, 350, 351, 352, 353, 354, 355, 356, 357, 358, 359, 360, 361, 362, 363, 364, 365, 366, 367, 368, 369, 370, 371, 372, 373, 374, 375, 376, 377, 378, 379, 380, 381, 382, 383, 384, 385, 386, 387, 388] : List Nat).filterMap (fun i => tables_1[i]?) := by rfl
theorem zz_W1_4_in : ∀ w ∈ zz_W1_4, w ∈ lw_tbl := by
  intro w h
  rw [zz_W1_4_eq] at h
  obtain ⟨i, -, hi⟩ := List.mem_filterMap.mp h
  exact List.mem_append_right _ (List.mem_of_getElem? hi)
theorem zz_W1_4_good : zz_W1_4.all goodWord = true := by decide +kernel
set_option maxRecDepth 1000000 in
theorem zz_W1_5_eq : zz_W1_5 = ([389, 397, 398, 399, 400, 401, 402, 403, 404, 405, 406, 407, 408, 409, 410, 411, 412, 413, 414, 416, 418, 419, 422, 423, 424, 425, 426, 428, 429, 430, 432, 433, 434, 435, 436, 437, 438, 439, 440, 441, 442, 443, 444, 445, 446, 447, 448, 456, 457, 458] : List Nat).filterMap (fun i => tables_1[i]?) := by rfl
theorem zz_W1_5_in : ∀ w ∈ zz_W1_5, w ∈ lw_tbl := by
  intro w h
  rw [zz_W1_5_eq] at h
  obtain ⟨i, -, hi⟩ := List.mem_filterMap.mp h
  exact List.mem_append_right _ (List.mem_of_getElem? hi)
theorem zz_W1_5_good : zz_W1_5.all goodWord = true := by decide +kernel
set_option maxRecDepth 1000000 in
theorem zz_W1_6_eq : zz_W1_6 = ([460, 461, 462, 463, 464, 465, 467, 468, 469, 470, 472, 473, 474, 475, 476, 477, 478, 479, 480, 481, 482, 483, 485, 486, 487, 488, 489, 490, 491, 492, 493, 494, 495, 834, 835, 836, 837, 838, 839, 840, 841, 842, 843, 845, 846, 847, 848, 849, 850, 852] : List Nat).filterMap (fun i => tables_1[i]?) := by rfl
theorem zz_W1_6_in : ∀ w ∈ zz_W1_6, w ∈ lw_tbl := by
  intro w h
  rw [zz_W1_6_eq] at h
  obtain ⟨i, -, hi⟩ := List.mem_filterMap.mp h
  exact List.mem_append_right _ (List.mem_of_getElem? hi)
theorem zz_W1_6_good : zz_W1_6.all goodWord = true := by decide +kernel
set_option maxRecDepth 1000000 in
theorem zz_W1_7_eq : zz_W1_7 = ([853, 854, 855, 857, 858, 859, 860, 861, 862, 863, 864, 865, 866, 867, 868, 870, 871, 872, 873, 874, 875, 876, 1028, 1029, 1030, 1031, 1032, 1033, 1034, 1035, 1036, 1037, 1039, 1040, 1041, 1042, 1043, 1044, 1046, 1047, 1048, 1049, 1051, 1052, 1053, 1054, 1055, 1056, 1057, 1058] : List Nat).filterMap (fun i => tables_1[i]?) := by rfl
theorem zz_W1_7_in : ∀ w ∈ zz_W1_7, w ∈ lw_tbl := by
  intro w h
  rw [zz_W1_7_eq] at h
  obtain ⟨i, -, hi⟩ := List.mem_filterMap.mp h
  exact List.mem_append_right _ (List.mem_of_getElem? hi)
theorem zz_W1_7_good : zz_W1_7.all goodWord = true := by decide +kernel
set_option maxRecDepth 1000000 in
theorem zz_W1_8_eq : zz_W1_8 = ([1059, 1060, 1061, 1062, 1069, 1070, 1071, 1072, 1073, 1074, 1075, 1077, 1078, 1079, 1080, 1081, 1082, 1083, 1091, 1092, 1093, 1094, 1095, 1096, 1097, 1098, 1099, 1100, 1101, 1102, 1103, 1104, 1105, 1106, 1107, 1108, 1109, 1110, 1111, 1112, 1113, 1114, 1115, 1116, 1117, 1118, 1119, 1122, 1123, 1124] : List Nat).filterMap (fun i => tables_1[i]?) := by rfl
theorem zz_W1_8_in : ∀ w ∈ zz_W1_8, w ∈ lw_tbl := by
  intro w h
  rw [zz_W1_8_eq] at h
  obtain ⟨i, -, hi⟩ := List.mem_filterMap.mp h
  exact List.mem_append_right _ (List.mem_of_getElem? hi)
theorem zz_W1_8_good : zz_W1_8.all goodWord = true := by decide +kernel
set_option maxRecDepth 1000000 in
theorem zz_W1_9_eq : zz_W1_9 = ([1125, 1137, 1138, 1139, 1140, 1141, 1142, 1143, 1144, 1145, 1146, 1147, 1148, 1149, 1150, 1151, 1153, 1155, 1157, 1159, 1161, 1163, 1165, 1167, 1169, 1171, 1173, 1175, 1177, 1179, 1181, 1183, 1185, 1187, 1189, 1191, 1193, 1195, 1197, 1199, 1201, 1203, 1205, 1207, 1209, 1211, 1213, 1215, 1217, 1219] : List Nat).filterMap (fun i => tables_1[i]?) := by rfl
theorem zz_W1_9_in : ∀ w ∈ zz_W1_9, w ∈ lw_tbl := by
  intro w h
  rw [zz_W1_9_eq] at h
  obtain ⟨i, -, hi⟩ := List.mem_filterMap.mp h
  exact List.mem_append_right _ (List.mem_of_getElem? hi)
theorem zz_W1_9_good : zz_W1_9.all goodWord = true := by decide +kernel
set_option maxRecDepth 1000000 in
theorem zz_W1_10_eq : zz_W1_10 = ([1221, 1223, 1225, 1227, 1229, 1231, 1233, 1235, 1237, 1239, 1241, 1243, 1245, 1247, 1249, 1251, 1253, 1255, 1257, 1259, 1261, 1263, 1266, 1267, 1268, 1269, 1270, 1271, 1272, 1273, 1274, 1276, 1277, 1278, 1279, 1280, 1281, 1282, 1283, 1284, 1285, 1519, 1520, 1521, 1522, 1590, 1591, 1592, 1593, 1594] : List Nat).filterMap (fun i => tables_1[i]?) := by rfl
theorem zz_W1_10_in : ∀ w ∈ zz_W1_10, w ∈ lw_tbl := by
  intro w h
  rw [zz_W1_10_eq] at h
  obtain ⟨i, -, hi⟩ := List.mem_filterMap.mp h
  exact List.mem_append_right _ (List.mem_of_getElem? hi)
theorem zz_W1_10_good : zz_W1_10.all goodWord = true := by decide +kernel
set_option maxRecDepth 1000000 in
theorem zz_W1_11_eq : zz_W1_11 = ([1595, 1596, 1597, 1598, 1599, 1600, 1601, 1602, 1603, 1604, 1605, 1606, 1607, 1608, 1609, 1610, 1611, 1612, 1613, 1614, 1615, 1616, 1617, 1618, 1619, 1620, 1621, 1622, 1623, 1624, 1625, 1626] : List Nat).filterMap (fun i => tables_1[i]?) := by rfl
theorem zz_W1_11_in : ∀ w ∈ zz_W1_11, w ∈ lw_tbl := by
  intro w h
  rw [zz_W1_11_eq] at h
  obtain ⟨i, -, hi⟩ := List.mem_filterMap.mp h
  exact List.mem_append_right _ (List.mem_of_getElem? hi)
theorem zz_W1_11_good : zz_W1_11.all goodWord = true := by decide +kernel
theorem zz_W_in : ∀ w ∈ zz_W, w ∈ lw_tbl := by
  intro w hw
  rcases List.mem_append.mp hw with h | h
  · exact List.mem_append_left _ h
  rcases List.mem_append.mp h with h | h
  · exact zz_W1_0_in w h
  rcases List.mem_append.mp h with h | h
  · exact zz_W1_1_in w h
  rcases List.mem_append.mp h with h | h
  · exact zz_W1_2_in w h
  rcases List.mem_append.mp h with h | h
  · exact zz_W1_3_in w h
  rcases List.mem_append.mp h with h | h
  · exact zz_W1_4_in w h
  rcases List.mem_append.mp h with h | h
  · exact zz_W1_5_in w h
  rcases List.mem_append.mp h with h | h
  · exact zz_W1_6_in w h
  rcases List.mem_append.mp h with h | h
  · exact zz_W1_7_in w h
  rcases List.mem_append.mp h with h | h
  · exact zz_W1_8_in w h
  rcases List.mem_append.mp h with h | h
  · exact zz_W1_9_in w h
  rcases List.mem_append.mp h with h | h
  · exact zz_W1_10_in w h
  exact zz_W1_11_in w h
set_option maxRecDepth 1000000 in
theorem zz_NT_eq : zz_NT = ([37, 76, 148, 174, 215, 1063, 390, 392, 394, 396, 459, 844, 1038] : List Nat).filterMap (fun i => tables_1[i]?) := by rfl
theorem zz_NT_in : ∀ w ∈ zz_NT, w ∈ lw_tbl := by
  intro w h
  rw [zz_NT_eq] at h
  obtain ⟨i, -, hi⟩ := List.mem_filterMap.mp h
  exact List.mem_append_right _ (List.mem_of_getElem? hi)
theorem zz_W_good : zz_W.all goodWord = true := by
  rw [zz_W, zz_W1]
  simp only [List.all_append, zz_W1_0_good, zz_W1_1_good, zz_W1_2_good, zz_W1_3_good, zz_W1_4_good, zz_W1_5_good, zz_W1_6_good, zz_W1_7_good, zz_W1_8_good, zz_W1_9_good, zz_W1_10_good, zz_W1_11_good, Bool.and_true]
  decide +kernel
theorem zz_NT_tab : ∀ w ∈ zz_NT, w.onTables = true := by decide +kernel
theorem mw_0 : Cond.initialized R_La ∈ zz_W := List.mem_append_right _ (List.mem_append_left _ (List.mem_of_getElem? (i := 0) rfl))
theorem mw_1 : Cond.initialized R_FG ∈ zz_W := List.mem_append_right _ (List.mem_append_left _ (List.mem_of_getElem? (i := 1) rfl))
theorem mw_2 : Cond.initialized R_Pr ∈ zz_W := List.mem_append_right _ (List.mem_append_left _ (List.mem_of_getElem? (i := 2) rfl))
theorem mw_3 : Cond.initialized R_Ma ∈ zz_W := List.mem_append_right _ (List.mem_append_left _ (List.mem_of_getElem? (i := 3) rfl))
theorem mw_4 : Cond.initialized R_Me ∈ zz_W := List.mem_append_right _ (List.mem_append_left _ (List.mem_of_getElem? (i := 4) rfl))
theorem mw_5 : Cond.initialized R_Fo ∈ zz_W := List.mem_append_right _ (List.mem_append_left _ (List.mem_of_getElem? (i := 5) rfl))
theorem mw_6 : Cond.initialized R_Ch ∈ zz_W := List.mem_append_right _ (List.mem_append_left _ (List.mem_of_getElem? (i := 6) rfl))
theorem mw_7 : Cond.initialized R_St ∈ zz_W := List.mem_append_right _ (List.mem_append_left _ (List.mem_of_getElem? (i := 7) rfl))
theorem mw_8 : Cond.initialized R_Ra ∈ zz_W := List.mem_append_right _ (List.mem_append_left _ (List.mem_of_getElem? (i := 8) rfl))
theorem mw_9 : Cond.initialized R_Ru ∈ zz_W := List.mem_append_right _ (List.mem_append_left _ (List.mem_of_getElem? (i := 9) rfl))
theorem mw_10 : Cond.initialized R_Mo ∈ zz_W := List.mem_append_right _ (List.mem_append_left _ (List.mem_of_getElem? (i := 10) rfl))
theorem mw_11 : Cond.initialized "java/lang/Throwable" ∈ zz_W := List.mem_append_right _ (List.mem_append_left _ (List.mem_of_getElem? (i := 11) rfl))
theorem mw_12 : Cond.initialized "java/lang/Exception" ∈ zz_W := List.mem_append_right _ (List.mem_append_left _ (List.mem_of_getElem? (i := 12) rfl))
theorem mw_13 : Cond.initialized "java/lang/RuntimeException" ∈ zz_W := List.mem_append_right _ (List.mem_append_left _ (List.mem_of_getElem? (i := 13) rfl))
theorem mw_14 : Cond.initialized "java/lang/IllegalArgumentException" ∈ zz_W := List.mem_append_right _ (List.mem_append_left _ (List.mem_of_getElem? (i := 14) rfl))
theorem mw_15 : Cond.initialized "java/lang/IllegalStateException" ∈ zz_W := List.mem_append_right _ (List.mem_append_left _ (List.mem_of_getElem? (i := 15) rfl))
theorem mw_17 : Cond.initialized R_Ar ∈ zz_W := List.mem_append_right _ (List.mem_append_left _ (List.mem_of_getElem? (i := 16) rfl))
theorem mw_25 : Cond.initialized "java/lang/IndexOutOfBoundsException" ∈ zz_W := List.mem_append_right _ (List.mem_append_left _ (List.mem_of_getElem? (i := 17) rfl))
theorem mw_26 : Cond.initialized "java/util/NoSuchElementException" ∈ zz_W := List.mem_append_right _ (List.mem_append_left _ (List.mem_of_getElem? (i := 18) rfl))
theorem mw_27 : Cond.classLink R_La 8 R_FG ∈ zz_W := List.mem_append_right _ (List.mem_append_left _ (List.mem_of_getElem? (i := 19) rfl))
theorem mw_28 : Cond.instantiable R_FG 7 ∈ zz_W := List.mem_append_right _ (List.mem_append_left _ (List.mem_of_getElem? (i := 20) rfl))
theorem mw_29 : Cond.methodLink R_La 54 y_FG_init ∈ zz_W := List.mem_append_right _ (List.mem_append_left _ (List.mem_of_getElem? (i := 21) rfl))
theorem mw_30 : Cond.instanceMethod y_FG_init ∈ zz_W := List.mem_append_right _ (List.mem_append_left _ (List.mem_of_getElem? (i := 22) rfl))
theorem mw_31 : Cond.code y_FG_init prog_1_method_1_code 1 none ∈ zz_W := List.mem_append_right _ (List.mem_append_left _ (List.mem_of_getElem? (i := 23) rfl))
theorem mw_32 : Cond.methodLink R_FG 3 (⟨"java/lang/Object", "<init>", "()V"⟩ : MethodName) ∈ zz_W := List.mem_append_right _ (List.mem_append_left _ (List.mem_of_getElem? (i := 24) rfl))
theorem mw_33 : Cond.instanceMethod (⟨"java/lang/Object", "<init>", "()V"⟩ : MethodName) ∈ zz_W := List.mem_append_right _ (List.mem_append_left _ (List.mem_of_getElem? (i := 25) rfl))
theorem mw_34 : Cond.code (⟨"java/lang/Object", "<init>", "()V"⟩ : MethodName) object_method_1_code 1 none ∈ zz_W := List.mem_append_right _ (List.mem_append_left _ (List.mem_of_getElem? (i := 26) rfl))
theorem mw_35 : Cond.classLink R_FG 9 R_Pr ∈ zz_W := List.mem_append_right _ (List.mem_append_left _ (List.mem_of_getElem? (i := 27) rfl))
theorem mw_36 : Cond.instantiable R_Pr 6 ∈ zz_W := List.mem_append_right _ (List.mem_append_left _ (List.mem_of_getElem? (i := 28) rfl))
theorem mw_38 : Cond.instanceMethod y_Pr_init ∈ zz_W := List.mem_append_right _ (List.mem_append_left _ (List.mem_of_getElem? (i := 29) rfl))
theorem mw_39 : Cond.code y_Pr_init prog_7_method_1_code 1 none ∈ zz_W := List.mem_append_right _ (List.mem_append_left _ (List.mem_of_getElem? (i := 30) rfl))
theorem mw_40 : Cond.methodLink R_Pr 3 (⟨"java/lang/Object", "<init>", "()V"⟩ : MethodName) ∈ zz_W := List.mem_append_right _ (List.mem_append_left _ (List.mem_of_getElem? (i := 31) rfl))
theorem mw_41 : Cond.fieldLink R_Pr 9 R_Pr "sort" "[I" ∈ zz_W := List.mem_append_right _ (List.mem_append_left _ (List.mem_of_getElem? (i := 32) rfl))
theorem mw_44 : Cond.fieldLink R_Pr 15 R_Pr "dst" "[I" ∈ zz_W := List.mem_append_right _ (List.mem_append_left _ (List.mem_of_getElem? (i := 33) rfl))
theorem mw_47 : Cond.fieldLink R_Pr 18 R_Pr "src" "[I" ∈ zz_W := List.mem_append_right _ (List.mem_append_left _ (List.mem_of_getElem? (i := 34) rfl))
theorem mw_50 : Cond.fieldLink R_Pr 21 R_Pr "off" "[I" ∈ zz_W := List.mem_append_right _ (List.mem_append_left _ (List.mem_of_getElem? (i := 35) rfl))
theorem mw_53 : Cond.fieldLink R_Pr 24 R_Pr "imm" "[I" ∈ zz_W := List.mem_append_right _ (List.mem_append_left _ (List.mem_of_getElem? (i := 36) rfl))
theorem mw_56 : Cond.fieldLink R_Pr 27 R_Pr "size" "I" ∈ zz_W := List.mem_append_right _ (List.mem_append_left _ (List.mem_of_getElem? (i := 37) rfl))
theorem mw_57 : Cond.fieldLink R_FG 85 R_Pr "size" "I" ∈ zz_W := List.mem_append_right _ (List.mem_append_left _ (List.mem_of_getElem? (i := 38) rfl))
theorem mw_60 : Cond.laysFinal R_Pr R_Pr "sort" "[I" ∈ zz_W := List.mem_append_right _ (List.mem_append_left _ (List.mem_of_getElem? (i := 39) rfl))
theorem mw_62 : Cond.laysFinal R_Pr R_Pr "dst" "[I" ∈ zz_W := List.mem_append_right _ (List.mem_append_left _ (List.mem_of_getElem? (i := 40) rfl))
theorem mw_64 : Cond.laysFinal R_Pr R_Pr "src" "[I" ∈ zz_W := List.mem_append_right _ (List.mem_append_left _ (List.mem_of_getElem? (i := 41) rfl))
theorem mw_66 : Cond.laysFinal R_Pr R_Pr "off" "[I" ∈ zz_W := List.mem_append_right _ (List.mem_append_left _ (List.mem_of_getElem? (i := 42) rfl))
theorem mw_68 : Cond.laysFinal R_Pr R_Pr "imm" "[I" ∈ zz_W := List.mem_append_right _ (List.mem_append_left _ (List.mem_of_getElem? (i := 43) rfl))
theorem mw_70 : Cond.lays R_Pr R_Pr "size" "I" ∈ zz_W := List.mem_append_right _ (List.mem_append_left _ (List.mem_of_getElem? (i := 44) rfl))
theorem mw_73 : Cond.arrayClass .int ∈ zz_W := List.mem_append_right _ (List.mem_append_left _ (List.mem_of_getElem? (i := 45) rfl))
theorem mw_74 : Cond.classLink R_FG 16 R_Ma ∈ zz_W := List.mem_append_right _ (List.mem_append_left _ (List.mem_of_getElem? (i := 46) rfl))
theorem mw_75 : Cond.instantiable R_Ma 8 ∈ zz_W := List.mem_append_right _ (List.mem_append_left _ (List.mem_of_getElem? (i := 47) rfl))
theorem mw_77 : Cond.instanceMethod y_Ma_init ∈ zz_W := List.mem_append_right _ (List.mem_append_left _ (List.mem_of_getElem? (i := 48) rfl))
theorem mw_78 : Cond.code y_Ma_init prog_5_method_1_code 1 none ∈ zz_W := List.mem_append_right _ (List.mem_append_left _ (List.mem_of_getElem? (i := 49) rfl))
theorem mw_79 : Cond.methodLink R_Ma 3 (⟨"java/lang/Object", "<init>", "()V"⟩ : MethodName) ∈ zz_W := List.mem_append_right _ (List.mem_append_right _ (List.mem_append_left _ (List.mem_of_getElem? (i := 0) rfl)))
theorem mw_80 : Cond.fieldLink R_Ma 9 R_Ma "keyBytes" "[I" ∈ zz_W := List.mem_append_right _ (List.mem_append_right _ (List.mem_append_left _ (List.mem_of_getElem? (i := 1) rfl)))
theorem mw_84 : Cond.fieldLink R_Ma 15 R_Ma "valueBytes" "[I" ∈ zz_W := List.mem_append_right _ (List.mem_append_right _ (List.mem_append_left _ (List.mem_of_getElem? (i := 2) rfl)))
theorem mw_88 : Cond.fieldLink R_Ma 18 R_Ma "values" "[B" ∈ zz_W := List.mem_append_right _ (List.mem_append_right _ (List.mem_append_left _ (List.mem_of_getElem? (i := 3) rfl)))
theorem mw_91 : Cond.fieldLink R_Ma 22 R_Ma "sought" "[B" ∈ zz_W := List.mem_append_right _ (List.mem_append_right _ (List.mem_append_left _ (List.mem_of_getElem? (i := 4) rfl)))
theorem mw_93 : Cond.fieldLink R_Ma 25 R_Ma "places" "[I" ∈ zz_W := List.mem_append_right _ (List.mem_append_right _ (List.mem_append_left _ (List.mem_of_getElem? (i := 5) rfl)))
theorem mw_94 : Cond.fieldLink R_Ma 28 R_Ma "taken" "[Z" ∈ zz_W := List.mem_append_right _ (List.mem_append_right _ (List.mem_append_left _ (List.mem_of_getElem? (i := 6) rfl)))
theorem mw_95 : Cond.fieldLink R_Ma 32 R_Ma "keys" "[B" ∈ zz_W := List.mem_append_right _ (List.mem_append_right _ (List.mem_append_left _ (List.mem_of_getElem? (i := 7) rfl)))
theorem mw_96 : Cond.fieldLink R_Ma 35 R_Ma "size" "I" ∈ zz_W := List.mem_append_right _ (List.mem_append_right _ (List.mem_append_left _ (List.mem_of_getElem? (i := 8) rfl)))
theorem mw_97 : Cond.fieldLink R_FG 72 R_Ma "size" "I" ∈ zz_W := List.mem_append_right _ (List.mem_append_right _ (List.mem_append_left _ (List.mem_of_getElem? (i := 9) rfl)))
theorem mw_100 : Cond.laysFinal R_Ma R_Ma "keyBytes" "[I" ∈ zz_W := List.mem_append_right _ (List.mem_append_right _ (List.mem_append_left _ (List.mem_of_getElem? (i := 10) rfl)))
theorem mw_102 : Cond.laysFinal R_Ma R_Ma "valueBytes" "[I" ∈ zz_W := List.mem_append_right _ (List.mem_append_right _ (List.mem_append_left _ (List.mem_of_getElem? (i := 11) rfl)))
theorem mw_104 : Cond.laysFinal R_Ma R_Ma "values" "[B" ∈ zz_W := List.mem_append_right _ (List.mem_append_right _ (List.mem_append_left _ (List.mem_of_getElem? (i := 12) rfl)))
theorem mw_106 : Cond.laysFinal R_Ma R_Ma "sought" "[B" ∈ zz_W := List.mem_append_right _ (List.mem_append_right _ (List.mem_append_left _ (List.mem_of_getElem? (i := 13) rfl)))
theorem mw_108 : Cond.laysFinal R_Ma R_Ma "places" "[I" ∈ zz_W := List.mem_append_right _ (List.mem_append_right _ (List.mem_append_left _ (List.mem_of_getElem? (i := 14) rfl)))
theorem mw_110 : Cond.laysFinal R_Ma R_Ma "taken" "[Z" ∈ zz_W := List.mem_append_right _ (List.mem_append_right _ (List.mem_append_left _ (List.mem_of_getElem? (i := 15) rfl)))
theorem mw_112 : Cond.laysFinal R_Ma R_Ma "keys" "[B" ∈ zz_W := List.mem_append_right _ (List.mem_append_right _ (List.mem_append_left _ (List.mem_of_getElem? (i := 16) rfl)))
theorem mw_114 : Cond.lays R_Ma R_Ma "size" "I" ∈ zz_W := List.mem_append_right _ (List.mem_append_right _ (List.mem_append_left _ (List.mem_of_getElem? (i := 17) rfl)))
theorem mw_117 : Cond.arrayClass .byte ∈ zz_W := List.mem_append_right _ (List.mem_append_right _ (List.mem_append_left _ (List.mem_of_getElem? (i := 18) rfl)))
theorem mw_118 : Cond.arrayClass .boolean ∈ zz_W := List.mem_append_right _ (List.mem_append_right _ (List.mem_append_left _ (List.mem_of_getElem? (i := 19) rfl)))
theorem mw_119 : Cond.classLink R_FG 23 R_Me ∈ zz_W := List.mem_append_right _ (List.mem_append_right _ (List.mem_append_left _ (List.mem_of_getElem? (i := 20) rfl)))
theorem mw_120 : Cond.instantiable R_Me 5 ∈ zz_W := List.mem_append_right _ (List.mem_append_right _ (List.mem_append_left _ (List.mem_of_getElem? (i := 21) rfl)))
theorem mw_121 : Cond.methodLink R_FG 25 y_Me_init ∈ zz_W := List.mem_append_right _ (List.mem_append_right _ (List.mem_append_left _ (List.mem_of_getElem? (i := 22) rfl)))
theorem mw_122 : Cond.instanceMethod y_Me_init ∈ zz_W := List.mem_append_right _ (List.mem_append_right _ (List.mem_append_left _ (List.mem_of_getElem? (i := 23) rfl)))
theorem mw_123 : Cond.code y_Me_init prog_6_method_1_code 2 none ∈ zz_W := List.mem_append_right _ (List.mem_append_right _ (List.mem_append_left _ (List.mem_of_getElem? (i := 24) rfl)))
theorem mw_124 : Cond.methodLink R_Me 3 (⟨"java/lang/Object", "<init>", "()V"⟩ : MethodName) ∈ zz_W := List.mem_append_right _ (List.mem_append_right _ (List.mem_append_left _ (List.mem_of_getElem? (i := 25) rfl)))
theorem mw_125 : Cond.fieldLink R_Me 18 R_Me "maps" "LFilterGuard$Maps;" ∈ zz_W := List.mem_append_right _ (List.mem_append_right _ (List.mem_append_left _ (List.mem_of_getElem? (i := 26) rfl)))
theorem mw_127 : Cond.fieldLink R_Me 9 R_Me "packet" "[B" ∈ zz_W := List.mem_append_right _ (List.mem_append_right _ (List.mem_append_left _ (List.mem_of_getElem? (i := 27) rfl)))
theorem mw_129 : Cond.fieldLink R_Me 15 R_Me "stack" "[B" ∈ zz_W := List.mem_append_right _ (List.mem_append_right _ (List.mem_append_left _ (List.mem_of_getElem? (i := 28) rfl)))
theorem mw_130 : Cond.fieldLink R_Me 22 R_Me "packetLength" "I" ∈ zz_W := List.mem_append_right _ (List.mem_append_right _ (List.mem_append_left _ (List.mem_of_getElem? (i := 29) rfl)))
theorem mw_132 : Cond.fieldLink R_FG 102 R_Me "packetLength" "I" ∈ zz_W := List.mem_append_right _ (List.mem_append_right _ (List.mem_append_left _ (List.mem_of_getElem? (i := 30) rfl)))
theorem mw_133 : Cond.fieldLink R_Ru 44 R_Me "strays" "I" ∈ zz_W := List.mem_append_right _ (List.mem_append_right _ (List.mem_append_left _ (List.mem_of_getElem? (i := 31) rfl)))
theorem mw_135 : Cond.laysFinal R_Me R_Me "maps" "LFilterGuard$Maps;" ∈ zz_W := List.mem_append_right _ (List.mem_append_right _ (List.mem_append_left _ (List.mem_of_getElem? (i := 32) rfl)))
theorem mw_137 : Cond.laysFinal R_Me R_Me "packet" "[B" ∈ zz_W := List.mem_append_right _ (List.mem_append_right _ (List.mem_append_left _ (List.mem_of_getElem? (i := 33) rfl)))
theorem mw_139 : Cond.laysFinal R_Me R_Me "stack" "[B" ∈ zz_W := List.mem_append_right _ (List.mem_append_right _ (List.mem_append_left _ (List.mem_of_getElem? (i := 34) rfl)))
theorem mw_141 : Cond.lays R_Me R_Me "packetLength" "I" ∈ zz_W := List.mem_append_right _ (List.mem_append_right _ (List.mem_append_left _ (List.mem_of_getElem? (i := 35) rfl)))
theorem mw_143 : Cond.lays R_Me R_Me "strays" "I" ∈ zz_W := List.mem_append_right _ (List.mem_append_right _ (List.mem_append_left _ (List.mem_of_getElem? (i := 36) rfl)))
theorem mw_146 : Cond.classLink R_FG 32 R_Fo ∈ zz_W := List.mem_append_right _ (List.mem_append_right _ (List.mem_append_left _ (List.mem_of_getElem? (i := 37) rfl)))
theorem mw_147 : Cond.instantiable R_Fo 4 ∈ zz_W := List.mem_append_right _ (List.mem_append_right _ (List.mem_append_left _ (List.mem_of_getElem? (i := 38) rfl)))
theorem mw_149 : Cond.instanceMethod y_Fo_init ∈ zz_W := List.mem_append_right _ (List.mem_append_right _ (List.mem_append_left _ (List.mem_of_getElem? (i := 39) rfl)))
theorem mw_150 : Cond.code y_Fo_init prog_4_method_1_code 1 none ∈ zz_W := List.mem_append_right _ (List.mem_append_right _ (List.mem_append_left _ (List.mem_of_getElem? (i := 40) rfl)))
theorem mw_151 : Cond.methodLink R_Fo 3 (⟨"java/lang/Object", "<init>", "()V"⟩ : MethodName) ∈ zz_W := List.mem_append_right _ (List.mem_append_right _ (List.mem_append_left _ (List.mem_of_getElem? (i := 41) rfl)))
theorem mw_152 : Cond.fieldLink R_Fo 9 R_Fo "gone" "[I" ∈ zz_W := List.mem_append_right _ (List.mem_append_right _ (List.mem_append_left _ (List.mem_of_getElem? (i := 42) rfl)))
theorem mw_153 : Cond.fieldLink R_Fo 15 R_Fo "number" "[Z" ∈ zz_W := List.mem_append_right _ (List.mem_append_right _ (List.mem_append_left _ (List.mem_of_getElem? (i := 43) rfl)))
theorem mw_154 : Cond.fieldLink R_Fo 19 R_Fo "low" "[J" ∈ zz_W := List.mem_append_right _ (List.mem_append_right _ (List.mem_append_left _ (List.mem_of_getElem? (i := 44) rfl)))
theorem mw_155 : Cond.fieldLink R_Fo 23 R_Fo "high" "[J" ∈ zz_W := List.mem_append_right _ (List.mem_append_right _ (List.mem_append_left _ (List.mem_of_getElem? (i := 45) rfl)))
theorem mw_156 : Cond.laysFinal R_Fo R_Fo "gone" "[I" ∈ zz_W := List.mem_append_right _ (List.mem_append_right _ (List.mem_append_left _ (List.mem_of_getElem? (i := 46) rfl)))
theorem mw_158 : Cond.laysFinal R_Fo R_Fo "number" "[Z" ∈ zz_W := List.mem_append_right _ (List.mem_append_right _ (List.mem_append_left _ (List.mem_of_getElem? (i := 47) rfl)))
theorem mw_160 : Cond.laysFinal R_Fo R_Fo "low" "[J" ∈ zz_W := List.mem_append_right _ (List.mem_append_right _ (List.mem_append_left _ (List.mem_of_getElem? (i := 48) rfl)))
theorem mw_162 : Cond.laysFinal R_Fo R_Fo "high" "[J" ∈ zz_W := List.mem_append_right _ (List.mem_append_right _ (List.mem_append_left _ (List.mem_of_getElem? (i := 49) rfl)))
theorem mw_165 : Cond.arrayClass .long ∈ zz_W := List.mem_append_right _ (List.mem_append_right _ (List.mem_append_right _ (List.mem_append_left _ (List.mem_of_getElem? (i := 0) rfl))))
theorem mw_166 : Cond.classLink R_FG 39 R_Ch ∈ zz_W := List.mem_append_right _ (List.mem_append_right _ (List.mem_append_right _ (List.mem_append_left _ (List.mem_of_getElem? (i := 1) rfl))))
theorem mw_167 : Cond.instantiable R_Ch 14 ∈ zz_W := List.mem_append_right _ (List.mem_append_right _ (List.mem_append_right _ (List.mem_append_left _ (List.mem_of_getElem? (i := 2) rfl))))
theorem mw_168 : Cond.methodLink R_FG 41 y_Ch_init ∈ zz_W := List.mem_append_right _ (List.mem_append_right _ (List.mem_append_right _ (List.mem_append_left _ (List.mem_of_getElem? (i := 3) rfl))))
theorem mw_169 : Cond.instanceMethod y_Ch_init ∈ zz_W := List.mem_append_right _ (List.mem_append_right _ (List.mem_append_right _ (List.mem_append_left _ (List.mem_of_getElem? (i := 4) rfl))))
theorem mw_170 : Cond.code y_Ch_init prog_3_method_1_code 5 none ∈ zz_W := List.mem_append_right _ (List.mem_append_right _ (List.mem_append_right _ (List.mem_append_left _ (List.mem_of_getElem? (i := 5) rfl))))
theorem mw_171 : Cond.methodLink R_Ch 3 (⟨"java/lang/Object", "<init>", "()V"⟩ : MethodName) ∈ zz_W := List.mem_append_right _ (List.mem_append_right _ (List.mem_append_right _ (List.mem_append_left _ (List.mem_of_getElem? (i := 6) rfl))))
theorem mw_172 : Cond.classLink R_Ch 9 R_St ∈ zz_W := List.mem_append_right _ (List.mem_append_right _ (List.mem_append_right _ (List.mem_append_left _ (List.mem_of_getElem? (i := 7) rfl))))
theorem mw_173 : Cond.instantiable R_St 8 ∈ zz_W := List.mem_append_right _ (List.mem_append_right _ (List.mem_append_right _ (List.mem_append_left _ (List.mem_of_getElem? (i := 8) rfl))))
theorem mw_175 : Cond.instanceMethod y_St_init ∈ zz_W := List.mem_append_right _ (List.mem_append_right _ (List.mem_append_right _ (List.mem_append_left _ (List.mem_of_getElem? (i := 9) rfl))))
theorem mw_176 : Cond.code y_St_init prog_12_method_1_code 1 none ∈ zz_W := List.mem_append_right _ (List.mem_append_right _ (List.mem_append_right _ (List.mem_append_left _ (List.mem_of_getElem? (i := 10) rfl))))
theorem mw_177 : Cond.methodLink R_St 3 (⟨"java/lang/Object", "<init>", "()V"⟩ : MethodName) ∈ zz_W := List.mem_append_right _ (List.mem_append_right _ (List.mem_append_right _ (List.mem_append_left _ (List.mem_of_getElem? (i := 11) rfl))))
theorem mw_178 : Cond.fieldLink R_St 9 R_St "kind" "[I" ∈ zz_W := List.mem_append_right _ (List.mem_append_right _ (List.mem_append_right _ (List.mem_append_left _ (List.mem_of_getElem? (i := 12) rfl))))
theorem mw_180 : Cond.fieldLink R_St 15 R_St "map" "[I" ∈ zz_W := List.mem_append_right _ (List.mem_append_right _ (List.mem_append_right _ (List.mem_append_left _ (List.mem_of_getElem? (i := 13) rfl))))
theorem mw_182 : Cond.fieldLink R_St 18 R_St "tag" "[I" ∈ zz_W := List.mem_append_right _ (List.mem_append_right _ (List.mem_append_right _ (List.mem_append_left _ (List.mem_of_getElem? (i := 14) rfl))))
theorem mw_184 : Cond.fieldLink R_St 21 R_St "low" "[J" ∈ zz_W := List.mem_append_right _ (List.mem_append_right _ (List.mem_append_right _ (List.mem_append_left _ (List.mem_of_getElem? (i := 15) rfl))))
theorem mw_187 : Cond.fieldLink R_St 25 R_St "high" "[J" ∈ zz_W := List.mem_append_right _ (List.mem_append_right _ (List.mem_append_right _ (List.mem_append_left _ (List.mem_of_getElem? (i := 16) rfl))))
theorem mw_190 : Cond.fieldLink R_St 28 R_St "data" "[I" ∈ zz_W := List.mem_append_right _ (List.mem_append_right _ (List.mem_append_right _ (List.mem_append_left _ (List.mem_of_getElem? (i := 17) rfl))))
theorem mw_195 : Cond.laysFinal R_St R_St "kind" "[I" ∈ zz_W := List.mem_append_right _ (List.mem_append_right _ (List.mem_append_right _ (List.mem_append_left _ (List.mem_of_getElem? (i := 18) rfl))))
theorem mw_197 : Cond.laysFinal R_St R_St "map" "[I" ∈ zz_W := List.mem_append_right _ (List.mem_append_right _ (List.mem_append_right _ (List.mem_append_left _ (List.mem_of_getElem? (i := 19) rfl))))
theorem mw_199 : Cond.laysFinal R_St R_St "tag" "[I" ∈ zz_W := List.mem_append_right _ (List.mem_append_right _ (List.mem_append_right _ (List.mem_append_left _ (List.mem_of_getElem? (i := 20) rfl))))
theorem mw_201 : Cond.laysFinal R_St R_St "low" "[J" ∈ zz_W := List.mem_append_right _ (List.mem_append_right _ (List.mem_append_right _ (List.mem_append_left _ (List.mem_of_getElem? (i := 21) rfl))))
theorem mw_203 : Cond.laysFinal R_St R_St "high" "[J" ∈ zz_W := List.mem_append_right _ (List.mem_append_right _ (List.mem_append_right _ (List.mem_append_left _ (List.mem_of_getElem? (i := 22) rfl))))
theorem mw_205 : Cond.laysFinal R_St R_St "data" "[I" ∈ zz_W := List.mem_append_right _ (List.mem_append_right _ (List.mem_append_right _ (List.mem_append_left _ (List.mem_of_getElem? (i := 23) rfl))))
theorem mw_207 : Cond.lays R_St R_St "length" "I" ∈ zz_W := List.mem_append_right _ (List.mem_append_right _ (List.mem_append_right _ (List.mem_append_left _ (List.mem_of_getElem? (i := 24) rfl))))
theorem mw_209 : Cond.lays R_St R_St "at" "I" ∈ zz_W := List.mem_append_right _ (List.mem_append_right _ (List.mem_append_right _ (List.mem_append_left _ (List.mem_of_getElem? (i := 25) rfl))))
theorem mw_213 : Cond.classLink R_Ch 25 R_Ra ∈ zz_W := List.mem_append_right _ (List.mem_append_right _ (List.mem_append_right _ (List.mem_append_left _ (List.mem_of_getElem? (i := 26) rfl))))
theorem mw_214 : Cond.instantiable R_Ra 2 ∈ zz_W := List.mem_append_right _ (List.mem_append_right _ (List.mem_append_right _ (List.mem_append_left _ (List.mem_of_getElem? (i := 27) rfl))))
theorem mw_216 : Cond.instanceMethod y_Ra_init ∈ zz_W := List.mem_append_right _ (List.mem_append_right _ (List.mem_append_right _ (List.mem_append_left _ (List.mem_of_getElem? (i := 28) rfl))))
theorem mw_217 : Cond.code y_Ra_init prog_8_method_1_code 1 none ∈ zz_W := List.mem_append_right _ (List.mem_append_right _ (List.mem_append_right _ (List.mem_append_left _ (List.mem_of_getElem? (i := 29) rfl))))
theorem mw_218 : Cond.methodLink R_Ra 3 (⟨"java/lang/Object", "<init>", "()V"⟩ : MethodName) ∈ zz_W := List.mem_append_right _ (List.mem_append_right _ (List.mem_append_right _ (List.mem_append_left _ (List.mem_of_getElem? (i := 30) rfl))))
theorem mw_225 : Cond.lays R_Ra R_Ra "low" "J" ∈ zz_W := List.mem_append_right _ (List.mem_append_right _ (List.mem_append_right _ (List.mem_append_left _ (List.mem_of_getElem? (i := 31) rfl))))
theorem mw_227 : Cond.lays R_Ra R_Ra "high" "J" ∈ zz_W := List.mem_append_right _ (List.mem_append_right _ (List.mem_append_right _ (List.mem_append_left _ (List.mem_of_getElem? (i := 32) rfl))))
theorem mw_230 : Cond.fieldLink R_Ch 38 R_Ch "program" "LFilterGuard$Program;" ∈ zz_W := List.mem_append_right _ (List.mem_append_right _ (List.mem_append_right _ (List.mem_append_left _ (List.mem_of_getElem? (i := 33) rfl))))
theorem mw_231 : Cond.fieldLink R_Ch 42 R_Ch "maps" "LFilterGuard$Maps;" ∈ zz_W := List.mem_append_right _ (List.mem_append_right _ (List.mem_append_right _ (List.mem_append_left _ (List.mem_of_getElem? (i := 34) rfl))))
theorem mw_232 : Cond.fieldLink R_Ch 46 R_Ch "foretold" "LFilterGuard$Foretold;" ∈ zz_W := List.mem_append_right _ (List.mem_append_right _ (List.mem_append_right _ (List.mem_append_left _ (List.mem_of_getElem? (i := 35) rfl))))
theorem mw_233 : Cond.fieldLink R_Ch 12 R_Ch "now" "LFilterGuard$State;" ∈ zz_W := List.mem_append_right _ (List.mem_append_right _ (List.mem_append_right _ (List.mem_append_left _ (List.mem_of_getElem? (i := 36) rfl))))
theorem mw_234 : Cond.fieldLink R_Ch 18 R_Ch "other" "LFilterGuard$State;" ∈ zz_W := List.mem_append_right _ (List.mem_append_right _ (List.mem_append_right _ (List.mem_append_left _ (List.mem_of_getElem? (i := 37) rfl))))
theorem mw_235 : Cond.fieldLink R_Ch 21 R_Ch "waiting" "[LFilterGuard$State;" ∈ zz_W := List.mem_append_right _ (List.mem_append_right _ (List.mem_append_right _ (List.mem_append_left _ (List.mem_of_getElem? (i := 38) rfl))))
theorem mw_236 : Cond.fieldLink R_Ch 28 R_Ch "x" "LFilterGuard$Range;" ∈ zz_W := List.mem_append_right _ (List.mem_append_right _ (List.mem_append_right _ (List.mem_append_left _ (List.mem_of_getElem? (i := 39) rfl))))
theorem mw_237 : Cond.fieldLink R_Ch 32 R_Ch "y" "LFilterGuard$Range;" ∈ zz_W := List.mem_append_right _ (List.mem_append_right _ (List.mem_append_right _ (List.mem_append_left _ (List.mem_of_getElem? (i := 40) rfl))))
theorem mw_238 : Cond.fieldLink R_Ch 35 R_Ch "z" "LFilterGuard$Range;" ∈ zz_W := List.mem_append_right _ (List.mem_append_right _ (List.mem_append_right _ (List.mem_append_left _ (List.mem_of_getElem? (i := 41) rfl))))
theorem mw_241 : Cond.fieldLink R_Ch 54 R_Ch "gone" "I" ∈ zz_W := List.mem_append_right _ (List.mem_append_right _ (List.mem_append_right _ (List.mem_append_left _ (List.mem_of_getElem? (i := 42) rfl))))
theorem mw_242 : Cond.fieldLink R_FG 177 R_Ch "gone" "I" ∈ zz_W := List.mem_append_right _ (List.mem_append_right _ (List.mem_append_right _ (List.mem_append_left _ (List.mem_of_getElem? (i := 43) rfl))))
theorem mw_243 : Cond.fieldLink R_Ch 57 R_Ch "fault" "I" ∈ zz_W := List.mem_append_right _ (List.mem_append_right _ (List.mem_append_right _ (List.mem_append_left _ (List.mem_of_getElem? (i := 44) rfl))))
theorem mw_244 : Cond.fieldLink R_FG 171 R_Ch "fault" "I" ∈ zz_W := List.mem_append_right _ (List.mem_append_right _ (List.mem_append_right _ (List.mem_append_left _ (List.mem_of_getElem? (i := 45) rfl))))
theorem mw_245 : Cond.fieldLink R_Ch 50 R_Ch "faultAt" "I" ∈ zz_W := List.mem_append_right _ (List.mem_append_right _ (List.mem_append_right _ (List.mem_append_left _ (List.mem_of_getElem? (i := 46) rfl))))
theorem mw_246 : Cond.fieldLink R_FG 174 R_Ch "faultAt" "I" ∈ zz_W := List.mem_append_right _ (List.mem_append_right _ (List.mem_append_right _ (List.mem_append_left _ (List.mem_of_getElem? (i := 47) rfl))))
theorem mw_247 : Cond.laysFinal R_Ch R_Ch "program" "LFilterGuard$Program;" ∈ zz_W := List.mem_append_right _ (List.mem_append_right _ (List.mem_append_right _ (List.mem_append_left _ (List.mem_of_getElem? (i := 48) rfl))))
theorem mw_249 : Cond.laysFinal R_Ch R_Ch "maps" "LFilterGuard$Maps;" ∈ zz_W := List.mem_append_right _ (List.mem_append_right _ (List.mem_append_right _ (List.mem_append_left _ (List.mem_of_getElem? (i := 49) rfl))))
theorem mw_251 : Cond.laysFinal R_Ch R_Ch "foretold" "LFilterGuard$Foretold;" ∈ zz_W := List.mem_append_right _ (List.mem_append_right _ (List.mem_append_right _ (List.mem_append_right _ (List.mem_append_left _ (List.mem_of_getElem? (i := 0) rfl)))))
theorem mw_253 : Cond.laysFinal R_Ch R_Ch "now" "LFilterGuard$State;" ∈ zz_W := List.mem_append_right _ (List.mem_append_right _ (List.mem_append_right _ (List.mem_append_right _ (List.mem_append_left _ (List.mem_of_getElem? (i := 1) rfl)))))
theorem mw_255 : Cond.laysFinal R_Ch R_Ch "other" "LFilterGuard$State;" ∈ zz_W := List.mem_append_right _ (List.mem_append_right _ (List.mem_append_right _ (List.mem_append_right _ (List.mem_append_left _ (List.mem_of_getElem? (i := 2) rfl)))))
theorem mw_257 : Cond.laysFinal R_Ch R_Ch "waiting" "[LFilterGuard$State;" ∈ zz_W := List.mem_append_right _ (List.mem_append_right _ (List.mem_append_right _ (List.mem_append_right _ (List.mem_append_left _ (List.mem_of_getElem? (i := 3) rfl)))))
theorem mw_259 : Cond.laysFinal R_Ch R_Ch "x" "LFilterGuard$Range;" ∈ zz_W := List.mem_append_right _ (List.mem_append_right _ (List.mem_append_right _ (List.mem_append_right _ (List.mem_append_left _ (List.mem_of_getElem? (i := 4) rfl)))))
theorem mw_261 : Cond.laysFinal R_Ch R_Ch "y" "LFilterGuard$Range;" ∈ zz_W := List.mem_append_right _ (List.mem_append_right _ (List.mem_append_right _ (List.mem_append_right _ (List.mem_append_left _ (List.mem_of_getElem? (i := 5) rfl)))))
theorem mw_263 : Cond.laysFinal R_Ch R_Ch "z" "LFilterGuard$Range;" ∈ zz_W := List.mem_append_right _ (List.mem_append_right _ (List.mem_append_right _ (List.mem_append_right _ (List.mem_append_left _ (List.mem_of_getElem? (i := 6) rfl)))))
theorem mw_265 : Cond.lays R_Ch R_Ch "waits" "I" ∈ zz_W := List.mem_append_right _ (List.mem_append_right _ (List.mem_append_right _ (List.mem_append_right _ (List.mem_append_left _ (List.mem_of_getElem? (i := 7) rfl)))))
theorem mw_267 : Cond.lays R_Ch R_Ch "tags" "I" ∈ zz_W := List.mem_append_right _ (List.mem_append_right _ (List.mem_append_right _ (List.mem_append_right _ (List.mem_append_left _ (List.mem_of_getElem? (i := 8) rfl)))))
theorem mw_269 : Cond.lays R_Ch R_Ch "gone" "I" ∈ zz_W := List.mem_append_right _ (List.mem_append_right _ (List.mem_append_right _ (List.mem_append_right _ (List.mem_append_left _ (List.mem_of_getElem? (i := 9) rfl)))))
theorem mw_271 : Cond.lays R_Ch R_Ch "fault" "I" ∈ zz_W := List.mem_append_right _ (List.mem_append_right _ (List.mem_append_right _ (List.mem_append_right _ (List.mem_append_left _ (List.mem_of_getElem? (i := 10) rfl)))))
theorem mw_273 : Cond.lays R_Ch R_Ch "faultAt" "I" ∈ zz_W := List.mem_append_right _ (List.mem_append_right _ (List.mem_append_right _ (List.mem_append_right _ (List.mem_append_left _ (List.mem_of_getElem? (i := 11) rfl)))))
theorem mw_276 : Cond.classLink R_FG 48 R_Ru ∈ zz_W := List.mem_append_right _ (List.mem_append_right _ (List.mem_append_right _ (List.mem_append_right _ (List.mem_append_left _ (List.mem_of_getElem? (i := 12) rfl)))))
theorem mw_277 : Cond.instantiable R_Ru 12 ∈ zz_W := List.mem_append_right _ (List.mem_append_right _ (List.mem_append_right _ (List.mem_append_right _ (List.mem_append_left _ (List.mem_of_getElem? (i := 13) rfl)))))
theorem mw_278 : Cond.methodLink R_FG 50 y_Ru_init ∈ zz_W := List.mem_append_right _ (List.mem_append_right _ (List.mem_append_right _ (List.mem_append_right _ (List.mem_append_left _ (List.mem_of_getElem? (i := 14) rfl)))))
theorem mw_279 : Cond.instanceMethod y_Ru_init ∈ zz_W := List.mem_append_right _ (List.mem_append_right _ (List.mem_append_right _ (List.mem_append_right _ (List.mem_append_left _ (List.mem_of_getElem? (i := 15) rfl)))))
theorem mw_280 : Cond.code y_Ru_init prog_10_method_1_code 4 none ∈ zz_W := List.mem_append_right _ (List.mem_append_right _ (List.mem_append_right _ (List.mem_append_right _ (List.mem_append_left _ (List.mem_of_getElem? (i := 16) rfl)))))
theorem mw_281 : Cond.methodLink R_Ru 3 (⟨"java/lang/Object", "<init>", "()V"⟩ : MethodName) ∈ zz_W := List.mem_append_right _ (List.mem_append_right _ (List.mem_append_right _ (List.mem_append_right _ (List.mem_append_left _ (List.mem_of_getElem? (i := 17) rfl)))))
theorem mw_282 : Cond.fieldLink R_Ru 22 R_Ru "program" "LFilterGuard$Program;" ∈ zz_W := List.mem_append_right _ (List.mem_append_right _ (List.mem_append_right _ (List.mem_append_right _ (List.mem_append_left _ (List.mem_of_getElem? (i := 18) rfl)))))
theorem mw_283 : Cond.fieldLink R_Ru 26 R_Ru "foretold" "LFilterGuard$Foretold;" ∈ zz_W := List.mem_append_right _ (List.mem_append_right _ (List.mem_append_right _ (List.mem_append_right _ (List.mem_append_left _ (List.mem_of_getElem? (i := 19) rfl)))))
theorem mw_284 : Cond.fieldLink R_Ru 30 R_Ru "memory" "LFilterGuard$Memory;" ∈ zz_W := List.mem_append_right _ (List.mem_append_right _ (List.mem_append_right _ (List.mem_append_right _ (List.mem_append_left _ (List.mem_of_getElem? (i := 20) rfl)))))
theorem mw_285 : Cond.fieldLink R_Ru 9 R_Ru "register" "[J" ∈ zz_W := List.mem_append_right _ (List.mem_append_right _ (List.mem_append_right _ (List.mem_append_right _ (List.mem_append_left _ (List.mem_of_getElem? (i := 21) rfl)))))
theorem mw_286 : Cond.fieldLink R_Ru 15 R_Ru "kind" "[I" ∈ zz_W := List.mem_append_right _ (List.mem_append_right _ (List.mem_append_right _ (List.mem_append_right _ (List.mem_append_left _ (List.mem_of_getElem? (i := 22) rfl)))))
theorem mw_287 : Cond.fieldLink R_Ru 19 R_Ru "log" "[J" ∈ zz_W := List.mem_append_right _ (List.mem_append_right _ (List.mem_append_right _ (List.mem_append_right _ (List.mem_append_left _ (List.mem_of_getElem? (i := 23) rfl)))))
theorem mw_289 : Cond.fieldLink R_Ru 34 R_Ru "logged" "I" ∈ zz_W := List.mem_append_right _ (List.mem_append_right _ (List.mem_append_right _ (List.mem_append_right _ (List.mem_append_left _ (List.mem_of_getElem? (i := 24) rfl)))))
theorem mw_290 : Cond.fieldLink R_FG 151 R_Ru "logged" "I" ∈ zz_W := List.mem_append_right _ (List.mem_append_right _ (List.mem_append_right _ (List.mem_append_right _ (List.mem_append_left _ (List.mem_of_getElem? (i := 25) rfl)))))
theorem mw_291 : Cond.fieldLink R_Ru 38 R_Ru "done" "I" ∈ zz_W := List.mem_append_right _ (List.mem_append_right _ (List.mem_append_right _ (List.mem_append_right _ (List.mem_append_left _ (List.mem_of_getElem? (i := 26) rfl)))))
theorem mw_292 : Cond.fieldLink R_FG 180 R_Ru "done" "I" ∈ zz_W := List.mem_append_right _ (List.mem_append_right _ (List.mem_append_right _ (List.mem_append_right _ (List.mem_append_left _ (List.mem_of_getElem? (i := 27) rfl)))))
theorem mw_293 : Cond.fieldLink R_FG 116 R_Ru "chance" "J" ∈ zz_W := List.mem_append_right _ (List.mem_append_right _ (List.mem_append_right _ (List.mem_append_right _ (List.mem_append_left _ (List.mem_of_getElem? (i := 28) rfl)))))
theorem mw_297 : Cond.fieldLink R_Ru 41 R_Ru "unforetold" "I" ∈ zz_W := List.mem_append_right _ (List.mem_append_right _ (List.mem_append_right _ (List.mem_append_right _ (List.mem_append_left _ (List.mem_of_getElem? (i := 29) rfl)))))
theorem mw_298 : Cond.laysFinal R_Ru R_Ru "program" "LFilterGuard$Program;" ∈ zz_W := List.mem_append_right _ (List.mem_append_right _ (List.mem_append_right _ (List.mem_append_right _ (List.mem_append_left _ (List.mem_of_getElem? (i := 30) rfl)))))
theorem mw_300 : Cond.laysFinal R_Ru R_Ru "foretold" "LFilterGuard$Foretold;" ∈ zz_W := List.mem_append_right _ (List.mem_append_right _ (List.mem_append_right _ (List.mem_append_right _ (List.mem_append_left _ (List.mem_of_getElem? (i := 31) rfl)))))
theorem mw_302 : Cond.laysFinal R_Ru R_Ru "memory" "LFilterGuard$Memory;" ∈ zz_W := List.mem_append_right _ (List.mem_append_right _ (List.mem_append_right _ (List.mem_append_right _ (List.mem_append_left _ (List.mem_of_getElem? (i := 32) rfl)))))
theorem mw_304 : Cond.laysFinal R_Ru R_Ru "register" "[J" ∈ zz_W := List.mem_append_right _ (List.mem_append_right _ (List.mem_append_right _ (List.mem_append_right _ (List.mem_append_left _ (List.mem_of_getElem? (i := 33) rfl)))))
theorem mw_306 : Cond.laysFinal R_Ru R_Ru "kind" "[I" ∈ zz_W := List.mem_append_right _ (List.mem_append_right _ (List.mem_append_right _ (List.mem_append_right _ (List.mem_append_left _ (List.mem_of_getElem? (i := 34) rfl)))))
theorem mw_308 : Cond.laysFinal R_Ru R_Ru "log" "[J" ∈ zz_W := List.mem_append_right _ (List.mem_append_right _ (List.mem_append_right _ (List.mem_append_right _ (List.mem_append_left _ (List.mem_of_getElem? (i := 35) rfl)))))
theorem mw_310 : Cond.lays R_Ru R_Ru "logged" "I" ∈ zz_W := List.mem_append_right _ (List.mem_append_right _ (List.mem_append_right _ (List.mem_append_right _ (List.mem_append_left _ (List.mem_of_getElem? (i := 36) rfl)))))
theorem mw_312 : Cond.lays R_Ru R_Ru "done" "I" ∈ zz_W := List.mem_append_right _ (List.mem_append_right _ (List.mem_append_right _ (List.mem_append_right _ (List.mem_append_left _ (List.mem_of_getElem? (i := 37) rfl)))))
theorem mw_314 : Cond.lays R_Ru R_Ru "chance" "J" ∈ zz_W := List.mem_append_right _ (List.mem_append_right _ (List.mem_append_right _ (List.mem_append_right _ (List.mem_append_left _ (List.mem_of_getElem? (i := 38) rfl)))))
theorem mw_316 : Cond.lays R_Ru R_Ru "at" "I" ∈ zz_W := List.mem_append_right _ (List.mem_append_right _ (List.mem_append_right _ (List.mem_append_right _ (List.mem_append_left _ (List.mem_of_getElem? (i := 39) rfl)))))
theorem mw_318 : Cond.lays R_Ru R_Ru "looks" "I" ∈ zz_W := List.mem_append_right _ (List.mem_append_right _ (List.mem_append_right _ (List.mem_append_right _ (List.mem_append_left _ (List.mem_of_getElem? (i := 40) rfl)))))
theorem mw_320 : Cond.lays R_Ru R_Ru "unforetold" "I" ∈ zz_W := List.mem_append_right _ (List.mem_append_right _ (List.mem_append_right _ (List.mem_append_right _ (List.mem_append_left _ (List.mem_of_getElem? (i := 41) rfl)))))
theorem mw_323 : Cond.fieldLink R_FG 12 R_FG "program" "LFilterGuard$Program;" ∈ zz_W := List.mem_append_right _ (List.mem_append_right _ (List.mem_append_right _ (List.mem_append_right _ (List.mem_append_left _ (List.mem_of_getElem? (i := 42) rfl)))))
theorem mw_324 : Cond.fieldLink R_FG 19 R_FG "maps" "LFilterGuard$Maps;" ∈ zz_W := List.mem_append_right _ (List.mem_append_right _ (List.mem_append_right _ (List.mem_append_right _ (List.mem_append_left _ (List.mem_of_getElem? (i := 43) rfl)))))
theorem mw_325 : Cond.fieldLink R_FG 28 R_FG "memory" "LFilterGuard$Memory;" ∈ zz_W := List.mem_append_right _ (List.mem_append_right _ (List.mem_append_right _ (List.mem_append_right _ (List.mem_append_left _ (List.mem_of_getElem? (i := 44) rfl)))))
theorem mw_326 : Cond.fieldLink R_FG 35 R_FG "foretold" "LFilterGuard$Foretold;" ∈ zz_W := List.mem_append_right _ (List.mem_append_right _ (List.mem_append_right _ (List.mem_append_right _ (List.mem_append_left _ (List.mem_of_getElem? (i := 45) rfl)))))
theorem mw_327 : Cond.fieldLink R_FG 44 R_FG "checker" "LFilterGuard$Checker;" ∈ zz_W := List.mem_append_right _ (List.mem_append_right _ (List.mem_append_right _ (List.mem_append_right _ (List.mem_append_left _ (List.mem_of_getElem? (i := 46) rfl)))))
theorem mw_328 : Cond.fieldLink R_FG 53 R_FG "runner" "LFilterGuard$Runner;" ∈ zz_W := List.mem_append_right _ (List.mem_append_right _ (List.mem_append_right _ (List.mem_append_right _ (List.mem_append_left _ (List.mem_of_getElem? (i := 47) rfl)))))
theorem mw_329 : Cond.fieldLink R_FG 57 R_FG "passed" "Z" ∈ zz_W := List.mem_append_right _ (List.mem_append_right _ (List.mem_append_right _ (List.mem_append_right _ (List.mem_append_left _ (List.mem_of_getElem? (i := 48) rfl)))))
theorem mw_330 : Cond.laysFinal R_FG R_FG "program" "LFilterGuard$Program;" ∈ zz_W := List.mem_append_right _ (List.mem_append_right _ (List.mem_append_right _ (List.mem_append_right _ (List.mem_append_left _ (List.mem_of_getElem? (i := 49) rfl)))))
theorem mw_332 : Cond.laysFinal R_FG R_FG "maps" "LFilterGuard$Maps;" ∈ zz_W := List.mem_append_right _ (List.mem_append_right _ (List.mem_append_right _ (List.mem_append_right _ (List.mem_append_right _ (List.mem_append_left _ (List.mem_of_getElem? (i := 0) rfl))))))
theorem mw_334 : Cond.laysFinal R_FG R_FG "memory" "LFilterGuard$Memory;" ∈ zz_W := List.mem_append_right _ (List.mem_append_right _ (List.mem_append_right _ (List.mem_append_right _ (List.mem_append_right _ (List.mem_append_left _ (List.mem_of_getElem? (i := 1) rfl))))))
theorem mw_336 : Cond.laysFinal R_FG R_FG "foretold" "LFilterGuard$Foretold;" ∈ zz_W := List.mem_append_right _ (List.mem_append_right _ (List.mem_append_right _ (List.mem_append_right _ (List.mem_append_right _ (List.mem_append_left _ (List.mem_of_getElem? (i := 2) rfl))))))
theorem mw_338 : Cond.laysFinal R_FG R_FG "checker" "LFilterGuard$Checker;" ∈ zz_W := List.mem_append_right _ (List.mem_append_right _ (List.mem_append_right _ (List.mem_append_right _ (List.mem_append_right _ (List.mem_append_left _ (List.mem_of_getElem? (i := 3) rfl))))))
theorem mw_340 : Cond.laysFinal R_FG R_FG "runner" "LFilterGuard$Runner;" ∈ zz_W := List.mem_append_right _ (List.mem_append_right _ (List.mem_append_right _ (List.mem_append_right _ (List.mem_append_right _ (List.mem_append_left _ (List.mem_of_getElem? (i := 4) rfl))))))
theorem mw_342 : Cond.lays R_FG R_FG "passed" "Z" ∈ zz_W := List.mem_append_right _ (List.mem_append_right _ (List.mem_append_right _ (List.mem_append_right _ (List.mem_append_right _ (List.mem_append_left _ (List.mem_of_getElem? (i := 5) rfl))))))
theorem mw_345 : Cond.methodLink R_La 75 y_FG_clear ∈ zz_W := List.mem_append_right _ (List.mem_append_right _ (List.mem_append_right _ (List.mem_append_right _ (List.mem_append_right _ (List.mem_append_left _ (List.mem_of_getElem? (i := 6) rfl))))))
theorem mw_346 : Cond.instanceMethod y_FG_clear ∈ zz_W := List.mem_append_right _ (List.mem_append_right _ (List.mem_append_right _ (List.mem_append_right _ (List.mem_append_right _ (List.mem_append_left _ (List.mem_of_getElem? (i := 7) rfl))))))
theorem mw_347 : Cond.selects R_FG y_FG_clear y_FG_clear ∈ zz_W := List.mem_append_right _ (List.mem_append_right _ (List.mem_append_right _ (List.mem_append_right _ (List.mem_append_right _ (List.mem_append_left _ (List.mem_of_getElem? (i := 8) rfl))))))
theorem mw_348 : Cond.code y_FG_clear prog_1_method_5_code 1 none ∈ zz_W := List.mem_append_right _ (List.mem_append_right _ (List.mem_append_right _ (List.mem_append_right _ (List.mem_append_right _ (List.mem_append_left _ (List.mem_of_getElem? (i := 9) rfl))))))
theorem mw_349 : Cond.methodLink R_FG 97 y_Ma_forget ∈ zz_W := List.mem_append_right _ (List.mem_append_right _ (List.mem_append_right _ (List.mem_append_right _ (List.mem_append_right _ (List.mem_append_left _ (List.mem_of_getElem? (i := 10) rfl))))))
theorem mw_350 : Cond.instanceMethod y_Ma_forget ∈ zz_W := List.mem_append_right _ (List.mem_append_right _ (List.mem_append_right _ (List.mem_append_right _ (List.mem_append_right _ (List.mem_append_left _ (List.mem_of_getElem? (i := 11) rfl))))))
theorem mw_351 : Cond.selects R_Ma y_Ma_forget y_Ma_forget ∈ zz_W := List.mem_append_right _ (List.mem_append_right _ (List.mem_append_right _ (List.mem_append_right _ (List.mem_append_right _ (List.mem_append_left _ (List.mem_of_getElem? (i := 12) rfl))))))
theorem mw_352 : Cond.code y_Ma_forget prog_5_method_3_code 2 none ∈ zz_W := List.mem_append_right _ (List.mem_append_right _ (List.mem_append_right _ (List.mem_append_right _ (List.mem_append_right _ (List.mem_append_left _ (List.mem_of_getElem? (i := 13) rfl))))))
theorem mw_353 : Cond.methodLink R_Ma 39 y_Ar_fill ∈ zz_W := List.mem_append_right _ (List.mem_append_right _ (List.mem_append_right _ (List.mem_append_right _ (List.mem_append_right _ (List.mem_append_left _ (List.mem_of_getElem? (i := 14) rfl))))))
theorem mw_354 : Cond.static y_Ar_fill ∈ zz_W := List.mem_append_right _ (List.mem_append_right _ (List.mem_append_right _ (List.mem_append_right _ (List.mem_append_right _ (List.mem_append_left _ (List.mem_of_getElem? (i := 15) rfl))))))
theorem mw_355 : Cond.code y_Ar_fill prog_27_method_109_code 4 none ∈ zz_W := List.mem_append_right _ (List.mem_append_right _ (List.mem_append_right _ (List.mem_append_right _ (List.mem_append_right _ (List.mem_append_left _ (List.mem_of_getElem? (i := 16) rfl))))))
theorem mw_356 : Cond.methodLink R_FG 100 y_Ch_forget ∈ zz_W := List.mem_append_right _ (List.mem_append_right _ (List.mem_append_right _ (List.mem_append_right _ (List.mem_append_right _ (List.mem_append_left _ (List.mem_of_getElem? (i := 17) rfl))))))
theorem mw_357 : Cond.instanceMethod y_Ch_forget ∈ zz_W := List.mem_append_right _ (List.mem_append_right _ (List.mem_append_right _ (List.mem_append_right _ (List.mem_append_right _ (List.mem_append_left _ (List.mem_of_getElem? (i := 18) rfl))))))
theorem mw_358 : Cond.selects R_Ch y_Ch_forget y_Ch_forget ∈ zz_W := List.mem_append_right _ (List.mem_append_right _ (List.mem_append_right _ (List.mem_append_right _ (List.mem_append_right _ (List.mem_append_left _ (List.mem_of_getElem? (i := 19) rfl))))))
theorem mw_359 : Cond.code y_Ch_forget prog_3_method_2_code 1 none ∈ zz_W := List.mem_append_right _ (List.mem_append_right _ (List.mem_append_right _ (List.mem_append_right _ (List.mem_append_right _ (List.mem_append_left _ (List.mem_of_getElem? (i := 20) rfl))))))
theorem mw_360 : Cond.methodLink R_FG 101 y_Ru_forget ∈ zz_W := List.mem_append_right _ (List.mem_append_right _ (List.mem_append_right _ (List.mem_append_right _ (List.mem_append_right _ (List.mem_append_left _ (List.mem_of_getElem? (i := 21) rfl))))))
theorem mw_361 : Cond.instanceMethod y_Ru_forget ∈ zz_W := List.mem_append_right _ (List.mem_append_right _ (List.mem_append_right _ (List.mem_append_right _ (List.mem_append_right _ (List.mem_append_left _ (List.mem_of_getElem? (i := 22) rfl))))))
theorem mw_362 : Cond.selects R_Ru y_Ru_forget y_Ru_forget ∈ zz_W := List.mem_append_right _ (List.mem_append_right _ (List.mem_append_right _ (List.mem_append_right _ (List.mem_append_right _ (List.mem_append_left _ (List.mem_of_getElem? (i := 23) rfl))))))
theorem mw_363 : Cond.code y_Ru_forget prog_10_method_2_code 1 none ∈ zz_W := List.mem_append_right _ (List.mem_append_right _ (List.mem_append_right _ (List.mem_append_right _ (List.mem_append_right _ (List.mem_append_left _ (List.mem_of_getElem? (i := 24) rfl))))))
theorem mw_364 : Cond.methodLink R_La 88 y_FG_seed ∈ zz_W := List.mem_append_right _ (List.mem_append_right _ (List.mem_append_right _ (List.mem_append_right _ (List.mem_append_right _ (List.mem_append_left _ (List.mem_of_getElem? (i := 25) rfl))))))
theorem mw_365 : Cond.instanceMethod y_FG_seed ∈ zz_W := List.mem_append_right _ (List.mem_append_right _ (List.mem_append_right _ (List.mem_append_right _ (List.mem_append_right _ (List.mem_append_left _ (List.mem_of_getElem? (i := 26) rfl))))))
theorem mw_366 : Cond.selects R_FG y_FG_seed y_FG_seed ∈ zz_W := List.mem_append_right _ (List.mem_append_right _ (List.mem_append_right _ (List.mem_append_right _ (List.mem_append_right _ (List.mem_append_left _ (List.mem_of_getElem? (i := 27) rfl))))))
theorem mw_367 : Cond.code y_FG_seed prog_1_method_8_code 3 none ∈ zz_W := List.mem_append_right _ (List.mem_append_right _ (List.mem_append_right _ (List.mem_append_right _ (List.mem_append_right _ (List.mem_append_left _ (List.mem_of_getElem? (i := 28) rfl))))))
theorem mw_368 : Cond.methodLink R_La 108 y_FG_count ∈ zz_W := List.mem_append_right _ (List.mem_append_right _ (List.mem_append_right _ (List.mem_append_right _ (List.mem_append_right _ (List.mem_append_left _ (List.mem_of_getElem? (i := 29) rfl))))))
theorem mw_369 : Cond.instanceMethod y_FG_count ∈ zz_W := List.mem_append_right _ (List.mem_append_right _ (List.mem_append_right _ (List.mem_append_right _ (List.mem_append_right _ (List.mem_append_left _ (List.mem_of_getElem? (i := 30) rfl))))))
theorem mw_370 : Cond.selects R_FG y_FG_count y_FG_count ∈ zz_W := List.mem_append_right _ (List.mem_append_right _ (List.mem_append_right _ (List.mem_append_right _ (List.mem_append_right _ (List.mem_append_left _ (List.mem_of_getElem? (i := 31) rfl))))))
theorem mw_371 : Cond.code y_FG_count prog_1_method_14_code 2 (some .int) ∈ zz_W := List.mem_append_right _ (List.mem_append_right _ (List.mem_append_right _ (List.mem_append_right _ (List.mem_append_right _ (List.mem_append_left _ (List.mem_of_getElem? (i := 32) rfl))))))
theorem mw_372 : Cond.methodLink R_FG 183 y_Ru_strays ∈ zz_W := List.mem_append_right _ (List.mem_append_right _ (List.mem_append_right _ (List.mem_append_right _ (List.mem_append_right _ (List.mem_append_left _ (List.mem_of_getElem? (i := 33) rfl))))))
theorem mw_373 : Cond.instanceMethod y_Ru_strays ∈ zz_W := List.mem_append_right _ (List.mem_append_right _ (List.mem_append_right _ (List.mem_append_right _ (List.mem_append_right _ (List.mem_append_left _ (List.mem_of_getElem? (i := 34) rfl))))))
theorem mw_374 : Cond.selects R_Ru y_Ru_strays y_Ru_strays ∈ zz_W := List.mem_append_right _ (List.mem_append_right _ (List.mem_append_right _ (List.mem_append_right _ (List.mem_append_right _ (List.mem_append_left _ (List.mem_of_getElem? (i := 35) rfl))))))
theorem mw_375 : Cond.code y_Ru_strays prog_10_method_3_code 1 (some .int) ∈ zz_W := List.mem_append_right _ (List.mem_append_right _ (List.mem_append_right _ (List.mem_append_right _ (List.mem_append_right _ (List.mem_append_left _ (List.mem_of_getElem? (i := 36) rfl))))))
theorem mw_376 : Cond.methodLink R_La 58 y_La_map ∈ zz_W := List.mem_append_right _ (List.mem_append_right _ (List.mem_append_right _ (List.mem_append_right _ (List.mem_append_right _ (List.mem_append_left _ (List.mem_of_getElem? (i := 37) rfl))))))
theorem mw_377 : Cond.static y_La_map ∈ zz_W := List.mem_append_right _ (List.mem_append_right _ (List.mem_append_right _ (List.mem_append_right _ (List.mem_append_right _ (List.mem_append_left _ (List.mem_of_getElem? (i := 38) rfl))))))
theorem mw_378 : Cond.codeWith y_La_map method_3_code 6 (some .int) [(0, 12, 15, 13), (0, 12, 19, 15)] ∈ zz_W := List.mem_append_right _ (List.mem_append_right _ (List.mem_append_right _ (List.mem_append_right _ (List.mem_append_right _ (List.mem_append_left _ (List.mem_of_getElem? (i := 39) rfl))))))
theorem mw_379 : Cond.classLink R_La 13 "java/lang/IllegalArgumentException" ∈ zz_W := List.mem_append_right _ (List.mem_append_right _ (List.mem_append_right _ (List.mem_append_right _ (List.mem_append_right _ (List.mem_append_left _ (List.mem_of_getElem? (i := 40) rfl))))))
theorem mw_380 : Cond.classLink R_La 15 "java/lang/IllegalStateException" ∈ zz_W := List.mem_append_right _ (List.mem_append_right _ (List.mem_append_right _ (List.mem_append_right _ (List.mem_append_right _ (List.mem_append_left _ (List.mem_of_getElem? (i := 41) rfl))))))
theorem mw_381 : Cond.methodLink R_La 7 y_FG_map ∈ zz_W := List.mem_append_right _ (List.mem_append_right _ (List.mem_append_right _ (List.mem_append_right _ (List.mem_append_right _ (List.mem_append_left _ (List.mem_of_getElem? (i := 42) rfl))))))
theorem mw_382 : Cond.instanceMethod y_FG_map ∈ zz_W := List.mem_append_right _ (List.mem_append_right _ (List.mem_append_right _ (List.mem_append_right _ (List.mem_append_right _ (List.mem_append_left _ (List.mem_of_getElem? (i := 43) rfl))))))
theorem mw_383 : Cond.selects R_FG y_FG_map y_FG_map ∈ zz_W := List.mem_append_right _ (List.mem_append_right _ (List.mem_append_right _ (List.mem_append_right _ (List.mem_append_right _ (List.mem_append_left _ (List.mem_of_getElem? (i := 44) rfl))))))
theorem mw_384 : Cond.code y_FG_map prog_1_method_2_code 4 (some .int) ∈ zz_W := List.mem_append_right _ (List.mem_append_right _ (List.mem_append_right _ (List.mem_append_right _ (List.mem_append_right _ (List.mem_append_left _ (List.mem_of_getElem? (i := 45) rfl))))))
theorem mw_385 : Cond.methodLink R_FG 61 y_FG_within ∈ zz_W := List.mem_append_right _ (List.mem_append_right _ (List.mem_append_right _ (List.mem_append_right _ (List.mem_append_right _ (List.mem_append_left _ (List.mem_of_getElem? (i := 46) rfl))))))
theorem mw_386 : Cond.static y_FG_within ∈ zz_W := List.mem_append_right _ (List.mem_append_right _ (List.mem_append_right _ (List.mem_append_right _ (List.mem_append_right _ (List.mem_append_left _ (List.mem_of_getElem? (i := 47) rfl))))))
theorem mw_387 : Cond.code y_FG_within prog_1_method_15_code 3 (some .boolean) ∈ zz_W := List.mem_append_right _ (List.mem_append_right _ (List.mem_append_right _ (List.mem_append_right _ (List.mem_append_right _ (List.mem_append_left _ (List.mem_of_getElem? (i := 48) rfl))))))
theorem mw_388 : Cond.classLink R_FG 65 "java/lang/IllegalArgumentException" ∈ zz_W := List.mem_append_right _ (List.mem_append_right _ (List.mem_append_right _ (List.mem_append_right _ (List.mem_append_right _ (List.mem_append_left _ (List.mem_of_getElem? (i := 49) rfl))))))
theorem mw_389 : Cond.instantiable "java/lang/IllegalArgumentException" 6 ∈ zz_W := List.mem_append_right _ (List.mem_append_right _ (List.mem_append_right _ (List.mem_append_right _ (List.mem_append_right _ (List.mem_append_right _ (List.mem_append_left _ (List.mem_of_getElem? (i := 0) rfl)))))))
theorem mw_397 : Cond.selects "java/lang/IllegalArgumentException" (⟨"java/lang/Throwable", "fillInStackTrace", "(I)Ljava/lang/Throwable;"⟩ : MethodName) (⟨"java/lang/Throwable", "fillInStackTrace", "(I)Ljava/lang/Throwable;"⟩ : MethodName) ∈ zz_W := List.mem_append_right _ (List.mem_append_right _ (List.mem_append_right _ (List.mem_append_right _ (List.mem_append_right _ (List.mem_append_right _ (List.mem_append_left _ (List.mem_of_getElem? (i := 1) rfl)))))))
theorem mw_398 : Cond.selects "java/lang/IllegalArgumentException" (⟨"java/lang/Throwable", "fillInStackTrace", "()Ljava/lang/Throwable;"⟩ : MethodName) (⟨"java/lang/Throwable", "fillInStackTrace", "()Ljava/lang/Throwable;"⟩ : MethodName) ∈ zz_W := List.mem_append_right _ (List.mem_append_right _ (List.mem_append_right _ (List.mem_append_right _ (List.mem_append_right _ (List.mem_append_right _ (List.mem_append_left _ (List.mem_of_getElem? (i := 2) rfl)))))))
theorem mw_399 : Cond.lays "java/lang/IllegalArgumentException" "java/lang/Throwable" "cause" "Ljava/lang/Throwable;" ∈ zz_W := List.mem_append_right _ (List.mem_append_right _ (List.mem_append_right _ (List.mem_append_right _ (List.mem_append_right _ (List.mem_append_right _ (List.mem_append_left _ (List.mem_of_getElem? (i := 3) rfl)))))))
theorem mw_400 : Cond.lays "java/lang/Throwable" "java/lang/Throwable" "cause" "Ljava/lang/Throwable;" ∈ zz_W := List.mem_append_right _ (List.mem_append_right _ (List.mem_append_right _ (List.mem_append_right _ (List.mem_append_right _ (List.mem_append_right _ (List.mem_append_left _ (List.mem_of_getElem? (i := 4) rfl)))))))
theorem mw_401 : Cond.lays "java/lang/IllegalArgumentException" "java/lang/Throwable" "stackTrace" "[Ljava/lang/StackTraceElement;" ∈ zz_W := List.mem_append_right _ (List.mem_append_right _ (List.mem_append_right _ (List.mem_append_right _ (List.mem_append_right _ (List.mem_append_right _ (List.mem_append_left _ (List.mem_of_getElem? (i := 5) rfl)))))))
theorem mw_402 : Cond.lays "java/lang/Throwable" "java/lang/Throwable" "stackTrace" "[Ljava/lang/StackTraceElement;" ∈ zz_W := List.mem_append_right _ (List.mem_append_right _ (List.mem_append_right _ (List.mem_append_right _ (List.mem_append_right _ (List.mem_append_right _ (List.mem_append_left _ (List.mem_of_getElem? (i := 6) rfl)))))))
theorem mw_403 : Cond.lays "java/lang/IllegalArgumentException" "java/lang/Throwable" "suppressedExceptions" "Ljava/util/List;" ∈ zz_W := List.mem_append_right _ (List.mem_append_right _ (List.mem_append_right _ (List.mem_append_right _ (List.mem_append_right _ (List.mem_append_right _ (List.mem_append_left _ (List.mem_of_getElem? (i := 7) rfl)))))))
theorem mw_404 : Cond.lays "java/lang/Throwable" "java/lang/Throwable" "suppressedExceptions" "Ljava/util/List;" ∈ zz_W := List.mem_append_right _ (List.mem_append_right _ (List.mem_append_right _ (List.mem_append_right _ (List.mem_append_right _ (List.mem_append_right _ (List.mem_append_left _ (List.mem_of_getElem? (i := 8) rfl)))))))
theorem mw_405 : Cond.lays "java/lang/IllegalArgumentException" "java/lang/Throwable" "detailMessage" "Ljava/lang/String;" ∈ zz_W := List.mem_append_right _ (List.mem_append_right _ (List.mem_append_right _ (List.mem_append_right _ (List.mem_append_right _ (List.mem_append_right _ (List.mem_append_left _ (List.mem_of_getElem? (i := 9) rfl)))))))
theorem mw_406 : Cond.lays "java/lang/Throwable" "java/lang/Throwable" "detailMessage" "Ljava/lang/String;" ∈ zz_W := List.mem_append_right _ (List.mem_append_right _ (List.mem_append_right _ (List.mem_append_right _ (List.mem_append_right _ (List.mem_append_right _ (List.mem_append_left _ (List.mem_of_getElem? (i := 10) rfl)))))))
theorem mw_407 : Cond.lays "java/lang/IllegalArgumentException" "java/lang/Throwable" "backtrace" "Ljava/lang/Object;" ∈ zz_W := List.mem_append_right _ (List.mem_append_right _ (List.mem_append_right _ (List.mem_append_right _ (List.mem_append_right _ (List.mem_append_right _ (List.mem_append_left _ (List.mem_of_getElem? (i := 11) rfl)))))))
theorem mw_408 : Cond.lays "java/lang/Throwable" "java/lang/Throwable" "backtrace" "Ljava/lang/Object;" ∈ zz_W := List.mem_append_right _ (List.mem_append_right _ (List.mem_append_right _ (List.mem_append_right _ (List.mem_append_right _ (List.mem_append_right _ (List.mem_append_left _ (List.mem_of_getElem? (i := 12) rfl)))))))
theorem mw_409 : Cond.fieldLink "java/lang/Throwable" 198 "java/lang/Throwable" "backtrace" "Ljava/lang/Object;" ∈ zz_W := List.mem_append_right _ (List.mem_append_right _ (List.mem_append_right _ (List.mem_append_right _ (List.mem_append_right _ (List.mem_append_right _ (List.mem_append_left _ (List.mem_of_getElem? (i := 13) rfl)))))))
theorem mw_410 : Cond.superclass "java/lang/Throwable" "java/lang/Object" ∈ zz_W := List.mem_append_right _ (List.mem_append_right _ (List.mem_append_right _ (List.mem_append_right _ (List.mem_append_right _ (List.mem_append_right _ (List.mem_append_left _ (List.mem_of_getElem? (i := 14) rfl)))))))
theorem mw_411 : Cond.instanceMethod (⟨"java/lang/Throwable", "<init>", "()V"⟩ : MethodName) ∈ zz_W := List.mem_append_right _ (List.mem_append_right _ (List.mem_append_right _ (List.mem_append_right _ (List.mem_append_right _ (List.mem_append_right _ (List.mem_append_left _ (List.mem_of_getElem? (i := 15) rfl)))))))
theorem mw_412 : Cond.code (⟨"java/lang/Throwable", "<init>", "()V"⟩ : MethodName) prog_26_method_1_code 1 none ∈ zz_W := List.mem_append_right _ (List.mem_append_right _ (List.mem_append_right _ (List.mem_append_right _ (List.mem_append_right _ (List.mem_append_right _ (List.mem_append_left _ (List.mem_of_getElem? (i := 16) rfl)))))))
theorem mw_413 : Cond.methodLink "java/lang/Throwable" 1 (⟨"java/lang/Object", "<init>", "()V"⟩ : MethodName) ∈ zz_W := List.mem_append_right _ (List.mem_append_right _ (List.mem_append_right _ (List.mem_append_right _ (List.mem_append_right _ (List.mem_append_right _ (List.mem_append_left _ (List.mem_of_getElem? (i := 17) rfl)))))))
theorem mw_414 : Cond.fieldLink "java/lang/Throwable" 13 "java/lang/Throwable" "UNASSIGNED_STACK" "[Ljava/lang/StackTraceElement;" ∈ zz_W := List.mem_append_right _ (List.mem_append_right _ (List.mem_append_right _ (List.mem_append_right _ (List.mem_append_right _ (List.mem_append_right _ (List.mem_append_left _ (List.mem_of_getElem? (i := 18) rfl)))))))
theorem mw_416 : Cond.fieldLink "java/lang/Throwable" 20 "java/lang/Throwable" "SUPPRESSED_SENTINEL" "Ljava/util/List;" ∈ zz_W := List.mem_append_right _ (List.mem_append_right _ (List.mem_append_right _ (List.mem_append_right _ (List.mem_append_right _ (List.mem_append_right _ (List.mem_append_left _ (List.mem_of_getElem? (i := 19) rfl)))))))
theorem mw_418 : Cond.methodLink "java/lang/Throwable" 27 (⟨"java/lang/Throwable", "fillInStackTrace", "()Ljava/lang/Throwable;"⟩ : MethodName) ∈ zz_W := List.mem_append_right _ (List.mem_append_right _ (List.mem_append_right _ (List.mem_append_right _ (List.mem_append_right _ (List.mem_append_right _ (List.mem_append_left _ (List.mem_of_getElem? (i := 20) rfl)))))))
theorem mw_419 : Cond.instanceMethod (⟨"java/lang/Throwable", "fillInStackTrace", "()Ljava/lang/Throwable;"⟩ : MethodName) ∈ zz_W := List.mem_append_right _ (List.mem_append_right _ (List.mem_append_right _ (List.mem_append_right _ (List.mem_append_right _ (List.mem_append_right _ (List.mem_append_left _ (List.mem_of_getElem? (i := 21) rfl)))))))
theorem mw_422 : Cond.selects "java/lang/IllegalStateException" (⟨"java/lang/Throwable", "fillInStackTrace", "()Ljava/lang/Throwable;"⟩ : MethodName) (⟨"java/lang/Throwable", "fillInStackTrace", "()Ljava/lang/Throwable;"⟩ : MethodName) ∈ zz_W := List.mem_append_right _ (List.mem_append_right _ (List.mem_append_right _ (List.mem_append_right _ (List.mem_append_right _ (List.mem_append_right _ (List.mem_append_left _ (List.mem_of_getElem? (i := 22) rfl)))))))
theorem mw_423 : Cond.selects "java/lang/IndexOutOfBoundsException" (⟨"java/lang/Throwable", "fillInStackTrace", "()Ljava/lang/Throwable;"⟩ : MethodName) (⟨"java/lang/Throwable", "fillInStackTrace", "()Ljava/lang/Throwable;"⟩ : MethodName) ∈ zz_W := List.mem_append_right _ (List.mem_append_right _ (List.mem_append_right _ (List.mem_append_right _ (List.mem_append_right _ (List.mem_append_right _ (List.mem_append_left _ (List.mem_of_getElem? (i := 23) rfl)))))))
theorem mw_424 : Cond.selects "java/util/NoSuchElementException" (⟨"java/lang/Throwable", "fillInStackTrace", "()Ljava/lang/Throwable;"⟩ : MethodName) (⟨"java/lang/Throwable", "fillInStackTrace", "()Ljava/lang/Throwable;"⟩ : MethodName) ∈ zz_W := List.mem_append_right _ (List.mem_append_right _ (List.mem_append_right _ (List.mem_append_right _ (List.mem_append_right _ (List.mem_append_right _ (List.mem_append_left _ (List.mem_of_getElem? (i := 24) rfl)))))))
theorem mw_425 : Cond.codeSync (⟨"java/lang/Throwable", "fillInStackTrace", "()Ljava/lang/Throwable;"⟩ : MethodName) prog_26_method_18_code 1 (some (.object "java/lang/Throwable")) ∈ zz_W := List.mem_append_right _ (List.mem_append_right _ (List.mem_append_right _ (List.mem_append_right _ (List.mem_append_right _ (List.mem_append_right _ (List.mem_append_left _ (List.mem_of_getElem? (i := 25) rfl)))))))
theorem mw_426 : Cond.methodLink "java/lang/Throwable" 202 (⟨"java/lang/Throwable", "fillInStackTrace", "(I)Ljava/lang/Throwable;"⟩ : MethodName) ∈ zz_W := List.mem_append_right _ (List.mem_append_right _ (List.mem_append_right _ (List.mem_append_right _ (List.mem_append_right _ (List.mem_append_right _ (List.mem_append_left _ (List.mem_of_getElem? (i := 26) rfl)))))))
theorem mw_428 : Cond.instanceMethod (⟨"java/lang/Throwable", "fillInStackTrace", "(I)Ljava/lang/Throwable;"⟩ : MethodName) ∈ zz_W := List.mem_append_right _ (List.mem_append_right _ (List.mem_append_right _ (List.mem_append_right _ (List.mem_append_right _ (List.mem_append_right _ (List.mem_append_left _ (List.mem_of_getElem? (i := 27) rfl)))))))
theorem mw_429 : Cond.instantiable "java/lang/Throwable" 6 ∈ zz_W := List.mem_append_right _ (List.mem_append_right _ (List.mem_append_right _ (List.mem_append_right _ (List.mem_append_right _ (List.mem_append_right _ (List.mem_append_left _ (List.mem_of_getElem? (i := 28) rfl)))))))
theorem mw_430 : Cond.native (⟨"java/lang/Throwable", "fillInStackTrace", "(I)Ljava/lang/Throwable;"⟩ : MethodName) ∈ zz_W := List.mem_append_right _ (List.mem_append_right _ (List.mem_append_right _ (List.mem_append_right _ (List.mem_append_right _ (List.mem_append_right _ (List.mem_append_left _ (List.mem_of_getElem? (i := 29) rfl)))))))
theorem mw_432 : Cond.methodLink R_FG 69 (⟨"java/lang/IllegalArgumentException", "<init>", "(Ljava/lang/String;)V"⟩ : MethodName) ∈ zz_W := List.mem_append_right _ (List.mem_append_right _ (List.mem_append_right _ (List.mem_append_right _ (List.mem_append_right _ (List.mem_append_right _ (List.mem_append_left _ (List.mem_of_getElem? (i := 30) rfl)))))))
theorem mw_433 : Cond.instanceMethod (⟨"java/lang/IllegalArgumentException", "<init>", "(Ljava/lang/String;)V"⟩ : MethodName) ∈ zz_W := List.mem_append_right _ (List.mem_append_right _ (List.mem_append_right _ (List.mem_append_right _ (List.mem_append_right _ (List.mem_append_right _ (List.mem_append_left _ (List.mem_of_getElem? (i := 31) rfl)))))))
theorem mw_434 : Cond.code (⟨"java/lang/IllegalArgumentException", "<init>", "(Ljava/lang/String;)V"⟩ : MethodName) prog_17_method_2_code 2 none ∈ zz_W := List.mem_append_right _ (List.mem_append_right _ (List.mem_append_right _ (List.mem_append_right _ (List.mem_append_right _ (List.mem_append_right _ (List.mem_append_left _ (List.mem_of_getElem? (i := 32) rfl)))))))
theorem mw_435 : Cond.methodLink "java/lang/IllegalArgumentException" 7 (⟨"java/lang/RuntimeException", "<init>", "(Ljava/lang/String;)V"⟩ : MethodName) ∈ zz_W := List.mem_append_right _ (List.mem_append_right _ (List.mem_append_right _ (List.mem_append_right _ (List.mem_append_right _ (List.mem_append_right _ (List.mem_append_left _ (List.mem_of_getElem? (i := 33) rfl)))))))
theorem mw_436 : Cond.instanceMethod (⟨"java/lang/RuntimeException", "<init>", "(Ljava/lang/String;)V"⟩ : MethodName) ∈ zz_W := List.mem_append_right _ (List.mem_append_right _ (List.mem_append_right _ (List.mem_append_right _ (List.mem_append_right _ (List.mem_append_right _ (List.mem_append_left _ (List.mem_of_getElem? (i := 34) rfl)))))))
theorem mw_437 : Cond.code (⟨"java/lang/RuntimeException", "<init>", "(Ljava/lang/String;)V"⟩ : MethodName) prog_23_method_2_code 2 none ∈ zz_W := List.mem_append_right _ (List.mem_append_right _ (List.mem_append_right _ (List.mem_append_right _ (List.mem_append_right _ (List.mem_append_right _ (List.mem_append_left _ (List.mem_of_getElem? (i := 35) rfl)))))))
theorem mw_438 : Cond.methodLink "java/lang/RuntimeException" 7 (⟨"java/lang/Exception", "<init>", "(Ljava/lang/String;)V"⟩ : MethodName) ∈ zz_W := List.mem_append_right _ (List.mem_append_right _ (List.mem_append_right _ (List.mem_append_right _ (List.mem_append_right _ (List.mem_append_right _ (List.mem_append_left _ (List.mem_of_getElem? (i := 36) rfl)))))))
theorem mw_439 : Cond.instanceMethod (⟨"java/lang/Exception", "<init>", "(Ljava/lang/String;)V"⟩ : MethodName) ∈ zz_W := List.mem_append_right _ (List.mem_append_right _ (List.mem_append_right _ (List.mem_append_right _ (List.mem_append_right _ (List.mem_append_right _ (List.mem_append_left _ (List.mem_of_getElem? (i := 37) rfl)))))))
theorem mw_440 : Cond.code (⟨"java/lang/Exception", "<init>", "(Ljava/lang/String;)V"⟩ : MethodName) prog_16_method_2_code 2 none ∈ zz_W := List.mem_append_right _ (List.mem_append_right _ (List.mem_append_right _ (List.mem_append_right _ (List.mem_append_right _ (List.mem_append_right _ (List.mem_append_left _ (List.mem_of_getElem? (i := 38) rfl)))))))
theorem mw_441 : Cond.methodLink "java/lang/Exception" 7 (⟨"java/lang/Throwable", "<init>", "(Ljava/lang/String;)V"⟩ : MethodName) ∈ zz_W := List.mem_append_right _ (List.mem_append_right _ (List.mem_append_right _ (List.mem_append_right _ (List.mem_append_right _ (List.mem_append_right _ (List.mem_append_left _ (List.mem_of_getElem? (i := 39) rfl)))))))
theorem mw_442 : Cond.instanceMethod (⟨"java/lang/Throwable", "<init>", "(Ljava/lang/String;)V"⟩ : MethodName) ∈ zz_W := List.mem_append_right _ (List.mem_append_right _ (List.mem_append_right _ (List.mem_append_right _ (List.mem_append_right _ (List.mem_append_right _ (List.mem_append_left _ (List.mem_of_getElem? (i := 40) rfl)))))))
theorem mw_443 : Cond.code (⟨"java/lang/Throwable", "<init>", "(Ljava/lang/String;)V"⟩ : MethodName) prog_26_method_2_code 2 none ∈ zz_W := List.mem_append_right _ (List.mem_append_right _ (List.mem_append_right _ (List.mem_append_right _ (List.mem_append_right _ (List.mem_append_right _ (List.mem_append_left _ (List.mem_of_getElem? (i := 41) rfl)))))))
theorem mw_444 : Cond.fieldLink "java/lang/Throwable" 198 "java/lang/Throwable" "backtrace" "Ljava/lang/Object;" ∈ zz_W := List.mem_append_right _ (List.mem_append_right _ (List.mem_append_right _ (List.mem_append_right _ (List.mem_append_right _ (List.mem_append_right _ (List.mem_append_left _ (List.mem_of_getElem? (i := 42) rfl)))))))
theorem mw_445 : Cond.fieldLink "java/lang/Throwable" 31 "java/lang/Throwable" "detailMessage" "Ljava/lang/String;" ∈ zz_W := List.mem_append_right _ (List.mem_append_right _ (List.mem_append_right _ (List.mem_append_right _ (List.mem_append_right _ (List.mem_append_right _ (List.mem_append_left _ (List.mem_of_getElem? (i := 43) rfl)))))))
theorem mw_446 : Cond.fieldLink "java/lang/Throwable" 7 "java/lang/Throwable" "cause" "Ljava/lang/Throwable;" ∈ zz_W := List.mem_append_right _ (List.mem_append_right _ (List.mem_append_right _ (List.mem_append_right _ (List.mem_append_right _ (List.mem_append_right _ (List.mem_append_left _ (List.mem_of_getElem? (i := 44) rfl)))))))
theorem mw_447 : Cond.fieldLink "java/lang/Throwable" 17 "java/lang/Throwable" "stackTrace" "[Ljava/lang/StackTraceElement;" ∈ zz_W := List.mem_append_right _ (List.mem_append_right _ (List.mem_append_right _ (List.mem_append_right _ (List.mem_append_right _ (List.mem_append_right _ (List.mem_append_left _ (List.mem_of_getElem? (i := 45) rfl)))))))
theorem mw_448 : Cond.fieldLink "java/lang/Throwable" 24 "java/lang/Throwable" "suppressedExceptions" "Ljava/util/List;" ∈ zz_W := List.mem_append_right _ (List.mem_append_right _ (List.mem_append_right _ (List.mem_append_right _ (List.mem_append_right _ (List.mem_append_right _ (List.mem_append_left _ (List.mem_of_getElem? (i := 46) rfl)))))))
theorem mw_456 : Cond.superclass "java/lang/IllegalArgumentException" "java/lang/RuntimeException" ∈ zz_W := List.mem_append_right _ (List.mem_append_right _ (List.mem_append_right _ (List.mem_append_right _ (List.mem_append_right _ (List.mem_append_right _ (List.mem_append_left _ (List.mem_of_getElem? (i := 47) rfl)))))))
theorem mw_457 : Cond.classLink R_FG 76 "java/lang/IllegalStateException" ∈ zz_W := List.mem_append_right _ (List.mem_append_right _ (List.mem_append_right _ (List.mem_append_right _ (List.mem_append_right _ (List.mem_append_right _ (List.mem_append_left _ (List.mem_of_getElem? (i := 48) rfl)))))))
theorem mw_458 : Cond.instantiable "java/lang/IllegalStateException" 6 ∈ zz_W := List.mem_append_right _ (List.mem_append_right _ (List.mem_append_right _ (List.mem_append_right _ (List.mem_append_right _ (List.mem_append_right _ (List.mem_append_left _ (List.mem_of_getElem? (i := 49) rfl)))))))
theorem mw_460 : Cond.selects "java/lang/IllegalStateException" (⟨"java/lang/Throwable", "fillInStackTrace", "(I)Ljava/lang/Throwable;"⟩ : MethodName) (⟨"java/lang/Throwable", "fillInStackTrace", "(I)Ljava/lang/Throwable;"⟩ : MethodName) ∈ zz_W := List.mem_append_right _ (List.mem_append_right _ (List.mem_append_right _ (List.mem_append_right _ (List.mem_append_right _ (List.mem_append_right _ (List.mem_append_right _ (List.mem_append_left _ (List.mem_of_getElem? (i := 0) rfl))))))))
theorem mw_461 : Cond.lays "java/lang/IllegalStateException" "java/lang/Throwable" "cause" "Ljava/lang/Throwable;" ∈ zz_W := List.mem_append_right _ (List.mem_append_right _ (List.mem_append_right _ (List.mem_append_right _ (List.mem_append_right _ (List.mem_append_right _ (List.mem_append_right _ (List.mem_append_left _ (List.mem_of_getElem? (i := 1) rfl))))))))
theorem mw_462 : Cond.lays "java/lang/IllegalStateException" "java/lang/Throwable" "stackTrace" "[Ljava/lang/StackTraceElement;" ∈ zz_W := List.mem_append_right _ (List.mem_append_right _ (List.mem_append_right _ (List.mem_append_right _ (List.mem_append_right _ (List.mem_append_right _ (List.mem_append_right _ (List.mem_append_left _ (List.mem_of_getElem? (i := 2) rfl))))))))
theorem mw_463 : Cond.lays "java/lang/IllegalStateException" "java/lang/Throwable" "suppressedExceptions" "Ljava/util/List;" ∈ zz_W := List.mem_append_right _ (List.mem_append_right _ (List.mem_append_right _ (List.mem_append_right _ (List.mem_append_right _ (List.mem_append_right _ (List.mem_append_right _ (List.mem_append_left _ (List.mem_of_getElem? (i := 3) rfl))))))))
theorem mw_464 : Cond.lays "java/lang/IllegalStateException" "java/lang/Throwable" "detailMessage" "Ljava/lang/String;" ∈ zz_W := List.mem_append_right _ (List.mem_append_right _ (List.mem_append_right _ (List.mem_append_right _ (List.mem_append_right _ (List.mem_append_right _ (List.mem_append_right _ (List.mem_append_left _ (List.mem_of_getElem? (i := 4) rfl))))))))
theorem mw_465 : Cond.lays "java/lang/IllegalStateException" "java/lang/Throwable" "backtrace" "Ljava/lang/Object;" ∈ zz_W := List.mem_append_right _ (List.mem_append_right _ (List.mem_append_right _ (List.mem_append_right _ (List.mem_append_right _ (List.mem_append_right _ (List.mem_append_right _ (List.mem_append_left _ (List.mem_of_getElem? (i := 5) rfl))))))))
theorem mw_467 : Cond.methodLink R_FG 80 (⟨"java/lang/IllegalStateException", "<init>", "(Ljava/lang/String;)V"⟩ : MethodName) ∈ zz_W := List.mem_append_right _ (List.mem_append_right _ (List.mem_append_right _ (List.mem_append_right _ (List.mem_append_right _ (List.mem_append_right _ (List.mem_append_right _ (List.mem_append_left _ (List.mem_of_getElem? (i := 6) rfl))))))))
theorem mw_468 : Cond.instanceMethod (⟨"java/lang/IllegalStateException", "<init>", "(Ljava/lang/String;)V"⟩ : MethodName) ∈ zz_W := List.mem_append_right _ (List.mem_append_right _ (List.mem_append_right _ (List.mem_append_right _ (List.mem_append_right _ (List.mem_append_right _ (List.mem_append_right _ (List.mem_append_left _ (List.mem_of_getElem? (i := 7) rfl))))))))
theorem mw_469 : Cond.code (⟨"java/lang/IllegalStateException", "<init>", "(Ljava/lang/String;)V"⟩ : MethodName) prog_18_method_2_code 2 none ∈ zz_W := List.mem_append_right _ (List.mem_append_right _ (List.mem_append_right _ (List.mem_append_right _ (List.mem_append_right _ (List.mem_append_right _ (List.mem_append_right _ (List.mem_append_left _ (List.mem_of_getElem? (i := 8) rfl))))))))
theorem mw_470 : Cond.methodLink "java/lang/IllegalStateException" 7 (⟨"java/lang/RuntimeException", "<init>", "(Ljava/lang/String;)V"⟩ : MethodName) ∈ zz_W := List.mem_append_right _ (List.mem_append_right _ (List.mem_append_right _ (List.mem_append_right _ (List.mem_append_right _ (List.mem_append_right _ (List.mem_append_right _ (List.mem_append_left _ (List.mem_of_getElem? (i := 9) rfl))))))))
theorem mw_472 : Cond.superclass "java/lang/IllegalStateException" "java/lang/RuntimeException" ∈ zz_W := List.mem_append_right _ (List.mem_append_right _ (List.mem_append_right _ (List.mem_append_right _ (List.mem_append_right _ (List.mem_append_right _ (List.mem_append_right _ (List.mem_append_left _ (List.mem_of_getElem? (i := 10) rfl))))))))
theorem mw_473 : Cond.methodLink R_FG 81 y_Ma_append ∈ zz_W := List.mem_append_right _ (List.mem_append_right _ (List.mem_append_right _ (List.mem_append_right _ (List.mem_append_right _ (List.mem_append_right _ (List.mem_append_right _ (List.mem_append_left _ (List.mem_of_getElem? (i := 11) rfl))))))))
theorem mw_474 : Cond.instanceMethod y_Ma_append ∈ zz_W := List.mem_append_right _ (List.mem_append_right _ (List.mem_append_right _ (List.mem_append_right _ (List.mem_append_right _ (List.mem_append_right _ (List.mem_append_right _ (List.mem_append_left _ (List.mem_of_getElem? (i := 12) rfl))))))))
theorem mw_475 : Cond.selects R_Ma y_Ma_append y_Ma_append ∈ zz_W := List.mem_append_right _ (List.mem_append_right _ (List.mem_append_right _ (List.mem_append_right _ (List.mem_append_right _ (List.mem_append_right _ (List.mem_append_right _ (List.mem_append_left _ (List.mem_of_getElem? (i := 13) rfl))))))))
theorem mw_476 : Cond.code y_Ma_append prog_5_method_2_code 4 (some .int) ∈ zz_W := List.mem_append_right _ (List.mem_append_right _ (List.mem_append_right _ (List.mem_append_right _ (List.mem_append_right _ (List.mem_append_right _ (List.mem_append_right _ (List.mem_append_left _ (List.mem_of_getElem? (i := 14) rfl))))))))
theorem mw_477 : Cond.methodLink R_La 67 y_La_add ∈ zz_W := List.mem_append_right _ (List.mem_append_right _ (List.mem_append_right _ (List.mem_append_right _ (List.mem_append_right _ (List.mem_append_right _ (List.mem_append_right _ (List.mem_append_left _ (List.mem_of_getElem? (i := 15) rfl))))))))
theorem mw_478 : Cond.static y_La_add ∈ zz_W := List.mem_append_right _ (List.mem_append_right _ (List.mem_append_right _ (List.mem_append_right _ (List.mem_append_right _ (List.mem_append_right _ (List.mem_append_right _ (List.mem_append_left _ (List.mem_of_getElem? (i := 16) rfl))))))))
theorem mw_479 : Cond.codeWith y_La_add method_4_code 8 (some .int) [(0, 16, 19, 15)] ∈ zz_W := List.mem_append_right _ (List.mem_append_right _ (List.mem_append_right _ (List.mem_append_right _ (List.mem_append_right _ (List.mem_append_right _ (List.mem_append_right _ (List.mem_append_left _ (List.mem_of_getElem? (i := 17) rfl))))))))
theorem mw_480 : Cond.methodLink R_La 17 y_FG_add ∈ zz_W := List.mem_append_right _ (List.mem_append_right _ (List.mem_append_right _ (List.mem_append_right _ (List.mem_append_right _ (List.mem_append_right _ (List.mem_append_right _ (List.mem_append_left _ (List.mem_of_getElem? (i := 18) rfl))))))))
theorem mw_481 : Cond.instanceMethod y_FG_add ∈ zz_W := List.mem_append_right _ (List.mem_append_right _ (List.mem_append_right _ (List.mem_append_right _ (List.mem_append_right _ (List.mem_append_right _ (List.mem_append_right _ (List.mem_append_left _ (List.mem_of_getElem? (i := 19) rfl))))))))
theorem mw_482 : Cond.selects R_FG y_FG_add y_FG_add ∈ zz_W := List.mem_append_right _ (List.mem_append_right _ (List.mem_append_right _ (List.mem_append_right _ (List.mem_append_right _ (List.mem_append_right _ (List.mem_append_right _ (List.mem_append_left _ (List.mem_of_getElem? (i := 20) rfl))))))))
theorem mw_483 : Cond.code y_FG_add prog_1_method_3_code 6 (some .int) ∈ zz_W := List.mem_append_right _ (List.mem_append_right _ (List.mem_append_right _ (List.mem_append_right _ (List.mem_append_right _ (List.mem_append_right _ (List.mem_append_right _ (List.mem_append_left _ (List.mem_of_getElem? (i := 21) rfl))))))))
theorem mw_485 : Cond.methodLink R_FG 88 y_Pr_append ∈ zz_W := List.mem_append_right _ (List.mem_append_right _ (List.mem_append_right _ (List.mem_append_right _ (List.mem_append_right _ (List.mem_append_right _ (List.mem_append_right _ (List.mem_append_left _ (List.mem_of_getElem? (i := 22) rfl))))))))
theorem mw_486 : Cond.instanceMethod y_Pr_append ∈ zz_W := List.mem_append_right _ (List.mem_append_right _ (List.mem_append_right _ (List.mem_append_right _ (List.mem_append_right _ (List.mem_append_right _ (List.mem_append_right _ (List.mem_append_left _ (List.mem_of_getElem? (i := 23) rfl))))))))
theorem mw_487 : Cond.selects R_Pr y_Pr_append y_Pr_append ∈ zz_W := List.mem_append_right _ (List.mem_append_right _ (List.mem_append_right _ (List.mem_append_right _ (List.mem_append_right _ (List.mem_append_right _ (List.mem_append_right _ (List.mem_append_left _ (List.mem_of_getElem? (i := 24) rfl))))))))
theorem mw_488 : Cond.code y_Pr_append prog_7_method_2_code 6 (some .int) ∈ zz_W := List.mem_append_right _ (List.mem_append_right _ (List.mem_append_right _ (List.mem_append_right _ (List.mem_append_right _ (List.mem_append_right _ (List.mem_append_right _ (List.mem_append_left _ (List.mem_of_getElem? (i := 25) rfl))))))))
theorem mw_489 : Cond.methodLink R_La 71 y_La_check ∈ zz_W := List.mem_append_right _ (List.mem_append_right _ (List.mem_append_right _ (List.mem_append_right _ (List.mem_append_right _ (List.mem_append_right _ (List.mem_append_right _ (List.mem_append_left _ (List.mem_of_getElem? (i := 26) rfl))))))))
theorem mw_490 : Cond.static y_La_check ∈ zz_W := List.mem_append_right _ (List.mem_append_right _ (List.mem_append_right _ (List.mem_append_right _ (List.mem_append_right _ (List.mem_append_right _ (List.mem_append_right _ (List.mem_append_left _ (List.mem_of_getElem? (i := 27) rfl))))))))
theorem mw_491 : Cond.codeWith y_La_check method_5_code 3 (some .int) [(0, 8, 11, 15)] ∈ zz_W := List.mem_append_right _ (List.mem_append_right _ (List.mem_append_right _ (List.mem_append_right _ (List.mem_append_right _ (List.mem_append_right _ (List.mem_append_right _ (List.mem_append_left _ (List.mem_of_getElem? (i := 28) rfl))))))))
theorem mw_492 : Cond.methodLink R_La 21 y_FG_check ∈ zz_W := List.mem_append_right _ (List.mem_append_right _ (List.mem_append_right _ (List.mem_append_right _ (List.mem_append_right _ (List.mem_append_right _ (List.mem_append_right _ (List.mem_append_left _ (List.mem_of_getElem? (i := 29) rfl))))))))
theorem mw_493 : Cond.instanceMethod y_FG_check ∈ zz_W := List.mem_append_right _ (List.mem_append_right _ (List.mem_append_right _ (List.mem_append_right _ (List.mem_append_right _ (List.mem_append_right _ (List.mem_append_right _ (List.mem_append_left _ (List.mem_of_getElem? (i := 30) rfl))))))))
theorem mw_494 : Cond.selects R_FG y_FG_check y_FG_check ∈ zz_W := List.mem_append_right _ (List.mem_append_right _ (List.mem_append_right _ (List.mem_append_right _ (List.mem_append_right _ (List.mem_append_right _ (List.mem_append_right _ (List.mem_append_left _ (List.mem_of_getElem? (i := 31) rfl))))))))
theorem mw_495 : Cond.code y_FG_check prog_1_method_4_code 2 (some .int) ∈ zz_W := List.mem_append_right _ (List.mem_append_right _ (List.mem_append_right _ (List.mem_append_right _ (List.mem_append_right _ (List.mem_append_right _ (List.mem_append_right _ (List.mem_append_left _ (List.mem_of_getElem? (i := 32) rfl))))))))
theorem mw_834 : Cond.methodLink R_La 79 y_La_feed ∈ zz_W := List.mem_append_right _ (List.mem_append_right _ (List.mem_append_right _ (List.mem_append_right _ (List.mem_append_right _ (List.mem_append_right _ (List.mem_append_right _ (List.mem_append_left _ (List.mem_of_getElem? (i := 33) rfl))))))))
theorem mw_835 : Cond.static y_La_feed ∈ zz_W := List.mem_append_right _ (List.mem_append_right _ (List.mem_append_right _ (List.mem_append_right _ (List.mem_append_right _ (List.mem_append_right _ (List.mem_append_right _ (List.mem_append_left _ (List.mem_of_getElem? (i := 34) rfl))))))))
theorem mw_836 : Cond.codeWith y_La_feed method_6_code 8 (some .int) [(0, 16, 19, 28)] ∈ zz_W := List.mem_append_right _ (List.mem_append_right _ (List.mem_append_right _ (List.mem_append_right _ (List.mem_append_right _ (List.mem_append_right _ (List.mem_append_right _ (List.mem_append_left _ (List.mem_of_getElem? (i := 35) rfl))))))))
theorem mw_837 : Cond.classLink R_La 28 "java/lang/IndexOutOfBoundsException" ∈ zz_W := List.mem_append_right _ (List.mem_append_right _ (List.mem_append_right _ (List.mem_append_right _ (List.mem_append_right _ (List.mem_append_right _ (List.mem_append_right _ (List.mem_append_left _ (List.mem_of_getElem? (i := 36) rfl))))))))
theorem mw_838 : Cond.methodLink R_La 25 y_FG_feed ∈ zz_W := List.mem_append_right _ (List.mem_append_right _ (List.mem_append_right _ (List.mem_append_right _ (List.mem_append_right _ (List.mem_append_right _ (List.mem_append_right _ (List.mem_append_left _ (List.mem_of_getElem? (i := 37) rfl))))))))
theorem mw_839 : Cond.instanceMethod y_FG_feed ∈ zz_W := List.mem_append_right _ (List.mem_append_right _ (List.mem_append_right _ (List.mem_append_right _ (List.mem_append_right _ (List.mem_append_right _ (List.mem_append_right _ (List.mem_append_left _ (List.mem_of_getElem? (i := 38) rfl))))))))
theorem mw_840 : Cond.selects R_FG y_FG_feed y_FG_feed ∈ zz_W := List.mem_append_right _ (List.mem_append_right _ (List.mem_append_right _ (List.mem_append_right _ (List.mem_append_right _ (List.mem_append_right _ (List.mem_append_right _ (List.mem_append_left _ (List.mem_of_getElem? (i := 39) rfl))))))))
theorem mw_841 : Cond.code y_FG_feed prog_1_method_6_code 6 (some .int) ∈ zz_W := List.mem_append_right _ (List.mem_append_right _ (List.mem_append_right _ (List.mem_append_right _ (List.mem_append_right _ (List.mem_append_right _ (List.mem_append_right _ (List.mem_append_left _ (List.mem_of_getElem? (i := 40) rfl))))))))
theorem mw_842 : Cond.classLink R_FG 105 "java/lang/IndexOutOfBoundsException" ∈ zz_W := List.mem_append_right _ (List.mem_append_right _ (List.mem_append_right _ (List.mem_append_right _ (List.mem_append_right _ (List.mem_append_right _ (List.mem_append_right _ (List.mem_append_left _ (List.mem_of_getElem? (i := 41) rfl))))))))
theorem mw_843 : Cond.instantiable "java/lang/IndexOutOfBoundsException" 6 ∈ zz_W := List.mem_append_right _ (List.mem_append_right _ (List.mem_append_right _ (List.mem_append_right _ (List.mem_append_right _ (List.mem_append_right _ (List.mem_append_right _ (List.mem_append_left _ (List.mem_of_getElem? (i := 42) rfl))))))))
theorem mw_845 : Cond.selects "java/lang/IndexOutOfBoundsException" (⟨"java/lang/Throwable", "fillInStackTrace", "(I)Ljava/lang/Throwable;"⟩ : MethodName) (⟨"java/lang/Throwable", "fillInStackTrace", "(I)Ljava/lang/Throwable;"⟩ : MethodName) ∈ zz_W := List.mem_append_right _ (List.mem_append_right _ (List.mem_append_right _ (List.mem_append_right _ (List.mem_append_right _ (List.mem_append_right _ (List.mem_append_right _ (List.mem_append_left _ (List.mem_of_getElem? (i := 43) rfl))))))))
theorem mw_846 : Cond.lays "java/lang/IndexOutOfBoundsException" "java/lang/Throwable" "cause" "Ljava/lang/Throwable;" ∈ zz_W := List.mem_append_right _ (List.mem_append_right _ (List.mem_append_right _ (List.mem_append_right _ (List.mem_append_right _ (List.mem_append_right _ (List.mem_append_right _ (List.mem_append_left _ (List.mem_of_getElem? (i := 44) rfl))))))))
theorem mw_847 : Cond.lays "java/lang/IndexOutOfBoundsException" "java/lang/Throwable" "stackTrace" "[Ljava/lang/StackTraceElement;" ∈ zz_W := List.mem_append_right _ (List.mem_append_right _ (List.mem_append_right _ (List.mem_append_right _ (List.mem_append_right _ (List.mem_append_right _ (List.mem_append_right _ (List.mem_append_left _ (List.mem_of_getElem? (i := 45) rfl))))))))
theorem mw_848 : Cond.lays "java/lang/IndexOutOfBoundsException" "java/lang/Throwable" "suppressedExceptions" "Ljava/util/List;" ∈ zz_W := List.mem_append_right _ (List.mem_append_right _ (List.mem_append_right _ (List.mem_append_right _ (List.mem_append_right _ (List.mem_append_right _ (List.mem_append_right _ (List.mem_append_left _ (List.mem_of_getElem? (i := 46) rfl))))))))
theorem mw_849 : Cond.lays "java/lang/IndexOutOfBoundsException" "java/lang/Throwable" "detailMessage" "Ljava/lang/String;" ∈ zz_W := List.mem_append_right _ (List.mem_append_right _ (List.mem_append_right _ (List.mem_append_right _ (List.mem_append_right _ (List.mem_append_right _ (List.mem_append_right _ (List.mem_append_left _ (List.mem_of_getElem? (i := 47) rfl))))))))
theorem mw_850 : Cond.lays "java/lang/IndexOutOfBoundsException" "java/lang/Throwable" "backtrace" "Ljava/lang/Object;" ∈ zz_W := List.mem_append_right _ (List.mem_append_right _ (List.mem_append_right _ (List.mem_append_right _ (List.mem_append_right _ (List.mem_append_right _ (List.mem_append_right _ (List.mem_append_left _ (List.mem_of_getElem? (i := 48) rfl))))))))
theorem mw_852 : Cond.methodLink R_FG 109 (⟨"java/lang/IndexOutOfBoundsException", "<init>", "(Ljava/lang/String;)V"⟩ : MethodName) ∈ zz_W := List.mem_append_right _ (List.mem_append_right _ (List.mem_append_right _ (List.mem_append_right _ (List.mem_append_right _ (List.mem_append_right _ (List.mem_append_right _ (List.mem_append_left _ (List.mem_of_getElem? (i := 49) rfl))))))))
theorem mw_853 : Cond.instanceMethod (⟨"java/lang/IndexOutOfBoundsException", "<init>", "(Ljava/lang/String;)V"⟩ : MethodName) ∈ zz_W := List.mem_append_right _ (List.mem_append_right _ (List.mem_append_right _ (List.mem_append_right _ (List.mem_append_right _ (List.mem_append_right _ (List.mem_append_right _ (List.mem_append_right _ (List.mem_append_left _ (List.mem_of_getElem? (i := 0) rfl)))))))))
theorem mw_854 : Cond.code (⟨"java/lang/IndexOutOfBoundsException", "<init>", "(Ljava/lang/String;)V"⟩ : MethodName) prog_19_method_2_code 2 none ∈ zz_W := List.mem_append_right _ (List.mem_append_right _ (List.mem_append_right _ (List.mem_append_right _ (List.mem_append_right _ (List.mem_append_right _ (List.mem_append_right _ (List.mem_append_right _ (List.mem_append_left _ (List.mem_of_getElem? (i := 1) rfl)))))))))
theorem mw_855 : Cond.methodLink "java/lang/IndexOutOfBoundsException" 7 (⟨"java/lang/RuntimeException", "<init>", "(Ljava/lang/String;)V"⟩ : MethodName) ∈ zz_W := List.mem_append_right _ (List.mem_append_right _ (List.mem_append_right _ (List.mem_append_right _ (List.mem_append_right _ (List.mem_append_right _ (List.mem_append_right _ (List.mem_append_right _ (List.mem_append_left _ (List.mem_of_getElem? (i := 2) rfl)))))))))
theorem mw_857 : Cond.superclass "java/lang/IndexOutOfBoundsException" "java/lang/RuntimeException" ∈ zz_W := List.mem_append_right _ (List.mem_append_right _ (List.mem_append_right _ (List.mem_append_right _ (List.mem_append_right _ (List.mem_append_right _ (List.mem_append_right _ (List.mem_append_right _ (List.mem_append_left _ (List.mem_of_getElem? (i := 3) rfl)))))))))
theorem mw_858 : Cond.methodLink R_FG 110 y_Me_feedNumber ∈ zz_W := List.mem_append_right _ (List.mem_append_right _ (List.mem_append_right _ (List.mem_append_right _ (List.mem_append_right _ (List.mem_append_right _ (List.mem_append_right _ (List.mem_append_right _ (List.mem_append_left _ (List.mem_of_getElem? (i := 4) rfl)))))))))
theorem mw_859 : Cond.instanceMethod y_Me_feedNumber ∈ zz_W := List.mem_append_right _ (List.mem_append_right _ (List.mem_append_right _ (List.mem_append_right _ (List.mem_append_right _ (List.mem_append_right _ (List.mem_append_right _ (List.mem_append_right _ (List.mem_append_left _ (List.mem_of_getElem? (i := 5) rfl)))))))))
theorem mw_860 : Cond.selects R_Me y_Me_feedNumber y_Me_feedNumber ∈ zz_W := List.mem_append_right _ (List.mem_append_right _ (List.mem_append_right _ (List.mem_append_right _ (List.mem_append_right _ (List.mem_append_right _ (List.mem_append_right _ (List.mem_append_right _ (List.mem_append_left _ (List.mem_of_getElem? (i := 6) rfl)))))))))
theorem mw_861 : Cond.code y_Me_feedNumber prog_6_method_2_code 3 none ∈ zz_W := List.mem_append_right _ (List.mem_append_right _ (List.mem_append_right _ (List.mem_append_right _ (List.mem_append_right _ (List.mem_append_right _ (List.mem_append_right _ (List.mem_append_right _ (List.mem_append_left _ (List.mem_of_getElem? (i := 7) rfl)))))))))
theorem mw_862 : Cond.methodLink R_La 82 y_La_end ∈ zz_W := List.mem_append_right _ (List.mem_append_right _ (List.mem_append_right _ (List.mem_append_right _ (List.mem_append_right _ (List.mem_append_right _ (List.mem_append_right _ (List.mem_append_right _ (List.mem_append_left _ (List.mem_of_getElem? (i := 8) rfl)))))))))
theorem mw_863 : Cond.static y_La_end ∈ zz_W := List.mem_append_right _ (List.mem_append_right _ (List.mem_append_right _ (List.mem_append_right _ (List.mem_append_right _ (List.mem_append_right _ (List.mem_append_right _ (List.mem_append_right _ (List.mem_append_left _ (List.mem_of_getElem? (i := 9) rfl)))))))))
theorem mw_864 : Cond.codeWith y_La_end method_7_code 4 (some .int) [(0, 9, 12, 13)] ∈ zz_W := List.mem_append_right _ (List.mem_append_right _ (List.mem_append_right _ (List.mem_append_right _ (List.mem_append_right _ (List.mem_append_right _ (List.mem_append_right _ (List.mem_append_right _ (List.mem_append_left _ (List.mem_of_getElem? (i := 10) rfl)))))))))
theorem mw_865 : Cond.methodLink R_La 30 y_FG_end ∈ zz_W := List.mem_append_right _ (List.mem_append_right _ (List.mem_append_right _ (List.mem_append_right _ (List.mem_append_right _ (List.mem_append_right _ (List.mem_append_right _ (List.mem_append_right _ (List.mem_append_left _ (List.mem_of_getElem? (i := 11) rfl)))))))))
theorem mw_866 : Cond.instanceMethod y_FG_end ∈ zz_W := List.mem_append_right _ (List.mem_append_right _ (List.mem_append_right _ (List.mem_append_right _ (List.mem_append_right _ (List.mem_append_right _ (List.mem_append_right _ (List.mem_append_right _ (List.mem_append_left _ (List.mem_of_getElem? (i := 12) rfl)))))))))
theorem mw_867 : Cond.selects R_FG y_FG_end y_FG_end ∈ zz_W := List.mem_append_right _ (List.mem_append_right _ (List.mem_append_right _ (List.mem_append_right _ (List.mem_append_right _ (List.mem_append_right _ (List.mem_append_right _ (List.mem_append_right _ (List.mem_append_left _ (List.mem_of_getElem? (i := 13) rfl)))))))))
theorem mw_868 : Cond.code y_FG_end prog_1_method_7_code 2 (some .int) ∈ zz_W := List.mem_append_right _ (List.mem_append_right _ (List.mem_append_right _ (List.mem_append_right _ (List.mem_append_right _ (List.mem_append_right _ (List.mem_append_right _ (List.mem_append_right _ (List.mem_append_left _ (List.mem_of_getElem? (i := 14) rfl)))))))))
theorem mw_870 : Cond.methodLink R_La 93 y_La_run ∈ zz_W := List.mem_append_right _ (List.mem_append_right _ (List.mem_append_right _ (List.mem_append_right _ (List.mem_append_right _ (List.mem_append_right _ (List.mem_append_right _ (List.mem_append_right _ (List.mem_append_left _ (List.mem_of_getElem? (i := 15) rfl)))))))))
theorem mw_871 : Cond.static y_La_run ∈ zz_W := List.mem_append_right _ (List.mem_append_right _ (List.mem_append_right _ (List.mem_append_right _ (List.mem_append_right _ (List.mem_append_right _ (List.mem_append_right _ (List.mem_append_right _ (List.mem_append_left _ (List.mem_of_getElem? (i := 16) rfl)))))))))
theorem mw_872 : Cond.codeWith y_La_run method_8_code 3 (some .int) [(0, 7, 10, 15)] ∈ zz_W := List.mem_append_right _ (List.mem_append_right _ (List.mem_append_right _ (List.mem_append_right _ (List.mem_append_right _ (List.mem_append_right _ (List.mem_append_right _ (List.mem_append_right _ (List.mem_append_left _ (List.mem_of_getElem? (i := 17) rfl)))))))))
theorem mw_873 : Cond.methodLink R_La 34 y_FG_run ∈ zz_W := List.mem_append_right _ (List.mem_append_right _ (List.mem_append_right _ (List.mem_append_right _ (List.mem_append_right _ (List.mem_append_right _ (List.mem_append_right _ (List.mem_append_right _ (List.mem_append_left _ (List.mem_of_getElem? (i := 18) rfl)))))))))
theorem mw_874 : Cond.instanceMethod y_FG_run ∈ zz_W := List.mem_append_right _ (List.mem_append_right _ (List.mem_append_right _ (List.mem_append_right _ (List.mem_append_right _ (List.mem_append_right _ (List.mem_append_right _ (List.mem_append_right _ (List.mem_append_left _ (List.mem_of_getElem? (i := 19) rfl)))))))))
theorem mw_875 : Cond.selects R_FG y_FG_run y_FG_run ∈ zz_W := List.mem_append_right _ (List.mem_append_right _ (List.mem_append_right _ (List.mem_append_right _ (List.mem_append_right _ (List.mem_append_right _ (List.mem_append_right _ (List.mem_append_right _ (List.mem_append_left _ (List.mem_of_getElem? (i := 20) rfl)))))))))
theorem mw_876 : Cond.code y_FG_run prog_1_method_9_code 1 (some .long) ∈ zz_W := List.mem_append_right _ (List.mem_append_right _ (List.mem_append_right _ (List.mem_append_right _ (List.mem_append_right _ (List.mem_append_right _ (List.mem_append_right _ (List.mem_append_right _ (List.mem_append_left _ (List.mem_of_getElem? (i := 21) rfl)))))))))
theorem mw_1028 : Cond.methodLink R_La 96 y_La_letter ∈ zz_W := List.mem_append_right _ (List.mem_append_right _ (List.mem_append_right _ (List.mem_append_right _ (List.mem_append_right _ (List.mem_append_right _ (List.mem_append_right _ (List.mem_append_right _ (List.mem_append_left _ (List.mem_of_getElem? (i := 22) rfl)))))))))
theorem mw_1029 : Cond.static y_La_letter ∈ zz_W := List.mem_append_right _ (List.mem_append_right _ (List.mem_append_right _ (List.mem_append_right _ (List.mem_append_right _ (List.mem_append_right _ (List.mem_append_right _ (List.mem_append_right _ (List.mem_append_left _ (List.mem_of_getElem? (i := 23) rfl)))))))))
theorem mw_1030 : Cond.codeWith y_La_letter method_9_code 4 (some .int) [(0, 9, 12, 41)] ∈ zz_W := List.mem_append_right _ (List.mem_append_right _ (List.mem_append_right _ (List.mem_append_right _ (List.mem_append_right _ (List.mem_append_right _ (List.mem_append_right _ (List.mem_append_right _ (List.mem_append_left _ (List.mem_of_getElem? (i := 24) rfl)))))))))
theorem mw_1031 : Cond.classLink R_La 41 "java/util/NoSuchElementException" ∈ zz_W := List.mem_append_right _ (List.mem_append_right _ (List.mem_append_right _ (List.mem_append_right _ (List.mem_append_right _ (List.mem_append_right _ (List.mem_append_right _ (List.mem_append_right _ (List.mem_append_left _ (List.mem_of_getElem? (i := 25) rfl)))))))))
theorem mw_1032 : Cond.methodLink R_La 38 y_FG_letter ∈ zz_W := List.mem_append_right _ (List.mem_append_right _ (List.mem_append_right _ (List.mem_append_right _ (List.mem_append_right _ (List.mem_append_right _ (List.mem_append_right _ (List.mem_append_right _ (List.mem_append_left _ (List.mem_of_getElem? (i := 26) rfl)))))))))
theorem mw_1033 : Cond.instanceMethod y_FG_letter ∈ zz_W := List.mem_append_right _ (List.mem_append_right _ (List.mem_append_right _ (List.mem_append_right _ (List.mem_append_right _ (List.mem_append_right _ (List.mem_append_right _ (List.mem_append_right _ (List.mem_append_left _ (List.mem_of_getElem? (i := 27) rfl)))))))))
theorem mw_1034 : Cond.selects R_FG y_FG_letter y_FG_letter ∈ zz_W := List.mem_append_right _ (List.mem_append_right _ (List.mem_append_right _ (List.mem_append_right _ (List.mem_append_right _ (List.mem_append_right _ (List.mem_append_right _ (List.mem_append_right _ (List.mem_append_left _ (List.mem_of_getElem? (i := 28) rfl)))))))))
theorem mw_1035 : Cond.code y_FG_letter prog_1_method_10_code 2 (some .int) ∈ zz_W := List.mem_append_right _ (List.mem_append_right _ (List.mem_append_right _ (List.mem_append_right _ (List.mem_append_right _ (List.mem_append_right _ (List.mem_append_right _ (List.mem_append_right _ (List.mem_append_left _ (List.mem_of_getElem? (i := 29) rfl)))))))))
theorem mw_1036 : Cond.classLink R_FG 126 "java/util/NoSuchElementException" ∈ zz_W := List.mem_append_right _ (List.mem_append_right _ (List.mem_append_right _ (List.mem_append_right _ (List.mem_append_right _ (List.mem_append_right _ (List.mem_append_right _ (List.mem_append_right _ (List.mem_append_left _ (List.mem_of_getElem? (i := 30) rfl)))))))))
theorem mw_1037 : Cond.instantiable "java/util/NoSuchElementException" 6 ∈ zz_W := List.mem_append_right _ (List.mem_append_right _ (List.mem_append_right _ (List.mem_append_right _ (List.mem_append_right _ (List.mem_append_right _ (List.mem_append_right _ (List.mem_append_right _ (List.mem_append_left _ (List.mem_of_getElem? (i := 31) rfl)))))))))
theorem mw_1039 : Cond.selects "java/util/NoSuchElementException" (⟨"java/lang/Throwable", "fillInStackTrace", "(I)Ljava/lang/Throwable;"⟩ : MethodName) (⟨"java/lang/Throwable", "fillInStackTrace", "(I)Ljava/lang/Throwable;"⟩ : MethodName) ∈ zz_W := List.mem_append_right _ (List.mem_append_right _ (List.mem_append_right _ (List.mem_append_right _ (List.mem_append_right _ (List.mem_append_right _ (List.mem_append_right _ (List.mem_append_right _ (List.mem_append_left _ (List.mem_of_getElem? (i := 32) rfl)))))))))
theorem mw_1040 : Cond.lays "java/util/NoSuchElementException" "java/lang/Throwable" "cause" "Ljava/lang/Throwable;" ∈ zz_W := List.mem_append_right _ (List.mem_append_right _ (List.mem_append_right _ (List.mem_append_right _ (List.mem_append_right _ (List.mem_append_right _ (List.mem_append_right _ (List.mem_append_right _ (List.mem_append_left _ (List.mem_of_getElem? (i := 33) rfl)))))))))
theorem mw_1041 : Cond.lays "java/util/NoSuchElementException" "java/lang/Throwable" "stackTrace" "[Ljava/lang/StackTraceElement;" ∈ zz_W := List.mem_append_right _ (List.mem_append_right _ (List.mem_append_right _ (List.mem_append_right _ (List.mem_append_right _ (List.mem_append_right _ (List.mem_append_right _ (List.mem_append_right _ (List.mem_append_left _ (List.mem_of_getElem? (i := 34) rfl)))))))))
theorem mw_1042 : Cond.lays "java/util/NoSuchElementException" "java/lang/Throwable" "suppressedExceptions" "Ljava/util/List;" ∈ zz_W := List.mem_append_right _ (List.mem_append_right _ (List.mem_append_right _ (List.mem_append_right _ (List.mem_append_right _ (List.mem_append_right _ (List.mem_append_right _ (List.mem_append_right _ (List.mem_append_left _ (List.mem_of_getElem? (i := 35) rfl)))))))))
theorem mw_1043 : Cond.lays "java/util/NoSuchElementException" "java/lang/Throwable" "detailMessage" "Ljava/lang/String;" ∈ zz_W := List.mem_append_right _ (List.mem_append_right _ (List.mem_append_right _ (List.mem_append_right _ (List.mem_append_right _ (List.mem_append_right _ (List.mem_append_right _ (List.mem_append_right _ (List.mem_append_left _ (List.mem_of_getElem? (i := 36) rfl)))))))))
theorem mw_1044 : Cond.lays "java/util/NoSuchElementException" "java/lang/Throwable" "backtrace" "Ljava/lang/Object;" ∈ zz_W := List.mem_append_right _ (List.mem_append_right _ (List.mem_append_right _ (List.mem_append_right _ (List.mem_append_right _ (List.mem_append_right _ (List.mem_append_right _ (List.mem_append_right _ (List.mem_append_left _ (List.mem_of_getElem? (i := 37) rfl)))))))))
theorem mw_1046 : Cond.methodLink R_FG 130 (⟨"java/util/NoSuchElementException", "<init>", "(Ljava/lang/String;)V"⟩ : MethodName) ∈ zz_W := List.mem_append_right _ (List.mem_append_right _ (List.mem_append_right _ (List.mem_append_right _ (List.mem_append_right _ (List.mem_append_right _ (List.mem_append_right _ (List.mem_append_right _ (List.mem_append_left _ (List.mem_of_getElem? (i := 38) rfl)))))))))
theorem mw_1047 : Cond.instanceMethod (⟨"java/util/NoSuchElementException", "<init>", "(Ljava/lang/String;)V"⟩ : MethodName) ∈ zz_W := List.mem_append_right _ (List.mem_append_right _ (List.mem_append_right _ (List.mem_append_right _ (List.mem_append_right _ (List.mem_append_right _ (List.mem_append_right _ (List.mem_append_right _ (List.mem_append_left _ (List.mem_of_getElem? (i := 39) rfl)))))))))
theorem mw_1048 : Cond.code (⟨"java/util/NoSuchElementException", "<init>", "(Ljava/lang/String;)V"⟩ : MethodName) prog_28_method_4_code 2 none ∈ zz_W := List.mem_append_right _ (List.mem_append_right _ (List.mem_append_right _ (List.mem_append_right _ (List.mem_append_right _ (List.mem_append_right _ (List.mem_append_right _ (List.mem_append_right _ (List.mem_append_left _ (List.mem_of_getElem? (i := 40) rfl)))))))))
theorem mw_1049 : Cond.methodLink "java/util/NoSuchElementException" 13 (⟨"java/lang/RuntimeException", "<init>", "(Ljava/lang/String;)V"⟩ : MethodName) ∈ zz_W := List.mem_append_right _ (List.mem_append_right _ (List.mem_append_right _ (List.mem_append_right _ (List.mem_append_right _ (List.mem_append_right _ (List.mem_append_right _ (List.mem_append_right _ (List.mem_append_left _ (List.mem_of_getElem? (i := 41) rfl)))))))))
theorem mw_1051 : Cond.superclass "java/util/NoSuchElementException" "java/lang/RuntimeException" ∈ zz_W := List.mem_append_right _ (List.mem_append_right _ (List.mem_append_right _ (List.mem_append_right _ (List.mem_append_right _ (List.mem_append_right _ (List.mem_append_right _ (List.mem_append_right _ (List.mem_append_left _ (List.mem_of_getElem? (i := 42) rfl)))))))))
theorem mw_1052 : Cond.methodLink R_La 99 y_La_place ∈ zz_W := List.mem_append_right _ (List.mem_append_right _ (List.mem_append_right _ (List.mem_append_right _ (List.mem_append_right _ (List.mem_append_right _ (List.mem_append_right _ (List.mem_append_right _ (List.mem_append_left _ (List.mem_of_getElem? (i := 43) rfl)))))))))
theorem mw_1053 : Cond.static y_La_place ∈ zz_W := List.mem_append_right _ (List.mem_append_right _ (List.mem_append_right _ (List.mem_append_right _ (List.mem_append_right _ (List.mem_append_right _ (List.mem_append_right _ (List.mem_append_right _ (List.mem_append_left _ (List.mem_of_getElem? (i := 44) rfl)))))))))
theorem mw_1054 : Cond.codeWith y_La_place method_10_code 6 (some .int) [(0, 12, 15, 41)] ∈ zz_W := List.mem_append_right _ (List.mem_append_right _ (List.mem_append_right _ (List.mem_append_right _ (List.mem_append_right _ (List.mem_append_right _ (List.mem_append_right _ (List.mem_append_right _ (List.mem_append_left _ (List.mem_of_getElem? (i := 45) rfl)))))))))
theorem mw_1055 : Cond.methodLink R_La 43 y_FG_place ∈ zz_W := List.mem_append_right _ (List.mem_append_right _ (List.mem_append_right _ (List.mem_append_right _ (List.mem_append_right _ (List.mem_append_right _ (List.mem_append_right _ (List.mem_append_right _ (List.mem_append_left _ (List.mem_of_getElem? (i := 46) rfl)))))))))
theorem mw_1056 : Cond.instanceMethod y_FG_place ∈ zz_W := List.mem_append_right _ (List.mem_append_right _ (List.mem_append_right _ (List.mem_append_right _ (List.mem_append_right _ (List.mem_append_right _ (List.mem_append_right _ (List.mem_append_right _ (List.mem_append_left _ (List.mem_of_getElem? (i := 47) rfl)))))))))
theorem mw_1057 : Cond.selects R_FG y_FG_place y_FG_place ∈ zz_W := List.mem_append_right _ (List.mem_append_right _ (List.mem_append_right _ (List.mem_append_right _ (List.mem_append_right _ (List.mem_append_right _ (List.mem_append_right _ (List.mem_append_right _ (List.mem_append_left _ (List.mem_of_getElem? (i := 48) rfl)))))))))
theorem mw_1058 : Cond.code y_FG_place prog_1_method_11_code 4 (some .int) ∈ zz_W := List.mem_append_right _ (List.mem_append_right _ (List.mem_append_right _ (List.mem_append_right _ (List.mem_append_right _ (List.mem_append_right _ (List.mem_append_right _ (List.mem_append_right _ (List.mem_append_left _ (List.mem_of_getElem? (i := 49) rfl)))))))))
theorem mw_1059 : Cond.methodLink R_FG 135 y_Ma_has ∈ zz_W := List.mem_append_right _ (List.mem_append_right _ (List.mem_append_right _ (List.mem_append_right _ (List.mem_append_right _ (List.mem_append_right _ (List.mem_append_right _ (List.mem_append_right _ (List.mem_append_right _ (List.mem_append_left _ (List.mem_of_getElem? (i := 0) rfl))))))))))
theorem mw_1060 : Cond.instanceMethod y_Ma_has ∈ zz_W := List.mem_append_right _ (List.mem_append_right _ (List.mem_append_right _ (List.mem_append_right _ (List.mem_append_right _ (List.mem_append_right _ (List.mem_append_right _ (List.mem_append_right _ (List.mem_append_right _ (List.mem_append_left _ (List.mem_of_getElem? (i := 1) rfl))))))))))
theorem mw_1061 : Cond.selects R_Ma y_Ma_has y_Ma_has ∈ zz_W := List.mem_append_right _ (List.mem_append_right _ (List.mem_append_right _ (List.mem_append_right _ (List.mem_append_right _ (List.mem_append_right _ (List.mem_append_right _ (List.mem_append_right _ (List.mem_append_right _ (List.mem_append_left _ (List.mem_of_getElem? (i := 2) rfl))))))))))
theorem mw_1062 : Cond.code y_Ma_has prog_5_method_4_code 3 (some .boolean) ∈ zz_W := List.mem_append_right _ (List.mem_append_right _ (List.mem_append_right _ (List.mem_append_right _ (List.mem_append_right _ (List.mem_append_right _ (List.mem_append_right _ (List.mem_append_right _ (List.mem_append_right _ (List.mem_append_left _ (List.mem_of_getElem? (i := 3) rfl))))))))))
theorem mw_1069 : Cond.methodLink R_La 102 y_La_log ∈ zz_W := List.mem_append_right _ (List.mem_append_right _ (List.mem_append_right _ (List.mem_append_right _ (List.mem_append_right _ (List.mem_append_right _ (List.mem_append_right _ (List.mem_append_right _ (List.mem_append_right _ (List.mem_append_left _ (List.mem_of_getElem? (i := 4) rfl))))))))))
theorem mw_1070 : Cond.static y_La_log ∈ zz_W := List.mem_append_right _ (List.mem_append_right _ (List.mem_append_right _ (List.mem_append_right _ (List.mem_append_right _ (List.mem_append_right _ (List.mem_append_right _ (List.mem_append_right _ (List.mem_append_right _ (List.mem_append_left _ (List.mem_of_getElem? (i := 5) rfl))))))))))
theorem mw_1071 : Cond.codeWith y_La_log method_11_code 4 (some .int) [(0, 8, 11, 41)] ∈ zz_W := List.mem_append_right _ (List.mem_append_right _ (List.mem_append_right _ (List.mem_append_right _ (List.mem_append_right _ (List.mem_append_right _ (List.mem_append_right _ (List.mem_append_right _ (List.mem_append_right _ (List.mem_append_left _ (List.mem_of_getElem? (i := 6) rfl))))))))))
theorem mw_1072 : Cond.methodLink R_La 46 y_FG_log ∈ zz_W := List.mem_append_right _ (List.mem_append_right _ (List.mem_append_right _ (List.mem_append_right _ (List.mem_append_right _ (List.mem_append_right _ (List.mem_append_right _ (List.mem_append_right _ (List.mem_append_right _ (List.mem_append_left _ (List.mem_of_getElem? (i := 7) rfl))))))))))
theorem mw_1073 : Cond.instanceMethod y_FG_log ∈ zz_W := List.mem_append_right _ (List.mem_append_right _ (List.mem_append_right _ (List.mem_append_right _ (List.mem_append_right _ (List.mem_append_right _ (List.mem_append_right _ (List.mem_append_right _ (List.mem_append_right _ (List.mem_append_left _ (List.mem_of_getElem? (i := 8) rfl))))))))))
theorem mw_1074 : Cond.selects R_FG y_FG_log y_FG_log ∈ zz_W := List.mem_append_right _ (List.mem_append_right _ (List.mem_append_right _ (List.mem_append_right _ (List.mem_append_right _ (List.mem_append_right _ (List.mem_append_right _ (List.mem_append_right _ (List.mem_append_right _ (List.mem_append_left _ (List.mem_of_getElem? (i := 9) rfl))))))))))
theorem mw_1075 : Cond.code y_FG_log prog_1_method_12_code 2 (some .long) ∈ zz_W := List.mem_append_right _ (List.mem_append_right _ (List.mem_append_right _ (List.mem_append_right _ (List.mem_append_right _ (List.mem_append_right _ (List.mem_append_right _ (List.mem_append_right _ (List.mem_append_right _ (List.mem_append_left _ (List.mem_of_getElem? (i := 10) rfl))))))))))
theorem mw_1077 : Cond.methodLink R_La 105 y_La_known ∈ zz_W := List.mem_append_right _ (List.mem_append_right _ (List.mem_append_right _ (List.mem_append_right _ (List.mem_append_right _ (List.mem_append_right _ (List.mem_append_right _ (List.mem_append_right _ (List.mem_append_right _ (List.mem_append_left _ (List.mem_of_getElem? (i := 11) rfl))))))))))
theorem mw_1078 : Cond.static y_La_known ∈ zz_W := List.mem_append_right _ (List.mem_append_right _ (List.mem_append_right _ (List.mem_append_right _ (List.mem_append_right _ (List.mem_append_right _ (List.mem_append_right _ (List.mem_append_right _ (List.mem_append_right _ (List.mem_append_left _ (List.mem_of_getElem? (i := 12) rfl))))))))))
theorem mw_1079 : Cond.codeWith y_La_known method_12_code 6 (some .int) [(0, 11, 14, 13), (0, 11, 18, 41)] ∈ zz_W := List.mem_append_right _ (List.mem_append_right _ (List.mem_append_right _ (List.mem_append_right _ (List.mem_append_right _ (List.mem_append_right _ (List.mem_append_right _ (List.mem_append_right _ (List.mem_append_right _ (List.mem_append_left _ (List.mem_of_getElem? (i := 13) rfl))))))))))
theorem mw_1080 : Cond.methodLink R_La 50 y_FG_known ∈ zz_W := List.mem_append_right _ (List.mem_append_right _ (List.mem_append_right _ (List.mem_append_right _ (List.mem_append_right _ (List.mem_append_right _ (List.mem_append_right _ (List.mem_append_right _ (List.mem_append_right _ (List.mem_append_left _ (List.mem_of_getElem? (i := 14) rfl))))))))))
theorem mw_1081 : Cond.instanceMethod y_FG_known ∈ zz_W := List.mem_append_right _ (List.mem_append_right _ (List.mem_append_right _ (List.mem_append_right _ (List.mem_append_right _ (List.mem_append_right _ (List.mem_append_right _ (List.mem_append_right _ (List.mem_append_right _ (List.mem_append_left _ (List.mem_of_getElem? (i := 15) rfl))))))))))
theorem mw_1082 : Cond.selects R_FG y_FG_known y_FG_known ∈ zz_W := List.mem_append_right _ (List.mem_append_right _ (List.mem_append_right _ (List.mem_append_right _ (List.mem_append_right _ (List.mem_append_right _ (List.mem_append_right _ (List.mem_append_right _ (List.mem_append_right _ (List.mem_append_left _ (List.mem_of_getElem? (i := 16) rfl))))))))))
theorem mw_1083 : Cond.code y_FG_known prog_1_method_13_code 4 (some .long) ∈ zz_W := List.mem_append_right _ (List.mem_append_right _ (List.mem_append_right _ (List.mem_append_right _ (List.mem_append_right _ (List.mem_append_right _ (List.mem_append_right _ (List.mem_append_right _ (List.mem_append_right _ (List.mem_append_left _ (List.mem_of_getElem? (i := 17) rfl))))))))))
theorem mw_1091 : Cond.classLink R_La 55 R_Mo ∈ zz_W := List.mem_append_right _ (List.mem_append_right _ (List.mem_append_right _ (List.mem_append_right _ (List.mem_append_right _ (List.mem_append_right _ (List.mem_append_right _ (List.mem_append_right _ (List.mem_append_right _ (List.mem_append_left _ (List.mem_of_getElem? (i := 18) rfl))))))))))
theorem mw_1092 : Cond.instantiable R_Mo 56 ∈ zz_W := List.mem_append_right _ (List.mem_append_right _ (List.mem_append_right _ (List.mem_append_right _ (List.mem_append_right _ (List.mem_append_right _ (List.mem_append_right _ (List.mem_append_right _ (List.mem_append_right _ (List.mem_append_left _ (List.mem_of_getElem? (i := 19) rfl))))))))))
theorem mw_1093 : Cond.methodLink R_La 57 y_Mo_init ∈ zz_W := List.mem_append_right _ (List.mem_append_right _ (List.mem_append_right _ (List.mem_append_right _ (List.mem_append_right _ (List.mem_append_right _ (List.mem_append_right _ (List.mem_append_right _ (List.mem_append_right _ (List.mem_append_left _ (List.mem_of_getElem? (i := 20) rfl))))))))))
theorem mw_1094 : Cond.instanceMethod y_Mo_init ∈ zz_W := List.mem_append_right _ (List.mem_append_right _ (List.mem_append_right _ (List.mem_append_right _ (List.mem_append_right _ (List.mem_append_right _ (List.mem_append_right _ (List.mem_append_right _ (List.mem_append_right _ (List.mem_append_left _ (List.mem_of_getElem? (i := 21) rfl))))))))))
theorem mw_1095 : Cond.code y_Mo_init prog_14_method_1_code 1 none ∈ zz_W := List.mem_append_right _ (List.mem_append_right _ (List.mem_append_right _ (List.mem_append_right _ (List.mem_append_right _ (List.mem_append_right _ (List.mem_append_right _ (List.mem_append_right _ (List.mem_append_right _ (List.mem_append_left _ (List.mem_of_getElem? (i := 22) rfl))))))))))
theorem mw_1096 : Cond.methodLink R_Mo 5 (⟨"java/lang/Object", "<init>", "()V"⟩ : MethodName) ∈ zz_W := List.mem_append_right _ (List.mem_append_right _ (List.mem_append_right _ (List.mem_append_right _ (List.mem_append_right _ (List.mem_append_right _ (List.mem_append_right _ (List.mem_append_right _ (List.mem_append_right _ (List.mem_append_left _ (List.mem_of_getElem? (i := 23) rfl))))))))))
theorem mw_1097 : Cond.fieldLink R_Mo 109 R_Mo "thrown" "I" ∈ zz_W := List.mem_append_right _ (List.mem_append_right _ (List.mem_append_right _ (List.mem_append_right _ (List.mem_append_right _ (List.mem_append_right _ (List.mem_append_right _ (List.mem_append_right _ (List.mem_append_right _ (List.mem_append_left _ (List.mem_of_getElem? (i := 24) rfl))))))))))
theorem mw_1098 : Cond.fieldLink R_Mo 11 R_Mo "sort" "[I" ∈ zz_W := List.mem_append_right _ (List.mem_append_right _ (List.mem_append_right _ (List.mem_append_right _ (List.mem_append_right _ (List.mem_append_right _ (List.mem_append_right _ (List.mem_append_right _ (List.mem_append_right _ (List.mem_append_left _ (List.mem_of_getElem? (i := 25) rfl))))))))))
theorem mw_1099 : Cond.fieldLink R_Mo 15 R_Mo "dst" "[I" ∈ zz_W := List.mem_append_right _ (List.mem_append_right _ (List.mem_append_right _ (List.mem_append_right _ (List.mem_append_right _ (List.mem_append_right _ (List.mem_append_right _ (List.mem_append_right _ (List.mem_append_right _ (List.mem_append_left _ (List.mem_of_getElem? (i := 26) rfl))))))))))
theorem mw_1100 : Cond.fieldLink R_Mo 18 R_Mo "src" "[I" ∈ zz_W := List.mem_append_right _ (List.mem_append_right _ (List.mem_append_right _ (List.mem_append_right _ (List.mem_append_right _ (List.mem_append_right _ (List.mem_append_right _ (List.mem_append_right _ (List.mem_append_right _ (List.mem_append_left _ (List.mem_of_getElem? (i := 27) rfl))))))))))
theorem mw_1101 : Cond.fieldLink R_Mo 21 R_Mo "off" "[I" ∈ zz_W := List.mem_append_right _ (List.mem_append_right _ (List.mem_append_right _ (List.mem_append_right _ (List.mem_append_right _ (List.mem_append_right _ (List.mem_append_right _ (List.mem_append_right _ (List.mem_append_right _ (List.mem_append_left _ (List.mem_of_getElem? (i := 28) rfl))))))))))
theorem mw_1102 : Cond.fieldLink R_Mo 24 R_Mo "imm" "[I" ∈ zz_W := List.mem_append_right _ (List.mem_append_right _ (List.mem_append_right _ (List.mem_append_right _ (List.mem_append_right _ (List.mem_append_right _ (List.mem_append_right _ (List.mem_append_right _ (List.mem_append_right _ (List.mem_append_left _ (List.mem_of_getElem? (i := 29) rfl))))))))))
theorem mw_1103 : Cond.fieldLink R_Mo 123 R_Mo "many" "I" ∈ zz_W := List.mem_append_right _ (List.mem_append_right _ (List.mem_append_right _ (List.mem_append_right _ (List.mem_append_right _ (List.mem_append_right _ (List.mem_append_right _ (List.mem_append_right _ (List.mem_append_right _ (List.mem_append_left _ (List.mem_of_getElem? (i := 30) rfl))))))))))
theorem mw_1104 : Cond.fieldLink R_Mo 119 R_Mo "passed" "Z" ∈ zz_W := List.mem_append_right _ (List.mem_append_right _ (List.mem_append_right _ (List.mem_append_right _ (List.mem_append_right _ (List.mem_append_right _ (List.mem_append_right _ (List.mem_append_right _ (List.mem_append_right _ (List.mem_append_left _ (List.mem_of_getElem? (i := 31) rfl))))))))))
theorem mw_1105 : Cond.fieldLink R_Mo 27 R_Mo "keyBytes" "[I" ∈ zz_W := List.mem_append_right _ (List.mem_append_right _ (List.mem_append_right _ (List.mem_append_right _ (List.mem_append_right _ (List.mem_append_right _ (List.mem_append_right _ (List.mem_append_right _ (List.mem_append_right _ (List.mem_append_left _ (List.mem_of_getElem? (i := 32) rfl))))))))))
theorem mw_1106 : Cond.fieldLink R_Mo 30 R_Mo "valueBytes" "[I" ∈ zz_W := List.mem_append_right _ (List.mem_append_right _ (List.mem_append_right _ (List.mem_append_right _ (List.mem_append_right _ (List.mem_append_right _ (List.mem_append_right _ (List.mem_append_right _ (List.mem_append_right _ (List.mem_append_left _ (List.mem_of_getElem? (i := 33) rfl))))))))))
theorem mw_1107 : Cond.fieldLink R_Mo 33 R_Mo "places" "[I" ∈ zz_W := List.mem_append_right _ (List.mem_append_right _ (List.mem_append_right _ (List.mem_append_right _ (List.mem_append_right _ (List.mem_append_right _ (List.mem_append_right _ (List.mem_append_right _ (List.mem_append_right _ (List.mem_append_left _ (List.mem_of_getElem? (i := 34) rfl))))))))))
theorem mw_1108 : Cond.fieldLink R_Mo 116 R_Mo "maps" "I" ∈ zz_W := List.mem_append_right _ (List.mem_append_right _ (List.mem_append_right _ (List.mem_append_right _ (List.mem_append_right _ (List.mem_append_right _ (List.mem_append_right _ (List.mem_append_right _ (List.mem_append_right _ (List.mem_append_left _ (List.mem_of_getElem? (i := 35) rfl))))))))))
theorem mw_1109 : Cond.fieldLink R_Mo 339 R_Mo "fault" "I" ∈ zz_W := List.mem_append_right _ (List.mem_append_right _ (List.mem_append_right _ (List.mem_append_right _ (List.mem_append_right _ (List.mem_append_right _ (List.mem_append_right _ (List.mem_append_right _ (List.mem_append_right _ (List.mem_append_left _ (List.mem_of_getElem? (i := 36) rfl))))))))))
theorem mw_1110 : Cond.fieldLink R_Mo 36 R_Mo "faultAt" "I" ∈ zz_W := List.mem_append_right _ (List.mem_append_right _ (List.mem_append_right _ (List.mem_append_right _ (List.mem_append_right _ (List.mem_append_right _ (List.mem_append_right _ (List.mem_append_right _ (List.mem_append_right _ (List.mem_append_left _ (List.mem_of_getElem? (i := 37) rfl))))))))))
theorem mw_1111 : Cond.fieldLink R_Mo 342 R_Mo "gone" "I" ∈ zz_W := List.mem_append_right _ (List.mem_append_right _ (List.mem_append_right _ (List.mem_append_right _ (List.mem_append_right _ (List.mem_append_right _ (List.mem_append_right _ (List.mem_append_right _ (List.mem_append_right _ (List.mem_append_left _ (List.mem_of_getElem? (i := 38) rfl))))))))))
theorem mw_1112 : Cond.fieldLink R_Mo 40 R_Mo "kind" "[I" ∈ zz_W := List.mem_append_right _ (List.mem_append_right _ (List.mem_append_right _ (List.mem_append_right _ (List.mem_append_right _ (List.mem_append_right _ (List.mem_append_right _ (List.mem_append_right _ (List.mem_append_right _ (List.mem_append_left _ (List.mem_of_getElem? (i := 39) rfl))))))))))
theorem mw_1113 : Cond.fieldLink R_Mo 43 R_Mo "mapOf" "[I" ∈ zz_W := List.mem_append_right _ (List.mem_append_right _ (List.mem_append_right _ (List.mem_append_right _ (List.mem_append_right _ (List.mem_append_right _ (List.mem_append_right _ (List.mem_append_right _ (List.mem_append_right _ (List.mem_append_left _ (List.mem_of_getElem? (i := 40) rfl))))))))))
theorem mw_1114 : Cond.fieldLink R_Mo 46 R_Mo "tag" "[I" ∈ zz_W := List.mem_append_right _ (List.mem_append_right _ (List.mem_append_right _ (List.mem_append_right _ (List.mem_append_right _ (List.mem_append_right _ (List.mem_append_right _ (List.mem_append_right _ (List.mem_append_right _ (List.mem_append_left _ (List.mem_of_getElem? (i := 41) rfl))))))))))
theorem mw_1115 : Cond.fieldLink R_Mo 49 R_Mo "low" "[J" ∈ zz_W := List.mem_append_right _ (List.mem_append_right _ (List.mem_append_right _ (List.mem_append_right _ (List.mem_append_right _ (List.mem_append_right _ (List.mem_append_right _ (List.mem_append_right _ (List.mem_append_right _ (List.mem_append_left _ (List.mem_of_getElem? (i := 42) rfl))))))))))
theorem mw_1116 : Cond.fieldLink R_Mo 53 R_Mo "high" "[J" ∈ zz_W := List.mem_append_right _ (List.mem_append_right _ (List.mem_append_right _ (List.mem_append_right _ (List.mem_append_right _ (List.mem_append_right _ (List.mem_append_right _ (List.mem_append_right _ (List.mem_append_right _ (List.mem_append_left _ (List.mem_of_getElem? (i := 43) rfl))))))))))
theorem mw_1117 : Cond.fieldLink R_Mo 56 R_Mo "stack" "[I" ∈ zz_W := List.mem_append_right _ (List.mem_append_right _ (List.mem_append_right _ (List.mem_append_right _ (List.mem_append_right _ (List.mem_append_right _ (List.mem_append_right _ (List.mem_append_right _ (List.mem_append_right _ (List.mem_append_left _ (List.mem_of_getElem? (i := 44) rfl))))))))))
theorem mw_1118 : Cond.fieldLink R_Mo 59 R_Mo "length" "[I" ∈ zz_W := List.mem_append_right _ (List.mem_append_right _ (List.mem_append_right _ (List.mem_append_right _ (List.mem_append_right _ (List.mem_append_right _ (List.mem_append_right _ (List.mem_append_right _ (List.mem_append_right _ (List.mem_append_left _ (List.mem_of_getElem? (i := 45) rfl))))))))))
theorem mw_1119 : Cond.fieldLink R_Mo 62 R_Mo "goesTo" "[I" ∈ zz_W := List.mem_append_right _ (List.mem_append_right _ (List.mem_append_right _ (List.mem_append_right _ (List.mem_append_right _ (List.mem_append_right _ (List.mem_append_right _ (List.mem_append_right _ (List.mem_append_right _ (List.mem_append_left _ (List.mem_of_getElem? (i := 46) rfl))))))))))
theorem mw_1122 : Cond.fieldLink R_Mo 65 R_Mo "times" "[I" ∈ zz_W := List.mem_append_right _ (List.mem_append_right _ (List.mem_append_right _ (List.mem_append_right _ (List.mem_append_right _ (List.mem_append_right _ (List.mem_append_right _ (List.mem_append_right _ (List.mem_append_right _ (List.mem_append_left _ (List.mem_of_getElem? (i := 47) rfl))))))))))
theorem mw_1123 : Cond.fieldLink R_Mo 68 R_Mo "seen" "[I" ∈ zz_W := List.mem_append_right _ (List.mem_append_right _ (List.mem_append_right _ (List.mem_append_right _ (List.mem_append_right _ (List.mem_append_right _ (List.mem_append_right _ (List.mem_append_right _ (List.mem_append_right _ (List.mem_append_left _ (List.mem_of_getElem? (i := 48) rfl))))))))))
theorem mw_1124 : Cond.fieldLink R_Mo 71 R_Mo "leastLow" "[J" ∈ zz_W := List.mem_append_right _ (List.mem_append_right _ (List.mem_append_right _ (List.mem_append_right _ (List.mem_append_right _ (List.mem_append_right _ (List.mem_append_right _ (List.mem_append_right _ (List.mem_append_right _ (List.mem_append_left _ (List.mem_of_getElem? (i := 49) rfl))))))))))
theorem mw_1125 : Cond.fieldLink R_Mo 74 R_Mo "mostHigh" "[J" ∈ zz_W := List.mem_append_right _ (List.mem_append_right _ (List.mem_append_right _ (List.mem_append_right _ (List.mem_append_right _ (List.mem_append_right _ (List.mem_append_right _ (List.mem_append_right _ (List.mem_append_right _ (List.mem_append_right _ (List.mem_append_left _ (List.mem_of_getElem? (i := 0) rfl)))))))))))
theorem mw_1137 : Cond.fieldLink R_Mo 77 R_Mo "packet" "[B" ∈ zz_W := List.mem_append_right _ (List.mem_append_right _ (List.mem_append_right _ (List.mem_append_right _ (List.mem_append_right _ (List.mem_append_right _ (List.mem_append_right _ (List.mem_append_right _ (List.mem_append_right _ (List.mem_append_right _ (List.mem_append_left _ (List.mem_of_getElem? (i := 1) rfl)))))))))))
theorem mw_1138 : Cond.fieldLink R_Mo 390 R_Mo "packetEnd" "I" ∈ zz_W := List.mem_append_right _ (List.mem_append_right _ (List.mem_append_right _ (List.mem_append_right _ (List.mem_append_right _ (List.mem_append_right _ (List.mem_append_right _ (List.mem_append_right _ (List.mem_append_right _ (List.mem_append_right _ (List.mem_append_left _ (List.mem_of_getElem? (i := 2) rfl)))))))))))
theorem mw_1139 : Cond.fieldLink R_Mo 81 R_Mo "data" "[B" ∈ zz_W := List.mem_append_right _ (List.mem_append_right _ (List.mem_append_right _ (List.mem_append_right _ (List.mem_append_right _ (List.mem_append_right _ (List.mem_append_right _ (List.mem_append_right _ (List.mem_append_right _ (List.mem_append_right _ (List.mem_append_left _ (List.mem_of_getElem? (i := 3) rfl)))))))))))
theorem mw_1140 : Cond.fieldLink R_Mo 84 R_Mo "full" "[Z" ∈ zz_W := List.mem_append_right _ (List.mem_append_right _ (List.mem_append_right _ (List.mem_append_right _ (List.mem_append_right _ (List.mem_append_right _ (List.mem_append_right _ (List.mem_append_right _ (List.mem_append_right _ (List.mem_append_right _ (List.mem_append_left _ (List.mem_of_getElem? (i := 4) rfl)))))))))))
theorem mw_1141 : Cond.fieldLink R_Mo 434 R_Mo "seed" "J" ∈ zz_W := List.mem_append_right _ (List.mem_append_right _ (List.mem_append_right _ (List.mem_append_right _ (List.mem_append_right _ (List.mem_append_right _ (List.mem_append_right _ (List.mem_append_right _ (List.mem_append_right _ (List.mem_append_right _ (List.mem_append_left _ (List.mem_of_getElem? (i := 5) rfl)))))))))))
theorem mw_1142 : Cond.fieldLink R_Mo 88 R_Mo "log" "[J" ∈ zz_W := List.mem_append_right _ (List.mem_append_right _ (List.mem_append_right _ (List.mem_append_right _ (List.mem_append_right _ (List.mem_append_right _ (List.mem_append_right _ (List.mem_append_right _ (List.mem_append_right _ (List.mem_append_right _ (List.mem_append_left _ (List.mem_of_getElem? (i := 6) rfl)))))))))))
theorem mw_1143 : Cond.fieldLink R_Mo 431 R_Mo "logged" "I" ∈ zz_W := List.mem_append_right _ (List.mem_append_right _ (List.mem_append_right _ (List.mem_append_right _ (List.mem_append_right _ (List.mem_append_right _ (List.mem_append_right _ (List.mem_append_right _ (List.mem_append_right _ (List.mem_append_right _ (List.mem_append_left _ (List.mem_of_getElem? (i := 7) rfl)))))))))))
theorem mw_1144 : Cond.fieldLink R_Mo 441 R_Mo "done" "I" ∈ zz_W := List.mem_append_right _ (List.mem_append_right _ (List.mem_append_right _ (List.mem_append_right _ (List.mem_append_right _ (List.mem_append_right _ (List.mem_append_right _ (List.mem_append_right _ (List.mem_append_right _ (List.mem_append_right _ (List.mem_append_left _ (List.mem_of_getElem? (i := 8) rfl)))))))))))
theorem mw_1145 : Cond.fieldLink R_Mo 387 R_Mo "wrong" "I" ∈ zz_W := List.mem_append_right _ (List.mem_append_right _ (List.mem_append_right _ (List.mem_append_right _ (List.mem_append_right _ (List.mem_append_right _ (List.mem_append_right _ (List.mem_append_right _ (List.mem_append_right _ (List.mem_append_right _ (List.mem_append_left _ (List.mem_of_getElem? (i := 9) rfl)))))))))))
theorem mw_1146 : Cond.fieldLink R_Mo 91 R_Mo "is" "[I" ∈ zz_W := List.mem_append_right _ (List.mem_append_right _ (List.mem_append_right _ (List.mem_append_right _ (List.mem_append_right _ (List.mem_append_right _ (List.mem_append_right _ (List.mem_append_right _ (List.mem_append_right _ (List.mem_append_right _ (List.mem_append_left _ (List.mem_of_getElem? (i := 10) rfl)))))))))))
theorem mw_1147 : Cond.fieldLink R_Mo 94 R_Mo "ofMap" "[I" ∈ zz_W := List.mem_append_right _ (List.mem_append_right _ (List.mem_append_right _ (List.mem_append_right _ (List.mem_append_right _ (List.mem_append_right _ (List.mem_append_right _ (List.mem_append_right _ (List.mem_append_right _ (List.mem_append_right _ (List.mem_append_left _ (List.mem_of_getElem? (i := 11) rfl)))))))))))
theorem mw_1148 : Cond.fieldLink R_Mo 97 R_Mo "ofPlace" "[I" ∈ zz_W := List.mem_append_right _ (List.mem_append_right _ (List.mem_append_right _ (List.mem_append_right _ (List.mem_append_right _ (List.mem_append_right _ (List.mem_append_right _ (List.mem_append_right _ (List.mem_append_right _ (List.mem_append_right _ (List.mem_append_left _ (List.mem_of_getElem? (i := 12) rfl)))))))))))
theorem mw_1149 : Cond.fieldLink R_Mo 100 R_Mo "ofTag" "[I" ∈ zz_W := List.mem_append_right _ (List.mem_append_right _ (List.mem_append_right _ (List.mem_append_right _ (List.mem_append_right _ (List.mem_append_right _ (List.mem_append_right _ (List.mem_append_right _ (List.mem_append_right _ (List.mem_append_right _ (List.mem_append_left _ (List.mem_of_getElem? (i := 13) rfl)))))))))))
theorem mw_1150 : Cond.fieldLink R_Mo 103 R_Mo "is64" "[J" ∈ zz_W := List.mem_append_right _ (List.mem_append_right _ (List.mem_append_right _ (List.mem_append_right _ (List.mem_append_right _ (List.mem_append_right _ (List.mem_append_right _ (List.mem_append_right _ (List.mem_append_right _ (List.mem_append_right _ (List.mem_append_left _ (List.mem_of_getElem? (i := 14) rfl)))))))))))
theorem mw_1151 : Cond.fieldLink R_Mo 106 R_Mo "own" "[B" ∈ zz_W := List.mem_append_right _ (List.mem_append_right _ (List.mem_append_right _ (List.mem_append_right _ (List.mem_append_right _ (List.mem_append_right _ (List.mem_append_right _ (List.mem_append_right _ (List.mem_append_right _ (List.mem_append_right _ (List.mem_append_left _ (List.mem_of_getElem? (i := 15) rfl)))))))))))
theorem mw_1153 : Cond.lays R_Mo R_Mo "thrown" "I" ∈ zz_W := List.mem_append_right _ (List.mem_append_right _ (List.mem_append_right _ (List.mem_append_right _ (List.mem_append_right _ (List.mem_append_right _ (List.mem_append_right _ (List.mem_append_right _ (List.mem_append_right _ (List.mem_append_right _ (List.mem_append_left _ (List.mem_of_getElem? (i := 16) rfl)))))))))))
theorem mw_1155 : Cond.laysFinal R_Mo R_Mo "sort" "[I" ∈ zz_W := List.mem_append_right _ (List.mem_append_right _ (List.mem_append_right _ (List.mem_append_right _ (List.mem_append_right _ (List.mem_append_right _ (List.mem_append_right _ (List.mem_append_right _ (List.mem_append_right _ (List.mem_append_right _ (List.mem_append_left _ (List.mem_of_getElem? (i := 17) rfl)))))))))))
theorem mw_1157 : Cond.laysFinal R_Mo R_Mo "dst" "[I" ∈ zz_W := List.mem_append_right _ (List.mem_append_right _ (List.mem_append_right _ (List.mem_append_right _ (List.mem_append_right _ (List.mem_append_right _ (List.mem_append_right _ (List.mem_append_right _ (List.mem_append_right _ (List.mem_append_right _ (List.mem_append_left _ (List.mem_of_getElem? (i := 18) rfl)))))))))))
theorem mw_1159 : Cond.laysFinal R_Mo R_Mo "src" "[I" ∈ zz_W := List.mem_append_right _ (List.mem_append_right _ (List.mem_append_right _ (List.mem_append_right _ (List.mem_append_right _ (List.mem_append_right _ (List.mem_append_right _ (List.mem_append_right _ (List.mem_append_right _ (List.mem_append_right _ (List.mem_append_left _ (List.mem_of_getElem? (i := 19) rfl)))))))))))
theorem mw_1161 : Cond.laysFinal R_Mo R_Mo "off" "[I" ∈ zz_W := List.mem_append_right _ (List.mem_append_right _ (List.mem_append_right _ (List.mem_append_right _ (List.mem_append_right _ (List.mem_append_right _ (List.mem_append_right _ (List.mem_append_right _ (List.mem_append_right _ (List.mem_append_right _ (List.mem_append_left _ (List.mem_of_getElem? (i := 20) rfl)))))))))))
theorem mw_1163 : Cond.laysFinal R_Mo R_Mo "imm" "[I" ∈ zz_W := List.mem_append_right _ (List.mem_append_right _ (List.mem_append_right _ (List.mem_append_right _ (List.mem_append_right _ (List.mem_append_right _ (List.mem_append_right _ (List.mem_append_right _ (List.mem_append_right _ (List.mem_append_right _ (List.mem_append_left _ (List.mem_of_getElem? (i := 21) rfl)))))))))))
theorem mw_1165 : Cond.lays R_Mo R_Mo "many" "I" ∈ zz_W := List.mem_append_right _ (List.mem_append_right _ (List.mem_append_right _ (List.mem_append_right _ (List.mem_append_right _ (List.mem_append_right _ (List.mem_append_right _ (List.mem_append_right _ (List.mem_append_right _ (List.mem_append_right _ (List.mem_append_left _ (List.mem_of_getElem? (i := 22) rfl)))))))))))
theorem mw_1167 : Cond.lays R_Mo R_Mo "passed" "Z" ∈ zz_W := List.mem_append_right _ (List.mem_append_right _ (List.mem_append_right _ (List.mem_append_right _ (List.mem_append_right _ (List.mem_append_right _ (List.mem_append_right _ (List.mem_append_right _ (List.mem_append_right _ (List.mem_append_right _ (List.mem_append_left _ (List.mem_of_getElem? (i := 23) rfl)))))))))))
theorem mw_1169 : Cond.laysFinal R_Mo R_Mo "keyBytes" "[I" ∈ zz_W := List.mem_append_right _ (List.mem_append_right _ (List.mem_append_right _ (List.mem_append_right _ (List.mem_append_right _ (List.mem_append_right _ (List.mem_append_right _ (List.mem_append_right _ (List.mem_append_right _ (List.mem_append_right _ (List.mem_append_left _ (List.mem_of_getElem? (i := 24) rfl)))))))))))
theorem mw_1171 : Cond.laysFinal R_Mo R_Mo "valueBytes" "[I" ∈ zz_W := List.mem_append_right _ (List.mem_append_right _ (List.mem_append_right _ (List.mem_append_right _ (List.mem_append_right _ (List.mem_append_right _ (List.mem_append_right _ (List.mem_append_right _ (List.mem_append_right _ (List.mem_append_right _ (List.mem_append_left _ (List.mem_of_getElem? (i := 25) rfl)))))))))))
theorem mw_1173 : Cond.laysFinal R_Mo R_Mo "places" "[I" ∈ zz_W := List.mem_append_right _ (List.mem_append_right _ (List.mem_append_right _ (List.mem_append_right _ (List.mem_append_right _ (List.mem_append_right _ (List.mem_append_right _ (List.mem_append_right _ (List.mem_append_right _ (List.mem_append_right _ (List.mem_append_left _ (List.mem_of_getElem? (i := 26) rfl)))))))))))
theorem mw_1175 : Cond.lays R_Mo R_Mo "maps" "I" ∈ zz_W := List.mem_append_right _ (List.mem_append_right _ (List.mem_append_right _ (List.mem_append_right _ (List.mem_append_right _ (List.mem_append_right _ (List.mem_append_right _ (List.mem_append_right _ (List.mem_append_right _ (List.mem_append_right _ (List.mem_append_left _ (List.mem_of_getElem? (i := 27) rfl)))))))))))
theorem mw_1177 : Cond.lays R_Mo R_Mo "fault" "I" ∈ zz_W := List.mem_append_right _ (List.mem_append_right _ (List.mem_append_right _ (List.mem_append_right _ (List.mem_append_right _ (List.mem_append_right _ (List.mem_append_right _ (List.mem_append_right _ (List.mem_append_right _ (List.mem_append_right _ (List.mem_append_left _ (List.mem_of_getElem? (i := 28) rfl)))))))))))
theorem mw_1179 : Cond.lays R_Mo R_Mo "faultAt" "I" ∈ zz_W := List.mem_append_right _ (List.mem_append_right _ (List.mem_append_right _ (List.mem_append_right _ (List.mem_append_right _ (List.mem_append_right _ (List.mem_append_right _ (List.mem_append_right _ (List.mem_append_right _ (List.mem_append_right _ (List.mem_append_left _ (List.mem_of_getElem? (i := 29) rfl)))))))))))
theorem mw_1181 : Cond.lays R_Mo R_Mo "gone" "I" ∈ zz_W := List.mem_append_right _ (List.mem_append_right _ (List.mem_append_right _ (List.mem_append_right _ (List.mem_append_right _ (List.mem_append_right _ (List.mem_append_right _ (List.mem_append_right _ (List.mem_append_right _ (List.mem_append_right _ (List.mem_append_left _ (List.mem_of_getElem? (i := 30) rfl)))))))))))
theorem mw_1183 : Cond.laysFinal R_Mo R_Mo "kind" "[I" ∈ zz_W := List.mem_append_right _ (List.mem_append_right _ (List.mem_append_right _ (List.mem_append_right _ (List.mem_append_right _ (List.mem_append_right _ (List.mem_append_right _ (List.mem_append_right _ (List.mem_append_right _ (List.mem_append_right _ (List.mem_append_left _ (List.mem_of_getElem? (i := 31) rfl)))))))))))
theorem mw_1185 : Cond.laysFinal R_Mo R_Mo "mapOf" "[I" ∈ zz_W := List.mem_append_right _ (List.mem_append_right _ (List.mem_append_right _ (List.mem_append_right _ (List.mem_append_right _ (List.mem_append_right _ (List.mem_append_right _ (List.mem_append_right _ (List.mem_append_right _ (List.mem_append_right _ (List.mem_append_left _ (List.mem_of_getElem? (i := 32) rfl)))))))))))
theorem mw_1187 : Cond.laysFinal R_Mo R_Mo "tag" "[I" ∈ zz_W := List.mem_append_right _ (List.mem_append_right _ (List.mem_append_right _ (List.mem_append_right _ (List.mem_append_right _ (List.mem_append_right _ (List.mem_append_right _ (List.mem_append_right _ (List.mem_append_right _ (List.mem_append_right _ (List.mem_append_left _ (List.mem_of_getElem? (i := 33) rfl)))))))))))
theorem mw_1189 : Cond.laysFinal R_Mo R_Mo "low" "[J" ∈ zz_W := List.mem_append_right _ (List.mem_append_right _ (List.mem_append_right _ (List.mem_append_right _ (List.mem_append_right _ (List.mem_append_right _ (List.mem_append_right _ (List.mem_append_right _ (List.mem_append_right _ (List.mem_append_right _ (List.mem_append_left _ (List.mem_of_getElem? (i := 34) rfl)))))))))))
theorem mw_1191 : Cond.laysFinal R_Mo R_Mo "high" "[J" ∈ zz_W := List.mem_append_right _ (List.mem_append_right _ (List.mem_append_right _ (List.mem_append_right _ (List.mem_append_right _ (List.mem_append_right _ (List.mem_append_right _ (List.mem_append_right _ (List.mem_append_right _ (List.mem_append_right _ (List.mem_append_left _ (List.mem_of_getElem? (i := 35) rfl)))))))))))
theorem mw_1193 : Cond.laysFinal R_Mo R_Mo "stack" "[I" ∈ zz_W := List.mem_append_right _ (List.mem_append_right _ (List.mem_append_right _ (List.mem_append_right _ (List.mem_append_right _ (List.mem_append_right _ (List.mem_append_right _ (List.mem_append_right _ (List.mem_append_right _ (List.mem_append_right _ (List.mem_append_left _ (List.mem_of_getElem? (i := 36) rfl)))))))))))
theorem mw_1195 : Cond.laysFinal R_Mo R_Mo "length" "[I" ∈ zz_W := List.mem_append_right _ (List.mem_append_right _ (List.mem_append_right _ (List.mem_append_right _ (List.mem_append_right _ (List.mem_append_right _ (List.mem_append_right _ (List.mem_append_right _ (List.mem_append_right _ (List.mem_append_right _ (List.mem_append_left _ (List.mem_of_getElem? (i := 37) rfl)))))))))))
theorem mw_1197 : Cond.laysFinal R_Mo R_Mo "goesTo" "[I" ∈ zz_W := List.mem_append_right _ (List.mem_append_right _ (List.mem_append_right _ (List.mem_append_right _ (List.mem_append_right _ (List.mem_append_right _ (List.mem_append_right _ (List.mem_append_right _ (List.mem_append_right _ (List.mem_append_right _ (List.mem_append_left _ (List.mem_of_getElem? (i := 38) rfl)))))))))))
theorem mw_1199 : Cond.lays R_Mo R_Mo "sides" "I" ∈ zz_W := List.mem_append_right _ (List.mem_append_right _ (List.mem_append_right _ (List.mem_append_right _ (List.mem_append_right _ (List.mem_append_right _ (List.mem_append_right _ (List.mem_append_right _ (List.mem_append_right _ (List.mem_append_right _ (List.mem_append_left _ (List.mem_of_getElem? (i := 39) rfl)))))))))))
theorem mw_1201 : Cond.lays R_Mo R_Mo "tags" "I" ∈ zz_W := List.mem_append_right _ (List.mem_append_right _ (List.mem_append_right _ (List.mem_append_right _ (List.mem_append_right _ (List.mem_append_right _ (List.mem_append_right _ (List.mem_append_right _ (List.mem_append_right _ (List.mem_append_right _ (List.mem_append_left _ (List.mem_of_getElem? (i := 40) rfl)))))))))))
theorem mw_1203 : Cond.laysFinal R_Mo R_Mo "times" "[I" ∈ zz_W := List.mem_append_right _ (List.mem_append_right _ (List.mem_append_right _ (List.mem_append_right _ (List.mem_append_right _ (List.mem_append_right _ (List.mem_append_right _ (List.mem_append_right _ (List.mem_append_right _ (List.mem_append_right _ (List.mem_append_left _ (List.mem_of_getElem? (i := 41) rfl)))))))))))
theorem mw_1205 : Cond.laysFinal R_Mo R_Mo "seen" "[I" ∈ zz_W := List.mem_append_right _ (List.mem_append_right _ (List.mem_append_right _ (List.mem_append_right _ (List.mem_append_right _ (List.mem_append_right _ (List.mem_append_right _ (List.mem_append_right _ (List.mem_append_right _ (List.mem_append_right _ (List.mem_append_left _ (List.mem_of_getElem? (i := 42) rfl)))))))))))
theorem mw_1207 : Cond.laysFinal R_Mo R_Mo "leastLow" "[J" ∈ zz_W := List.mem_append_right _ (List.mem_append_right _ (List.mem_append_right _ (List.mem_append_right _ (List.mem_append_right _ (List.mem_append_right _ (List.mem_append_right _ (List.mem_append_right _ (List.mem_append_right _ (List.mem_append_right _ (List.mem_append_left _ (List.mem_of_getElem? (i := 43) rfl)))))))))))
theorem mw_1209 : Cond.laysFinal R_Mo R_Mo "mostHigh" "[J" ∈ zz_W := List.mem_append_right _ (List.mem_append_right _ (List.mem_append_right _ (List.mem_append_right _ (List.mem_append_right _ (List.mem_append_right _ (List.mem_append_right _ (List.mem_append_right _ (List.mem_append_right _ (List.mem_append_right _ (List.mem_append_left _ (List.mem_of_getElem? (i := 44) rfl)))))))))))
theorem mw_1211 : Cond.lays R_Mo R_Mo "a" "J" ∈ zz_W := List.mem_append_right _ (List.mem_append_right _ (List.mem_append_right _ (List.mem_append_right _ (List.mem_append_right _ (List.mem_append_right _ (List.mem_append_right _ (List.mem_append_right _ (List.mem_append_right _ (List.mem_append_right _ (List.mem_append_left _ (List.mem_of_getElem? (i := 45) rfl)))))))))))
theorem mw_1213 : Cond.lays R_Mo R_Mo "b" "J" ∈ zz_W := List.mem_append_right _ (List.mem_append_right _ (List.mem_append_right _ (List.mem_append_right _ (List.mem_append_right _ (List.mem_append_right _ (List.mem_append_right _ (List.mem_append_right _ (List.mem_append_right _ (List.mem_append_right _ (List.mem_append_left _ (List.mem_of_getElem? (i := 46) rfl)))))))))))
theorem mw_1215 : Cond.lays R_Mo R_Mo "fits" "Z" ∈ zz_W := List.mem_append_right _ (List.mem_append_right _ (List.mem_append_right _ (List.mem_append_right _ (List.mem_append_right _ (List.mem_append_right _ (List.mem_append_right _ (List.mem_append_right _ (List.mem_append_right _ (List.mem_append_right _ (List.mem_append_left _ (List.mem_of_getElem? (i := 47) rfl)))))))))))
theorem mw_1217 : Cond.lays R_Mo R_Mo "xl" "J" ∈ zz_W := List.mem_append_right _ (List.mem_append_right _ (List.mem_append_right _ (List.mem_append_right _ (List.mem_append_right _ (List.mem_append_right _ (List.mem_append_right _ (List.mem_append_right _ (List.mem_append_right _ (List.mem_append_right _ (List.mem_append_left _ (List.mem_of_getElem? (i := 48) rfl)))))))))))
theorem mw_1219 : Cond.lays R_Mo R_Mo "xh" "J" ∈ zz_W := List.mem_append_right _ (List.mem_append_right _ (List.mem_append_right _ (List.mem_append_right _ (List.mem_append_right _ (List.mem_append_right _ (List.mem_append_right _ (List.mem_append_right _ (List.mem_append_right _ (List.mem_append_right _ (List.mem_append_left _ (List.mem_of_getElem? (i := 49) rfl)))))))))))
theorem mw_1221 : Cond.lays R_Mo R_Mo "yl" "J" ∈ zz_W := List.mem_append_right _ (List.mem_append_right _ (List.mem_append_right _ (List.mem_append_right _ (List.mem_append_right _ (List.mem_append_right _ (List.mem_append_right _ (List.mem_append_right _ (List.mem_append_right _ (List.mem_append_right _ (List.mem_append_right _ (List.mem_append_left _ (List.mem_of_getElem? (i := 0) rfl))))))))))))
theorem mw_1223 : Cond.lays R_Mo R_Mo "yh" "J" ∈ zz_W := List.mem_append_right _ (List.mem_append_right _ (List.mem_append_right _ (List.mem_append_right _ (List.mem_append_right _ (List.mem_append_right _ (List.mem_append_right _ (List.mem_append_right _ (List.mem_append_right _ (List.mem_append_right _ (List.mem_append_right _ (List.mem_append_left _ (List.mem_of_getElem? (i := 1) rfl))))))))))))
theorem mw_1225 : Cond.lays R_Mo R_Mo "next" "Z" ∈ zz_W := List.mem_append_right _ (List.mem_append_right _ (List.mem_append_right _ (List.mem_append_right _ (List.mem_append_right _ (List.mem_append_right _ (List.mem_append_right _ (List.mem_append_right _ (List.mem_append_right _ (List.mem_append_right _ (List.mem_append_right _ (List.mem_append_left _ (List.mem_of_getElem? (i := 2) rfl))))))))))))
theorem mw_1227 : Cond.lays R_Mo R_Mo "other" "Z" ∈ zz_W := List.mem_append_right _ (List.mem_append_right _ (List.mem_append_right _ (List.mem_append_right _ (List.mem_append_right _ (List.mem_append_right _ (List.mem_append_right _ (List.mem_append_right _ (List.mem_append_right _ (List.mem_append_right _ (List.mem_append_right _ (List.mem_append_left _ (List.mem_of_getElem? (i := 3) rfl))))))))))))
theorem mw_1229 : Cond.lays R_Mo R_Mo "waits" "I" ∈ zz_W := List.mem_append_right _ (List.mem_append_right _ (List.mem_append_right _ (List.mem_append_right _ (List.mem_append_right _ (List.mem_append_right _ (List.mem_append_right _ (List.mem_append_right _ (List.mem_append_right _ (List.mem_append_right _ (List.mem_append_right _ (List.mem_append_left _ (List.mem_of_getElem? (i := 4) rfl))))))))))))
theorem mw_1231 : Cond.lays R_Mo R_Mo "to" "I" ∈ zz_W := List.mem_append_right _ (List.mem_append_right _ (List.mem_append_right _ (List.mem_append_right _ (List.mem_append_right _ (List.mem_append_right _ (List.mem_append_right _ (List.mem_append_right _ (List.mem_append_right _ (List.mem_append_right _ (List.mem_append_right _ (List.mem_append_left _ (List.mem_of_getElem? (i := 5) rfl))))))))))))
theorem mw_1233 : Cond.laysFinal R_Mo R_Mo "packet" "[B" ∈ zz_W := List.mem_append_right _ (List.mem_append_right _ (List.mem_append_right _ (List.mem_append_right _ (List.mem_append_right _ (List.mem_append_right _ (List.mem_append_right _ (List.mem_append_right _ (List.mem_append_right _ (List.mem_append_right _ (List.mem_append_right _ (List.mem_append_left _ (List.mem_of_getElem? (i := 6) rfl))))))))))))
theorem mw_1235 : Cond.lays R_Mo R_Mo "packetEnd" "I" ∈ zz_W := List.mem_append_right _ (List.mem_append_right _ (List.mem_append_right _ (List.mem_append_right _ (List.mem_append_right _ (List.mem_append_right _ (List.mem_append_right _ (List.mem_append_right _ (List.mem_append_right _ (List.mem_append_right _ (List.mem_append_right _ (List.mem_append_left _ (List.mem_of_getElem? (i := 7) rfl))))))))))))
theorem mw_1237 : Cond.laysFinal R_Mo R_Mo "data" "[B" ∈ zz_W := List.mem_append_right _ (List.mem_append_right _ (List.mem_append_right _ (List.mem_append_right _ (List.mem_append_right _ (List.mem_append_right _ (List.mem_append_right _ (List.mem_append_right _ (List.mem_append_right _ (List.mem_append_right _ (List.mem_append_right _ (List.mem_append_left _ (List.mem_of_getElem? (i := 8) rfl))))))))))))
theorem mw_1239 : Cond.laysFinal R_Mo R_Mo "full" "[Z" ∈ zz_W := List.mem_append_right _ (List.mem_append_right _ (List.mem_append_right _ (List.mem_append_right _ (List.mem_append_right _ (List.mem_append_right _ (List.mem_append_right _ (List.mem_append_right _ (List.mem_append_right _ (List.mem_append_right _ (List.mem_append_right _ (List.mem_append_left _ (List.mem_of_getElem? (i := 9) rfl))))))))))))
theorem mw_1241 : Cond.lays R_Mo R_Mo "seed" "J" ∈ zz_W := List.mem_append_right _ (List.mem_append_right _ (List.mem_append_right _ (List.mem_append_right _ (List.mem_append_right _ (List.mem_append_right _ (List.mem_append_right _ (List.mem_append_right _ (List.mem_append_right _ (List.mem_append_right _ (List.mem_append_right _ (List.mem_append_left _ (List.mem_of_getElem? (i := 10) rfl))))))))))))
theorem mw_1243 : Cond.laysFinal R_Mo R_Mo "log" "[J" ∈ zz_W := List.mem_append_right _ (List.mem_append_right _ (List.mem_append_right _ (List.mem_append_right _ (List.mem_append_right _ (List.mem_append_right _ (List.mem_append_right _ (List.mem_append_right _ (List.mem_append_right _ (List.mem_append_right _ (List.mem_append_right _ (List.mem_append_left _ (List.mem_of_getElem? (i := 11) rfl))))))))))))
theorem mw_1245 : Cond.lays R_Mo R_Mo "logged" "I" ∈ zz_W := List.mem_append_right _ (List.mem_append_right _ (List.mem_append_right _ (List.mem_append_right _ (List.mem_append_right _ (List.mem_append_right _ (List.mem_append_right _ (List.mem_append_right _ (List.mem_append_right _ (List.mem_append_right _ (List.mem_append_right _ (List.mem_append_left _ (List.mem_of_getElem? (i := 12) rfl))))))))))))
theorem mw_1247 : Cond.lays R_Mo R_Mo "done" "I" ∈ zz_W := List.mem_append_right _ (List.mem_append_right _ (List.mem_append_right _ (List.mem_append_right _ (List.mem_append_right _ (List.mem_append_right _ (List.mem_append_right _ (List.mem_append_right _ (List.mem_append_right _ (List.mem_append_right _ (List.mem_append_right _ (List.mem_append_left _ (List.mem_of_getElem? (i := 13) rfl))))))))))))
theorem mw_1249 : Cond.lays R_Mo R_Mo "wrong" "I" ∈ zz_W := List.mem_append_right _ (List.mem_append_right _ (List.mem_append_right _ (List.mem_append_right _ (List.mem_append_right _ (List.mem_append_right _ (List.mem_append_right _ (List.mem_append_right _ (List.mem_append_right _ (List.mem_append_right _ (List.mem_append_right _ (List.mem_append_left _ (List.mem_of_getElem? (i := 14) rfl))))))))))))
theorem mw_1251 : Cond.laysFinal R_Mo R_Mo "is" "[I" ∈ zz_W := List.mem_append_right _ (List.mem_append_right _ (List.mem_append_right _ (List.mem_append_right _ (List.mem_append_right _ (List.mem_append_right _ (List.mem_append_right _ (List.mem_append_right _ (List.mem_append_right _ (List.mem_append_right _ (List.mem_append_right _ (List.mem_append_left _ (List.mem_of_getElem? (i := 15) rfl))))))))))))
theorem mw_1253 : Cond.laysFinal R_Mo R_Mo "ofMap" "[I" ∈ zz_W := List.mem_append_right _ (List.mem_append_right _ (List.mem_append_right _ (List.mem_append_right _ (List.mem_append_right _ (List.mem_append_right _ (List.mem_append_right _ (List.mem_append_right _ (List.mem_append_right _ (List.mem_append_right _ (List.mem_append_right _ (List.mem_append_left _ (List.mem_of_getElem? (i := 16) rfl))))))))))))
theorem mw_1255 : Cond.laysFinal R_Mo R_Mo "ofPlace" "[I" ∈ zz_W := List.mem_append_right _ (List.mem_append_right _ (List.mem_append_right _ (List.mem_append_right _ (List.mem_append_right _ (List.mem_append_right _ (List.mem_append_right _ (List.mem_append_right _ (List.mem_append_right _ (List.mem_append_right _ (List.mem_append_right _ (List.mem_append_left _ (List.mem_of_getElem? (i := 17) rfl))))))))))))
theorem mw_1257 : Cond.laysFinal R_Mo R_Mo "ofTag" "[I" ∈ zz_W := List.mem_append_right _ (List.mem_append_right _ (List.mem_append_right _ (List.mem_append_right _ (List.mem_append_right _ (List.mem_append_right _ (List.mem_append_right _ (List.mem_append_right _ (List.mem_append_right _ (List.mem_append_right _ (List.mem_append_right _ (List.mem_append_left _ (List.mem_of_getElem? (i := 18) rfl))))))))))))
theorem mw_1259 : Cond.laysFinal R_Mo R_Mo "is64" "[J" ∈ zz_W := List.mem_append_right _ (List.mem_append_right _ (List.mem_append_right _ (List.mem_append_right _ (List.mem_append_right _ (List.mem_append_right _ (List.mem_append_right _ (List.mem_append_right _ (List.mem_append_right _ (List.mem_append_right _ (List.mem_append_right _ (List.mem_append_left _ (List.mem_of_getElem? (i := 19) rfl))))))))))))
theorem mw_1261 : Cond.laysFinal R_Mo R_Mo "own" "[B" ∈ zz_W := List.mem_append_right _ (List.mem_append_right _ (List.mem_append_right _ (List.mem_append_right _ (List.mem_append_right _ (List.mem_append_right _ (List.mem_append_right _ (List.mem_append_right _ (List.mem_append_right _ (List.mem_append_right _ (List.mem_append_right _ (List.mem_append_left _ (List.mem_of_getElem? (i := 20) rfl))))))))))))
theorem mw_1263 : Cond.lays R_Mo R_Mo "runTags" "I" ∈ zz_W := List.mem_append_right _ (List.mem_append_right _ (List.mem_append_right _ (List.mem_append_right _ (List.mem_append_right _ (List.mem_append_right _ (List.mem_append_right _ (List.mem_append_right _ (List.mem_append_right _ (List.mem_append_right _ (List.mem_append_right _ (List.mem_append_left _ (List.mem_of_getElem? (i := 21) rfl))))))))))))
theorem mw_1266 : Cond.methodLink R_La 64 y_Mo_thrown ∈ zz_W := List.mem_append_right _ (List.mem_append_right _ (List.mem_append_right _ (List.mem_append_right _ (List.mem_append_right _ (List.mem_append_right _ (List.mem_append_right _ (List.mem_append_right _ (List.mem_append_right _ (List.mem_append_right _ (List.mem_append_right _ (List.mem_append_left _ (List.mem_of_getElem? (i := 22) rfl))))))))))))
theorem mw_1267 : Cond.instanceMethod y_Mo_thrown ∈ zz_W := List.mem_append_right _ (List.mem_append_right _ (List.mem_append_right _ (List.mem_append_right _ (List.mem_append_right _ (List.mem_append_right _ (List.mem_append_right _ (List.mem_append_right _ (List.mem_append_right _ (List.mem_append_right _ (List.mem_append_right _ (List.mem_append_left _ (List.mem_of_getElem? (i := 23) rfl))))))))))))
theorem mw_1268 : Cond.selects R_Mo y_Mo_thrown y_Mo_thrown ∈ zz_W := List.mem_append_right _ (List.mem_append_right _ (List.mem_append_right _ (List.mem_append_right _ (List.mem_append_right _ (List.mem_append_right _ (List.mem_append_right _ (List.mem_append_right _ (List.mem_append_right _ (List.mem_append_right _ (List.mem_append_right _ (List.mem_append_left _ (List.mem_of_getElem? (i := 24) rfl))))))))))))
theorem mw_1269 : Cond.code y_Mo_thrown prog_14_method_2_code 1 (some .int) ∈ zz_W := List.mem_append_right _ (List.mem_append_right _ (List.mem_append_right _ (List.mem_append_right _ (List.mem_append_right _ (List.mem_append_right _ (List.mem_append_right _ (List.mem_append_right _ (List.mem_append_right _ (List.mem_append_right _ (List.mem_append_right _ (List.mem_append_left _ (List.mem_of_getElem? (i := 25) rfl))))))))))))
theorem mw_1270 : Cond.methodLink R_La 63 y_Mo_map ∈ zz_W := List.mem_append_right _ (List.mem_append_right _ (List.mem_append_right _ (List.mem_append_right _ (List.mem_append_right _ (List.mem_append_right _ (List.mem_append_right _ (List.mem_append_right _ (List.mem_append_right _ (List.mem_append_right _ (List.mem_append_right _ (List.mem_append_left _ (List.mem_of_getElem? (i := 26) rfl))))))))))))
theorem mw_1271 : Cond.instanceMethod y_Mo_map ∈ zz_W := List.mem_append_right _ (List.mem_append_right _ (List.mem_append_right _ (List.mem_append_right _ (List.mem_append_right _ (List.mem_append_right _ (List.mem_append_right _ (List.mem_append_right _ (List.mem_append_right _ (List.mem_append_right _ (List.mem_append_right _ (List.mem_append_left _ (List.mem_of_getElem? (i := 27) rfl))))))))))))
theorem mw_1272 : Cond.selects R_Mo y_Mo_map y_Mo_map ∈ zz_W := List.mem_append_right _ (List.mem_append_right _ (List.mem_append_right _ (List.mem_append_right _ (List.mem_append_right _ (List.mem_append_right _ (List.mem_append_right _ (List.mem_append_right _ (List.mem_append_right _ (List.mem_append_right _ (List.mem_append_right _ (List.mem_append_left _ (List.mem_of_getElem? (i := 28) rfl))))))))))))
theorem mw_1273 : Cond.code y_Mo_map prog_14_method_4_code 4 (some .int) ∈ zz_W := List.mem_append_right _ (List.mem_append_right _ (List.mem_append_right _ (List.mem_append_right _ (List.mem_append_right _ (List.mem_append_right _ (List.mem_append_right _ (List.mem_append_right _ (List.mem_append_right _ (List.mem_append_right _ (List.mem_append_right _ (List.mem_append_left _ (List.mem_of_getElem? (i := 29) rfl))))))))))))
theorem mw_1274 : Cond.methodLink R_Mo 112 y_Mo_no ∈ zz_W := List.mem_append_right _ (List.mem_append_right _ (List.mem_append_right _ (List.mem_append_right _ (List.mem_append_right _ (List.mem_append_right _ (List.mem_append_right _ (List.mem_append_right _ (List.mem_append_right _ (List.mem_append_right _ (List.mem_append_right _ (List.mem_append_left _ (List.mem_of_getElem? (i := 30) rfl))))))))))))
theorem mw_1276 : Cond.instanceMethod y_Mo_no ∈ zz_W := List.mem_append_right _ (List.mem_append_right _ (List.mem_append_right _ (List.mem_append_right _ (List.mem_append_right _ (List.mem_append_right _ (List.mem_append_right _ (List.mem_append_right _ (List.mem_append_right _ (List.mem_append_right _ (List.mem_append_right _ (List.mem_append_left _ (List.mem_of_getElem? (i := 31) rfl))))))))))))
theorem mw_1277 : Cond.code y_Mo_no prog_14_method_3_code 2 (some .int) ∈ zz_W := List.mem_append_right _ (List.mem_append_right _ (List.mem_append_right _ (List.mem_append_right _ (List.mem_append_right _ (List.mem_append_right _ (List.mem_append_right _ (List.mem_append_right _ (List.mem_append_right _ (List.mem_append_right _ (List.mem_append_right _ (List.mem_append_left _ (List.mem_of_getElem? (i := 32) rfl))))))))))))
theorem mw_1278 : Cond.methodLink R_La 70 y_Mo_add ∈ zz_W := List.mem_append_right _ (List.mem_append_right _ (List.mem_append_right _ (List.mem_append_right _ (List.mem_append_right _ (List.mem_append_right _ (List.mem_append_right _ (List.mem_append_right _ (List.mem_append_right _ (List.mem_append_right _ (List.mem_append_right _ (List.mem_append_left _ (List.mem_of_getElem? (i := 33) rfl))))))))))))
theorem mw_1279 : Cond.instanceMethod y_Mo_add ∈ zz_W := List.mem_append_right _ (List.mem_append_right _ (List.mem_append_right _ (List.mem_append_right _ (List.mem_append_right _ (List.mem_append_right _ (List.mem_append_right _ (List.mem_append_right _ (List.mem_append_right _ (List.mem_append_right _ (List.mem_append_right _ (List.mem_append_left _ (List.mem_of_getElem? (i := 34) rfl))))))))))))
theorem mw_1280 : Cond.selects R_Mo y_Mo_add y_Mo_add ∈ zz_W := List.mem_append_right _ (List.mem_append_right _ (List.mem_append_right _ (List.mem_append_right _ (List.mem_append_right _ (List.mem_append_right _ (List.mem_append_right _ (List.mem_append_right _ (List.mem_append_right _ (List.mem_append_right _ (List.mem_append_right _ (List.mem_append_left _ (List.mem_of_getElem? (i := 35) rfl))))))))))))
theorem mw_1281 : Cond.code y_Mo_add prog_14_method_5_code 6 (some .int) ∈ zz_W := List.mem_append_right _ (List.mem_append_right _ (List.mem_append_right _ (List.mem_append_right _ (List.mem_append_right _ (List.mem_append_right _ (List.mem_append_right _ (List.mem_append_right _ (List.mem_append_right _ (List.mem_append_right _ (List.mem_append_right _ (List.mem_append_left _ (List.mem_of_getElem? (i := 36) rfl))))))))))))
theorem mw_1282 : Cond.methodLink R_La 74 y_Mo_check ∈ zz_W := List.mem_append_right _ (List.mem_append_right _ (List.mem_append_right _ (List.mem_append_right _ (List.mem_append_right _ (List.mem_append_right _ (List.mem_append_right _ (List.mem_append_right _ (List.mem_append_right _ (List.mem_append_right _ (List.mem_append_right _ (List.mem_append_left _ (List.mem_of_getElem? (i := 37) rfl))))))))))))
theorem mw_1283 : Cond.instanceMethod y_Mo_check ∈ zz_W := List.mem_append_right _ (List.mem_append_right _ (List.mem_append_right _ (List.mem_append_right _ (List.mem_append_right _ (List.mem_append_right _ (List.mem_append_right _ (List.mem_append_right _ (List.mem_append_right _ (List.mem_append_right _ (List.mem_append_right _ (List.mem_append_left _ (List.mem_of_getElem? (i := 38) rfl))))))))))))
theorem mw_1284 : Cond.selects R_Mo y_Mo_check y_Mo_check ∈ zz_W := List.mem_append_right _ (List.mem_append_right _ (List.mem_append_right _ (List.mem_append_right _ (List.mem_append_right _ (List.mem_append_right _ (List.mem_append_right _ (List.mem_append_right _ (List.mem_append_right _ (List.mem_append_right _ (List.mem_append_right _ (List.mem_append_left _ (List.mem_of_getElem? (i := 39) rfl))))))))))))
theorem mw_1285 : Cond.code y_Mo_check prog_14_method_48_code 3 (some .int) ∈ zz_W := List.mem_append_right _ (List.mem_append_right _ (List.mem_append_right _ (List.mem_append_right _ (List.mem_append_right _ (List.mem_append_right _ (List.mem_append_right _ (List.mem_append_right _ (List.mem_append_right _ (List.mem_append_right _ (List.mem_append_right _ (List.mem_append_left _ (List.mem_of_getElem? (i := 40) rfl))))))))))))
theorem mw_1519 : Cond.methodLink R_La 95 y_Mo_run ∈ zz_W := List.mem_append_right _ (List.mem_append_right _ (List.mem_append_right _ (List.mem_append_right _ (List.mem_append_right _ (List.mem_append_right _ (List.mem_append_right _ (List.mem_append_right _ (List.mem_append_right _ (List.mem_append_right _ (List.mem_append_right _ (List.mem_append_left _ (List.mem_of_getElem? (i := 41) rfl))))))))))))
theorem mw_1520 : Cond.instanceMethod y_Mo_run ∈ zz_W := List.mem_append_right _ (List.mem_append_right _ (List.mem_append_right _ (List.mem_append_right _ (List.mem_append_right _ (List.mem_append_right _ (List.mem_append_right _ (List.mem_append_right _ (List.mem_append_right _ (List.mem_append_right _ (List.mem_append_right _ (List.mem_append_left _ (List.mem_of_getElem? (i := 42) rfl))))))))))))
theorem mw_1521 : Cond.selects R_Mo y_Mo_run y_Mo_run ∈ zz_W := List.mem_append_right _ (List.mem_append_right _ (List.mem_append_right _ (List.mem_append_right _ (List.mem_append_right _ (List.mem_append_right _ (List.mem_append_right _ (List.mem_append_right _ (List.mem_append_right _ (List.mem_append_right _ (List.mem_append_right _ (List.mem_append_left _ (List.mem_of_getElem? (i := 43) rfl))))))))))))
theorem mw_1522 : Cond.code y_Mo_run prog_14_method_68_code 4 (some .long) ∈ zz_W := List.mem_append_right _ (List.mem_append_right _ (List.mem_append_right _ (List.mem_append_right _ (List.mem_append_right _ (List.mem_append_right _ (List.mem_append_right _ (List.mem_append_right _ (List.mem_append_right _ (List.mem_append_right _ (List.mem_append_right _ (List.mem_append_left _ (List.mem_of_getElem? (i := 44) rfl))))))))))))
theorem mw_1590 : Cond.methodLink R_La 78 y_Mo_clear ∈ zz_W := List.mem_append_right _ (List.mem_append_right _ (List.mem_append_right _ (List.mem_append_right _ (List.mem_append_right _ (List.mem_append_right _ (List.mem_append_right _ (List.mem_append_right _ (List.mem_append_right _ (List.mem_append_right _ (List.mem_append_right _ (List.mem_append_left _ (List.mem_of_getElem? (i := 45) rfl))))))))))))
theorem mw_1591 : Cond.instanceMethod y_Mo_clear ∈ zz_W := List.mem_append_right _ (List.mem_append_right _ (List.mem_append_right _ (List.mem_append_right _ (List.mem_append_right _ (List.mem_append_right _ (List.mem_append_right _ (List.mem_append_right _ (List.mem_append_right _ (List.mem_append_right _ (List.mem_append_right _ (List.mem_append_left _ (List.mem_of_getElem? (i := 46) rfl))))))))))))
theorem mw_1592 : Cond.selects R_Mo y_Mo_clear y_Mo_clear ∈ zz_W := List.mem_append_right _ (List.mem_append_right _ (List.mem_append_right _ (List.mem_append_right _ (List.mem_append_right _ (List.mem_append_right _ (List.mem_append_right _ (List.mem_append_right _ (List.mem_append_right _ (List.mem_append_right _ (List.mem_append_right _ (List.mem_append_left _ (List.mem_of_getElem? (i := 47) rfl))))))))))))
theorem mw_1593 : Cond.code y_Mo_clear prog_14_method_69_code 2 none ∈ zz_W := List.mem_append_right _ (List.mem_append_right _ (List.mem_append_right _ (List.mem_append_right _ (List.mem_append_right _ (List.mem_append_right _ (List.mem_append_right _ (List.mem_append_right _ (List.mem_append_right _ (List.mem_append_right _ (List.mem_append_right _ (List.mem_append_left _ (List.mem_of_getElem? (i := 48) rfl))))))))))))
theorem mw_1594 : Cond.methodLink R_La 81 y_Mo_feed ∈ zz_W := List.mem_append_right _ (List.mem_append_right _ (List.mem_append_right _ (List.mem_append_right _ (List.mem_append_right _ (List.mem_append_right _ (List.mem_append_right _ (List.mem_append_right _ (List.mem_append_right _ (List.mem_append_right _ (List.mem_append_right _ (List.mem_append_left _ (List.mem_of_getElem? (i := 49) rfl))))))))))))
theorem mw_1595 : Cond.instanceMethod y_Mo_feed ∈ zz_W := List.mem_append_right _ (List.mem_append_right _ (List.mem_append_right _ (List.mem_append_right _ (List.mem_append_right _ (List.mem_append_right _ (List.mem_append_right _ (List.mem_append_right _ (List.mem_append_right _ (List.mem_append_right _ (List.mem_append_right _ (List.mem_append_right _ (List.mem_of_getElem? (i := 0) rfl))))))))))))
theorem mw_1596 : Cond.selects R_Mo y_Mo_feed y_Mo_feed ∈ zz_W := List.mem_append_right _ (List.mem_append_right _ (List.mem_append_right _ (List.mem_append_right _ (List.mem_append_right _ (List.mem_append_right _ (List.mem_append_right _ (List.mem_append_right _ (List.mem_append_right _ (List.mem_append_right _ (List.mem_append_right _ (List.mem_append_right _ (List.mem_of_getElem? (i := 1) rfl))))))))))))
theorem mw_1597 : Cond.code y_Mo_feed prog_14_method_70_code 8 (some .int) ∈ zz_W := List.mem_append_right _ (List.mem_append_right _ (List.mem_append_right _ (List.mem_append_right _ (List.mem_append_right _ (List.mem_append_right _ (List.mem_append_right _ (List.mem_append_right _ (List.mem_append_right _ (List.mem_append_right _ (List.mem_append_right _ (List.mem_append_right _ (List.mem_of_getElem? (i := 2) rfl))))))))))))
theorem mw_1598 : Cond.methodLink R_La 85 y_Mo_end ∈ zz_W := List.mem_append_right _ (List.mem_append_right _ (List.mem_append_right _ (List.mem_append_right _ (List.mem_append_right _ (List.mem_append_right _ (List.mem_append_right _ (List.mem_append_right _ (List.mem_append_right _ (List.mem_append_right _ (List.mem_append_right _ (List.mem_append_right _ (List.mem_of_getElem? (i := 3) rfl))))))))))))
theorem mw_1599 : Cond.instanceMethod y_Mo_end ∈ zz_W := List.mem_append_right _ (List.mem_append_right _ (List.mem_append_right _ (List.mem_append_right _ (List.mem_append_right _ (List.mem_append_right _ (List.mem_append_right _ (List.mem_append_right _ (List.mem_append_right _ (List.mem_append_right _ (List.mem_append_right _ (List.mem_append_right _ (List.mem_of_getElem? (i := 4) rfl))))))))))))
theorem mw_1600 : Cond.selects R_Mo y_Mo_end y_Mo_end ∈ zz_W := List.mem_append_right _ (List.mem_append_right _ (List.mem_append_right _ (List.mem_append_right _ (List.mem_append_right _ (List.mem_append_right _ (List.mem_append_right _ (List.mem_append_right _ (List.mem_append_right _ (List.mem_append_right _ (List.mem_append_right _ (List.mem_append_right _ (List.mem_of_getElem? (i := 5) rfl))))))))))))
theorem mw_1601 : Cond.code y_Mo_end prog_14_method_71_code 2 (some .int) ∈ zz_W := List.mem_append_right _ (List.mem_append_right _ (List.mem_append_right _ (List.mem_append_right _ (List.mem_append_right _ (List.mem_append_right _ (List.mem_append_right _ (List.mem_append_right _ (List.mem_append_right _ (List.mem_append_right _ (List.mem_append_right _ (List.mem_append_right _ (List.mem_of_getElem? (i := 6) rfl))))))))))))
theorem mw_1602 : Cond.methodLink R_La 92 y_Mo_seed ∈ zz_W := List.mem_append_right _ (List.mem_append_right _ (List.mem_append_right _ (List.mem_append_right _ (List.mem_append_right _ (List.mem_append_right _ (List.mem_append_right _ (List.mem_append_right _ (List.mem_append_right _ (List.mem_append_right _ (List.mem_append_right _ (List.mem_append_right _ (List.mem_of_getElem? (i := 7) rfl))))))))))))
theorem mw_1603 : Cond.instanceMethod y_Mo_seed ∈ zz_W := List.mem_append_right _ (List.mem_append_right _ (List.mem_append_right _ (List.mem_append_right _ (List.mem_append_right _ (List.mem_append_right _ (List.mem_append_right _ (List.mem_append_right _ (List.mem_append_right _ (List.mem_append_right _ (List.mem_append_right _ (List.mem_append_right _ (List.mem_of_getElem? (i := 8) rfl))))))))))))
theorem mw_1604 : Cond.selects R_Mo y_Mo_seed y_Mo_seed ∈ zz_W := List.mem_append_right _ (List.mem_append_right _ (List.mem_append_right _ (List.mem_append_right _ (List.mem_append_right _ (List.mem_append_right _ (List.mem_append_right _ (List.mem_append_right _ (List.mem_append_right _ (List.mem_append_right _ (List.mem_append_right _ (List.mem_append_right _ (List.mem_of_getElem? (i := 9) rfl))))))))))))
theorem mw_1605 : Cond.code y_Mo_seed prog_14_method_72_code 3 none ∈ zz_W := List.mem_append_right _ (List.mem_append_right _ (List.mem_append_right _ (List.mem_append_right _ (List.mem_append_right _ (List.mem_append_right _ (List.mem_append_right _ (List.mem_append_right _ (List.mem_append_right _ (List.mem_append_right _ (List.mem_append_right _ (List.mem_append_right _ (List.mem_of_getElem? (i := 10) rfl))))))))))))
theorem mw_1606 : Cond.methodLink R_La 98 y_Mo_letter ∈ zz_W := List.mem_append_right _ (List.mem_append_right _ (List.mem_append_right _ (List.mem_append_right _ (List.mem_append_right _ (List.mem_append_right _ (List.mem_append_right _ (List.mem_append_right _ (List.mem_append_right _ (List.mem_append_right _ (List.mem_append_right _ (List.mem_append_right _ (List.mem_of_getElem? (i := 11) rfl))))))))))))
theorem mw_1607 : Cond.instanceMethod y_Mo_letter ∈ zz_W := List.mem_append_right _ (List.mem_append_right _ (List.mem_append_right _ (List.mem_append_right _ (List.mem_append_right _ (List.mem_append_right _ (List.mem_append_right _ (List.mem_append_right _ (List.mem_append_right _ (List.mem_append_right _ (List.mem_append_right _ (List.mem_append_right _ (List.mem_of_getElem? (i := 12) rfl))))))))))))
theorem mw_1608 : Cond.selects R_Mo y_Mo_letter y_Mo_letter ∈ zz_W := List.mem_append_right _ (List.mem_append_right _ (List.mem_append_right _ (List.mem_append_right _ (List.mem_append_right _ (List.mem_append_right _ (List.mem_append_right _ (List.mem_append_right _ (List.mem_append_right _ (List.mem_append_right _ (List.mem_append_right _ (List.mem_append_right _ (List.mem_of_getElem? (i := 13) rfl))))))))))))
theorem mw_1609 : Cond.code y_Mo_letter prog_14_method_73_code 2 (some .int) ∈ zz_W := List.mem_append_right _ (List.mem_append_right _ (List.mem_append_right _ (List.mem_append_right _ (List.mem_append_right _ (List.mem_append_right _ (List.mem_append_right _ (List.mem_append_right _ (List.mem_append_right _ (List.mem_append_right _ (List.mem_append_right _ (List.mem_append_right _ (List.mem_of_getElem? (i := 14) rfl))))))))))))
theorem mw_1610 : Cond.methodLink R_La 101 y_Mo_place ∈ zz_W := List.mem_append_right _ (List.mem_append_right _ (List.mem_append_right _ (List.mem_append_right _ (List.mem_append_right _ (List.mem_append_right _ (List.mem_append_right _ (List.mem_append_right _ (List.mem_append_right _ (List.mem_append_right _ (List.mem_append_right _ (List.mem_append_right _ (List.mem_of_getElem? (i := 15) rfl))))))))))))
theorem mw_1611 : Cond.instanceMethod y_Mo_place ∈ zz_W := List.mem_append_right _ (List.mem_append_right _ (List.mem_append_right _ (List.mem_append_right _ (List.mem_append_right _ (List.mem_append_right _ (List.mem_append_right _ (List.mem_append_right _ (List.mem_append_right _ (List.mem_append_right _ (List.mem_append_right _ (List.mem_append_right _ (List.mem_of_getElem? (i := 16) rfl))))))))))))
theorem mw_1612 : Cond.selects R_Mo y_Mo_place y_Mo_place ∈ zz_W := List.mem_append_right _ (List.mem_append_right _ (List.mem_append_right _ (List.mem_append_right _ (List.mem_append_right _ (List.mem_append_right _ (List.mem_append_right _ (List.mem_append_right _ (List.mem_append_right _ (List.mem_append_right _ (List.mem_append_right _ (List.mem_append_right _ (List.mem_of_getElem? (i := 17) rfl))))))))))))
theorem mw_1613 : Cond.code y_Mo_place prog_14_method_74_code 4 (some .int) ∈ zz_W := List.mem_append_right _ (List.mem_append_right _ (List.mem_append_right _ (List.mem_append_right _ (List.mem_append_right _ (List.mem_append_right _ (List.mem_append_right _ (List.mem_append_right _ (List.mem_append_right _ (List.mem_append_right _ (List.mem_append_right _ (List.mem_append_right _ (List.mem_of_getElem? (i := 18) rfl))))))))))))
theorem mw_1614 : Cond.methodLink R_La 104 y_Mo_log ∈ zz_W := List.mem_append_right _ (List.mem_append_right _ (List.mem_append_right _ (List.mem_append_right _ (List.mem_append_right _ (List.mem_append_right _ (List.mem_append_right _ (List.mem_append_right _ (List.mem_append_right _ (List.mem_append_right _ (List.mem_append_right _ (List.mem_append_right _ (List.mem_of_getElem? (i := 19) rfl))))))))))))
theorem mw_1615 : Cond.instanceMethod y_Mo_log ∈ zz_W := List.mem_append_right _ (List.mem_append_right _ (List.mem_append_right _ (List.mem_append_right _ (List.mem_append_right _ (List.mem_append_right _ (List.mem_append_right _ (List.mem_append_right _ (List.mem_append_right _ (List.mem_append_right _ (List.mem_append_right _ (List.mem_append_right _ (List.mem_of_getElem? (i := 20) rfl))))))))))))
theorem mw_1616 : Cond.selects R_Mo y_Mo_log y_Mo_log ∈ zz_W := List.mem_append_right _ (List.mem_append_right _ (List.mem_append_right _ (List.mem_append_right _ (List.mem_append_right _ (List.mem_append_right _ (List.mem_append_right _ (List.mem_append_right _ (List.mem_append_right _ (List.mem_append_right _ (List.mem_append_right _ (List.mem_append_right _ (List.mem_of_getElem? (i := 21) rfl))))))))))))
theorem mw_1617 : Cond.code y_Mo_log prog_14_method_75_code 2 (some .long) ∈ zz_W := List.mem_append_right _ (List.mem_append_right _ (List.mem_append_right _ (List.mem_append_right _ (List.mem_append_right _ (List.mem_append_right _ (List.mem_append_right _ (List.mem_append_right _ (List.mem_append_right _ (List.mem_append_right _ (List.mem_append_right _ (List.mem_append_right _ (List.mem_of_getElem? (i := 22) rfl))))))))))))
theorem mw_1618 : Cond.methodLink R_La 107 y_Mo_known ∈ zz_W := List.mem_append_right _ (List.mem_append_right _ (List.mem_append_right _ (List.mem_append_right _ (List.mem_append_right _ (List.mem_append_right _ (List.mem_append_right _ (List.mem_append_right _ (List.mem_append_right _ (List.mem_append_right _ (List.mem_append_right _ (List.mem_append_right _ (List.mem_of_getElem? (i := 23) rfl))))))))))))
theorem mw_1619 : Cond.instanceMethod y_Mo_known ∈ zz_W := List.mem_append_right _ (List.mem_append_right _ (List.mem_append_right _ (List.mem_append_right _ (List.mem_append_right _ (List.mem_append_right _ (List.mem_append_right _ (List.mem_append_right _ (List.mem_append_right _ (List.mem_append_right _ (List.mem_append_right _ (List.mem_append_right _ (List.mem_of_getElem? (i := 24) rfl))))))))))))
theorem mw_1620 : Cond.selects R_Mo y_Mo_known y_Mo_known ∈ zz_W := List.mem_append_right _ (List.mem_append_right _ (List.mem_append_right _ (List.mem_append_right _ (List.mem_append_right _ (List.mem_append_right _ (List.mem_append_right _ (List.mem_append_right _ (List.mem_append_right _ (List.mem_append_right _ (List.mem_append_right _ (List.mem_append_right _ (List.mem_of_getElem? (i := 25) rfl))))))))))))
theorem mw_1621 : Cond.code y_Mo_known prog_14_method_76_code 5 (some .long) ∈ zz_W := List.mem_append_right _ (List.mem_append_right _ (List.mem_append_right _ (List.mem_append_right _ (List.mem_append_right _ (List.mem_append_right _ (List.mem_append_right _ (List.mem_append_right _ (List.mem_append_right _ (List.mem_append_right _ (List.mem_append_right _ (List.mem_append_right _ (List.mem_of_getElem? (i := 26) rfl))))))))))))
theorem mw_1622 : Cond.methodLink R_La 111 y_Mo_count ∈ zz_W := List.mem_append_right _ (List.mem_append_right _ (List.mem_append_right _ (List.mem_append_right _ (List.mem_append_right _ (List.mem_append_right _ (List.mem_append_right _ (List.mem_append_right _ (List.mem_append_right _ (List.mem_append_right _ (List.mem_append_right _ (List.mem_append_right _ (List.mem_of_getElem? (i := 27) rfl))))))))))))
theorem mw_1623 : Cond.instanceMethod y_Mo_count ∈ zz_W := List.mem_append_right _ (List.mem_append_right _ (List.mem_append_right _ (List.mem_append_right _ (List.mem_append_right _ (List.mem_append_right _ (List.mem_append_right _ (List.mem_append_right _ (List.mem_append_right _ (List.mem_append_right _ (List.mem_append_right _ (List.mem_append_right _ (List.mem_of_getElem? (i := 28) rfl))))))))))))
theorem mw_1624 : Cond.selects R_Mo y_Mo_count y_Mo_count ∈ zz_W := List.mem_append_right _ (List.mem_append_right _ (List.mem_append_right _ (List.mem_append_right _ (List.mem_append_right _ (List.mem_append_right _ (List.mem_append_right _ (List.mem_append_right _ (List.mem_append_right _ (List.mem_append_right _ (List.mem_append_right _ (List.mem_append_right _ (List.mem_of_getElem? (i := 29) rfl))))))))))))
theorem mw_1625 : Cond.code y_Mo_count prog_14_method_77_code 2 (some .int) ∈ zz_W := List.mem_append_right _ (List.mem_append_right _ (List.mem_append_right _ (List.mem_append_right _ (List.mem_append_right _ (List.mem_append_right _ (List.mem_append_right _ (List.mem_append_right _ (List.mem_append_right _ (List.mem_append_right _ (List.mem_append_right _ (List.mem_append_right _ (List.mem_of_getElem? (i := 30) rfl))))))))))))
theorem mw_1626 : Cond.constantLong R_La 86 (4294967295) ∈ zz_W := List.mem_append_right _ (List.mem_append_right _ (List.mem_append_right _ (List.mem_append_right _ (List.mem_append_right _ (List.mem_append_right _ (List.mem_append_right _ (List.mem_append_right _ (List.mem_append_right _ (List.mem_append_right _ (List.mem_append_right _ (List.mem_append_right _ (List.mem_of_getElem? (i := 31) rfl))))))))))))
theorem mw_oinit : Cond.code objectInit ⟨#[0xb1]⟩ 1 none ∈ zz_W := List.mem_append_right _ (List.mem_append_left _ (List.mem_of_getElem? (i := 26) rfl))
theorem mw_sel_Mo_no : Cond.selects R_Mo y_Mo_no y_Mo_no ∈ zz_W := List.mem_append_left _ (List.mem_of_getElem? (i := 0) rfl)
theorem mn_37 : Cond.methodLinkNest R_FG 11 y_Pr_init R_FG ∈ zz_NT := List.mem_of_getElem? (i := 0) rfl
theorem mn_76 : Cond.methodLinkNest R_FG 18 y_Ma_init R_FG ∈ zz_NT := List.mem_of_getElem? (i := 1) rfl
theorem mn_148 : Cond.methodLinkNest R_FG 34 y_Fo_init R_FG ∈ zz_NT := List.mem_of_getElem? (i := 2) rfl
theorem mn_174 : Cond.methodLinkNest R_Ch 11 y_St_init R_FG ∈ zz_NT := List.mem_of_getElem? (i := 3) rfl
theorem mn_215 : Cond.methodLinkNest R_Ch 27 y_Ra_init R_FG ∈ zz_NT := List.mem_of_getElem? (i := 4) rfl
theorem mn_1063 : Cond.methodLinkNest R_Ma 45 y_FG_within R_FG ∈ zz_NT := List.mem_of_getElem? (i := 5) rfl
theorem mn_390 : Cond.castable "java/lang/IllegalArgumentException" "java/lang/IllegalArgumentException" ∈ zz_NT := List.mem_of_getElem? (i := 6) rfl
theorem mn_392 : Cond.declares (⟨"java/lang/RuntimeException", "<init>", "(Ljava/lang/String;)V"⟩ : MethodName) ∈ zz_NT := List.mem_of_getElem? (i := 7) rfl
theorem mn_394 : Cond.declares (⟨"java/lang/Exception", "<init>", "(Ljava/lang/String;)V"⟩ : MethodName) ∈ zz_NT := List.mem_of_getElem? (i := 8) rfl
theorem mn_396 : Cond.declares (⟨"java/lang/Throwable", "<init>", "(Ljava/lang/String;)V"⟩ : MethodName) ∈ zz_NT := List.mem_of_getElem? (i := 9) rfl
theorem mn_459 : Cond.castable "java/lang/IllegalStateException" "java/lang/IllegalStateException" ∈ zz_NT := List.mem_of_getElem? (i := 10) rfl
theorem mn_844 : Cond.castable "java/lang/IndexOutOfBoundsException" "java/lang/IndexOutOfBoundsException" ∈ zz_NT := List.mem_of_getElem? (i := 11) rfl
theorem mn_1038 : Cond.castable "java/util/NoSuchElementException" "java/util/NoSuchElementException" ∈ zz_NT := List.mem_of_getElem? (i := 12) rfl
set_option maxRecDepth 100000 in
theorem i_FG : ∀ w ∈ u_ws R_FG F_FG 7, w ∈ zz_W := by
  intro w hw
  obtain ⟨j, hj, rfl⟩ := List.mem_map.mp hw
  have hj := List.mem_range.mp hj
  match j, hj with
  | 0, _ => exact mw_330
  | 1, _ => exact mw_332
  | 2, _ => exact mw_334
  | 3, _ => exact mw_336
  | 4, _ => exact mw_338
  | 5, _ => exact mw_340
  | 6, _ => exact mw_342
  | j + 7, h => exact absurd h (by omega)
set_option maxRecDepth 100000 in
theorem i_Pr : ∀ w ∈ u_ws R_Pr F_Pr 6, w ∈ zz_W := by
  intro w hw
  obtain ⟨j, hj, rfl⟩ := List.mem_map.mp hw
  have hj := List.mem_range.mp hj
  match j, hj with
  | 0, _ => exact mw_60
  | 1, _ => exact mw_62
  | 2, _ => exact mw_64
  | 3, _ => exact mw_66
  | 4, _ => exact mw_68
  | 5, _ => exact mw_70
  | j + 6, h => exact absurd h (by omega)
set_option maxRecDepth 100000 in
theorem i_Ma : ∀ w ∈ u_ws R_Ma F_Ma 8, w ∈ zz_W := by
  intro w hw
  obtain ⟨j, hj, rfl⟩ := List.mem_map.mp hw
  have hj := List.mem_range.mp hj
  match j, hj with
  | 0, _ => exact mw_100
  | 1, _ => exact mw_102
  | 2, _ => exact mw_104
  | 3, _ => exact mw_106
  | 4, _ => exact mw_108
  | 5, _ => exact mw_110
  | 6, _ => exact mw_112
  | 7, _ => exact mw_114
  | j + 8, h => exact absurd h (by omega)
set_option maxRecDepth 100000 in
theorem i_Me : ∀ w ∈ u_ws R_Me F_Me 5, w ∈ zz_W := by
  intro w hw
  obtain ⟨j, hj, rfl⟩ := List.mem_map.mp hw
  have hj := List.mem_range.mp hj
  match j, hj with
  | 0, _ => exact mw_135
  | 1, _ => exact mw_137
  | 2, _ => exact mw_139
  | 3, _ => exact mw_141
  | 4, _ => exact mw_143
  | j + 5, h => exact absurd h (by omega)
set_option maxRecDepth 100000 in
theorem i_Fo : ∀ w ∈ u_ws R_Fo F_Fo 4, w ∈ zz_W := by
  intro w hw
  obtain ⟨j, hj, rfl⟩ := List.mem_map.mp hw
  have hj := List.mem_range.mp hj
  match j, hj with
  | 0, _ => exact mw_156
  | 1, _ => exact mw_158
  | 2, _ => exact mw_160
  | 3, _ => exact mw_162
  | j + 4, h => exact absurd h (by omega)
set_option maxRecDepth 100000 in
theorem i_Ch : ∀ w ∈ u_ws R_Ch F_Ch 14, w ∈ zz_W := by
  intro w hw
  obtain ⟨j, hj, rfl⟩ := List.mem_map.mp hw
  have hj := List.mem_range.mp hj
  match j, hj with
  | 0, _ => exact mw_247
  | 1, _ => exact mw_249
  | 2, _ => exact mw_251
  | 3, _ => exact mw_253
  | 4, _ => exact mw_255
  | 5, _ => exact mw_257
  | 6, _ => exact mw_259
  | 7, _ => exact mw_261
  | 8, _ => exact mw_263
  | 9, _ => exact mw_265
  | 10, _ => exact mw_267
  | 11, _ => exact mw_269
  | 12, _ => exact mw_271
  | 13, _ => exact mw_273
  | j + 14, h => exact absurd h (by omega)
set_option maxRecDepth 100000 in
theorem i_St : ∀ w ∈ u_ws R_St F_St 8, w ∈ zz_W := by
  intro w hw
  obtain ⟨j, hj, rfl⟩ := List.mem_map.mp hw
  have hj := List.mem_range.mp hj
  match j, hj with
  | 0, _ => exact mw_195
  | 1, _ => exact mw_197
  | 2, _ => exact mw_199
  | 3, _ => exact mw_201
  | 4, _ => exact mw_203
  | 5, _ => exact mw_205
  | 6, _ => exact mw_207
  | 7, _ => exact mw_209
  | j + 8, h => exact absurd h (by omega)
set_option maxRecDepth 100000 in
theorem i_Ra : ∀ w ∈ u_ws R_Ra F_Ra 2, w ∈ zz_W := by
  intro w hw
  obtain ⟨j, hj, rfl⟩ := List.mem_map.mp hw
  have hj := List.mem_range.mp hj
  match j, hj with
  | 0, _ => exact mw_225
  | 1, _ => exact mw_227
  | j + 2, h => exact absurd h (by omega)
set_option maxRecDepth 100000 in
theorem i_Ru : ∀ w ∈ u_ws R_Ru F_Ru 12, w ∈ zz_W := by
  intro w hw
  obtain ⟨j, hj, rfl⟩ := List.mem_map.mp hw
  have hj := List.mem_range.mp hj
  match j, hj with
  | 0, _ => exact mw_298
  | 1, _ => exact mw_300
  | 2, _ => exact mw_302
  | 3, _ => exact mw_304
  | 4, _ => exact mw_306
  | 5, _ => exact mw_308
  | 6, _ => exact mw_310
  | 7, _ => exact mw_312
  | 8, _ => exact mw_314
  | 9, _ => exact mw_316
  | 10, _ => exact mw_318
  | 11, _ => exact mw_320
  | j + 12, h => exact absurd h (by omega)
set_option maxRecDepth 100000 in
theorem i_Mo : ∀ w ∈ u_ws R_Mo F_Mo 56, w ∈ zz_W := by
  intro w hw
  obtain ⟨j, hj, rfl⟩ := List.mem_map.mp hw
  have hj := List.mem_range.mp hj
  match j, hj with
  | 0, _ => exact mw_1153
  | 1, _ => exact mw_1155
  | 2, _ => exact mw_1157
  | 3, _ => exact mw_1159
  | 4, _ => exact mw_1161
  | 5, _ => exact mw_1163
  | 6, _ => exact mw_1165
  | 7, _ => exact mw_1167
  | 8, _ => exact mw_1169
  | 9, _ => exact mw_1171
  | 10, _ => exact mw_1173
  | 11, _ => exact mw_1175
  | 12, _ => exact mw_1177
  | 13, _ => exact mw_1179
  | 14, _ => exact mw_1181
  | 15, _ => exact mw_1183
  | 16, _ => exact mw_1185
  | 17, _ => exact mw_1187
  | 18, _ => exact mw_1189
  | 19, _ => exact mw_1191
  | 20, _ => exact mw_1193
  | 21, _ => exact mw_1195
  | 22, _ => exact mw_1197
  | 23, _ => exact mw_1199
  | 24, _ => exact mw_1201
  | 25, _ => exact mw_1203
  | 26, _ => exact mw_1205
  | 27, _ => exact mw_1207
  | 28, _ => exact mw_1209
  | 29, _ => exact mw_1211
  | 30, _ => exact mw_1213
  | 31, _ => exact mw_1215
  | 32, _ => exact mw_1217
  | 33, _ => exact mw_1219
  | 34, _ => exact mw_1221
  | 35, _ => exact mw_1223
  | 36, _ => exact mw_1225
  | 37, _ => exact mw_1227
  | 38, _ => exact mw_1229
  | 39, _ => exact mw_1231
  | 40, _ => exact mw_1233
  | 41, _ => exact mw_1235
  | 42, _ => exact mw_1237
  | 43, _ => exact mw_1239
  | 44, _ => exact mw_1241
  | 45, _ => exact mw_1243
  | 46, _ => exact mw_1245
  | 47, _ => exact mw_1247
  | 48, _ => exact mw_1249
  | 49, _ => exact mw_1251
  | 50, _ => exact mw_1253
  | 51, _ => exact mw_1255
  | 52, _ => exact mw_1257
  | 53, _ => exact mw_1259
  | 54, _ => exact mw_1261
  | 55, _ => exact mw_1263
  | j + 56, h => exact absurd h (by omega)
theorem hd_St_init : y_St_init.cls ≠ "java/lang/invoke/MethodHandle" ∧ y_St_init.cls ≠ "java/lang/invoke/VarHandle" ∧ (parseMethodDescriptor y_St_init.desc).map (fun d => d.parameters.length) = some 0 := by decide +kernel
theorem hd_Ra_init : y_Ra_init.cls ≠ "java/lang/invoke/MethodHandle" ∧ y_Ra_init.cls ≠ "java/lang/invoke/VarHandle" ∧ (parseMethodDescriptor y_Ra_init.desc).map (fun d => d.parameters.length) = some 0 := by decide +kernel
theorem hd_Pr_init : y_Pr_init.cls ≠ "java/lang/invoke/MethodHandle" ∧ y_Pr_init.cls ≠ "java/lang/invoke/VarHandle" ∧ (parseMethodDescriptor y_Pr_init.desc).map (fun d => d.parameters.length) = some 0 := by decide +kernel
theorem hd_Ma_init : y_Ma_init.cls ≠ "java/lang/invoke/MethodHandle" ∧ y_Ma_init.cls ≠ "java/lang/invoke/VarHandle" ∧ (parseMethodDescriptor y_Ma_init.desc).map (fun d => d.parameters.length) = some 0 := by decide +kernel
theorem hd_Me_init : y_Me_init.cls ≠ "java/lang/invoke/MethodHandle" ∧ y_Me_init.cls ≠ "java/lang/invoke/VarHandle" ∧ (parseMethodDescriptor y_Me_init.desc).map (fun d => d.parameters.length) = some 1 := by decide +kernel
theorem hd_Fo_init : y_Fo_init.cls ≠ "java/lang/invoke/MethodHandle" ∧ y_Fo_init.cls ≠ "java/lang/invoke/VarHandle" ∧ (parseMethodDescriptor y_Fo_init.desc).map (fun d => d.parameters.length) = some 0 := by decide +kernel
theorem hd_Ch_init : y_Ch_init.cls ≠ "java/lang/invoke/MethodHandle" ∧ y_Ch_init.cls ≠ "java/lang/invoke/VarHandle" ∧ (parseMethodDescriptor y_Ch_init.desc).map (fun d => d.parameters.length) = some 3 := by decide +kernel
theorem hd_Ru_init : y_Ru_init.cls ≠ "java/lang/invoke/MethodHandle" ∧ y_Ru_init.cls ≠ "java/lang/invoke/VarHandle" ∧ (parseMethodDescriptor y_Ru_init.desc).map (fun d => d.parameters.length) = some 3 := by decide +kernel
theorem hd_FG_within : y_FG_within.cls ≠ "java/lang/invoke/MethodHandle" ∧ y_FG_within.cls ≠ "java/lang/invoke/VarHandle" ∧ (parseMethodDescriptor y_FG_within.desc).map (fun d => d.parameters.length) = some 3 := by decide +kernel
theorem hd_Ma_append : y_Ma_append.cls ≠ "java/lang/invoke/MethodHandle" ∧ y_Ma_append.cls ≠ "java/lang/invoke/VarHandle" ∧ (parseMethodDescriptor y_Ma_append.desc).map (fun d => d.parameters.length) = some 3 := by decide +kernel
theorem hd_Pr_append : y_Pr_append.cls ≠ "java/lang/invoke/MethodHandle" ∧ y_Pr_append.cls ≠ "java/lang/invoke/VarHandle" ∧ (parseMethodDescriptor y_Pr_append.desc).map (fun d => d.parameters.length) = some 5 := by decide +kernel
theorem hd_Ar_fill : y_Ar_fill.cls ≠ "java/lang/invoke/MethodHandle" ∧ y_Ar_fill.cls ≠ "java/lang/invoke/VarHandle" ∧ (parseMethodDescriptor y_Ar_fill.desc).map (fun d => d.parameters.length) = some 2 := by decide +kernel
theorem hd_Ma_forget : y_Ma_forget.cls ≠ "java/lang/invoke/MethodHandle" ∧ y_Ma_forget.cls ≠ "java/lang/invoke/VarHandle" ∧ (parseMethodDescriptor y_Ma_forget.desc).map (fun d => d.parameters.length) = some 0 := by decide +kernel
theorem hd_Ch_forget : y_Ch_forget.cls ≠ "java/lang/invoke/MethodHandle" ∧ y_Ch_forget.cls ≠ "java/lang/invoke/VarHandle" ∧ (parseMethodDescriptor y_Ch_forget.desc).map (fun d => d.parameters.length) = some 0 := by decide +kernel
theorem hd_Ru_forget : y_Ru_forget.cls ≠ "java/lang/invoke/MethodHandle" ∧ y_Ru_forget.cls ≠ "java/lang/invoke/VarHandle" ∧ (parseMethodDescriptor y_Ru_forget.desc).map (fun d => d.parameters.length) = some 0 := by decide +kernel
theorem hd_Me_feedNumber : y_Me_feedNumber.cls ≠ "java/lang/invoke/MethodHandle" ∧ y_Me_feedNumber.cls ≠ "java/lang/invoke/VarHandle" ∧ (parseMethodDescriptor y_Me_feedNumber.desc).map (fun d => d.parameters.length) = some 1 := by decide +kernel
theorem hd_Ma_has : y_Ma_has.cls ≠ "java/lang/invoke/MethodHandle" ∧ y_Ma_has.cls ≠ "java/lang/invoke/VarHandle" ∧ (parseMethodDescriptor y_Ma_has.desc).map (fun d => d.parameters.length) = some 2 := by decide +kernel
theorem hd_Ru_strays : y_Ru_strays.cls ≠ "java/lang/invoke/MethodHandle" ∧ y_Ru_strays.cls ≠ "java/lang/invoke/VarHandle" ∧ (parseMethodDescriptor y_Ru_strays.desc).map (fun d => d.parameters.length) = some 0 := by decide +kernel
theorem hd_Mo_no : y_Mo_no.cls ≠ "java/lang/invoke/MethodHandle" ∧ y_Mo_no.cls ≠ "java/lang/invoke/VarHandle" ∧ (parseMethodDescriptor y_Mo_no.desc).map (fun d => d.parameters.length) = some 1 := by decide +kernel
theorem hd_FG_map : y_FG_map.cls ≠ "java/lang/invoke/MethodHandle" ∧ y_FG_map.cls ≠ "java/lang/invoke/VarHandle" ∧ (parseMethodDescriptor y_FG_map.desc).map (fun d => d.parameters.length) = some 3 := by decide +kernel
theorem hd_FG_add : y_FG_add.cls ≠ "java/lang/invoke/MethodHandle" ∧ y_FG_add.cls ≠ "java/lang/invoke/VarHandle" ∧ (parseMethodDescriptor y_FG_add.desc).map (fun d => d.parameters.length) = some 5 := by decide +kernel
theorem hd_FG_check : y_FG_check.cls ≠ "java/lang/invoke/MethodHandle" ∧ y_FG_check.cls ≠ "java/lang/invoke/VarHandle" ∧ (parseMethodDescriptor y_FG_check.desc).map (fun d => d.parameters.length) = some 0 := by decide +kernel
theorem hd_FG_feed : y_FG_feed.cls ≠ "java/lang/invoke/MethodHandle" ∧ y_FG_feed.cls ≠ "java/lang/invoke/VarHandle" ∧ (parseMethodDescriptor y_FG_feed.desc).map (fun d => d.parameters.length) = some 5 := by decide +kernel
theorem hd_FG_end : y_FG_end.cls ≠ "java/lang/invoke/MethodHandle" ∧ y_FG_end.cls ≠ "java/lang/invoke/VarHandle" ∧ (parseMethodDescriptor y_FG_end.desc).map (fun d => d.parameters.length) = some 1 := by decide +kernel
theorem hd_FG_run : y_FG_run.cls ≠ "java/lang/invoke/MethodHandle" ∧ y_FG_run.cls ≠ "java/lang/invoke/VarHandle" ∧ (parseMethodDescriptor y_FG_run.desc).map (fun d => d.parameters.length) = some 0 := by decide +kernel
theorem hd_FG_letter : y_FG_letter.cls ≠ "java/lang/invoke/MethodHandle" ∧ y_FG_letter.cls ≠ "java/lang/invoke/VarHandle" ∧ (parseMethodDescriptor y_FG_letter.desc).map (fun d => d.parameters.length) = some 1 := by decide +kernel
theorem hd_FG_place : y_FG_place.cls ≠ "java/lang/invoke/MethodHandle" ∧ y_FG_place.cls ≠ "java/lang/invoke/VarHandle" ∧ (parseMethodDescriptor y_FG_place.desc).map (fun d => d.parameters.length) = some 3 := by decide +kernel
theorem hd_FG_log : y_FG_log.cls ≠ "java/lang/invoke/MethodHandle" ∧ y_FG_log.cls ≠ "java/lang/invoke/VarHandle" ∧ (parseMethodDescriptor y_FG_log.desc).map (fun d => d.parameters.length) = some 1 := by decide +kernel
theorem hd_FG_known : y_FG_known.cls ≠ "java/lang/invoke/MethodHandle" ∧ y_FG_known.cls ≠ "java/lang/invoke/VarHandle" ∧ (parseMethodDescriptor y_FG_known.desc).map (fun d => d.parameters.length) = some 3 := by decide +kernel
theorem hd_La_map : y_La_map.cls ≠ "java/lang/invoke/MethodHandle" ∧ y_La_map.cls ≠ "java/lang/invoke/VarHandle" ∧ (parseMethodDescriptor y_La_map.desc).map (fun d => d.parameters.length) = some 5 := by decide +kernel
theorem hd_Mo_map : y_Mo_map.cls ≠ "java/lang/invoke/MethodHandle" ∧ y_Mo_map.cls ≠ "java/lang/invoke/VarHandle" ∧ (parseMethodDescriptor y_Mo_map.desc).map (fun d => d.parameters.length) = some 3 := by decide +kernel
theorem hd_Mo_thrown : y_Mo_thrown.cls ≠ "java/lang/invoke/MethodHandle" ∧ y_Mo_thrown.cls ≠ "java/lang/invoke/VarHandle" ∧ (parseMethodDescriptor y_Mo_thrown.desc).map (fun d => d.parameters.length) = some 0 := by decide +kernel
theorem hd_La_add : y_La_add.cls ≠ "java/lang/invoke/MethodHandle" ∧ y_La_add.cls ≠ "java/lang/invoke/VarHandle" ∧ (parseMethodDescriptor y_La_add.desc).map (fun d => d.parameters.length) = some 7 := by decide +kernel
theorem hd_Mo_add : y_Mo_add.cls ≠ "java/lang/invoke/MethodHandle" ∧ y_Mo_add.cls ≠ "java/lang/invoke/VarHandle" ∧ (parseMethodDescriptor y_Mo_add.desc).map (fun d => d.parameters.length) = some 5 := by decide +kernel
theorem hd_La_check : y_La_check.cls ≠ "java/lang/invoke/MethodHandle" ∧ y_La_check.cls ≠ "java/lang/invoke/VarHandle" ∧ (parseMethodDescriptor y_La_check.desc).map (fun d => d.parameters.length) = some 2 := by decide +kernel
theorem hd_Mo_check : y_Mo_check.cls ≠ "java/lang/invoke/MethodHandle" ∧ y_Mo_check.cls ≠ "java/lang/invoke/VarHandle" ∧ (parseMethodDescriptor y_Mo_check.desc).map (fun d => d.parameters.length) = some 0 := by decide +kernel
theorem hd_FG_clear : y_FG_clear.cls ≠ "java/lang/invoke/MethodHandle" ∧ y_FG_clear.cls ≠ "java/lang/invoke/VarHandle" ∧ (parseMethodDescriptor y_FG_clear.desc).map (fun d => d.parameters.length) = some 0 := by decide +kernel
theorem hd_Mo_clear : y_Mo_clear.cls ≠ "java/lang/invoke/MethodHandle" ∧ y_Mo_clear.cls ≠ "java/lang/invoke/VarHandle" ∧ (parseMethodDescriptor y_Mo_clear.desc).map (fun d => d.parameters.length) = some 0 := by decide +kernel
theorem hd_La_feed : y_La_feed.cls ≠ "java/lang/invoke/MethodHandle" ∧ y_La_feed.cls ≠ "java/lang/invoke/VarHandle" ∧ (parseMethodDescriptor y_La_feed.desc).map (fun d => d.parameters.length) = some 7 := by decide +kernel
theorem hd_Mo_feed : y_Mo_feed.cls ≠ "java/lang/invoke/MethodHandle" ∧ y_Mo_feed.cls ≠ "java/lang/invoke/VarHandle" ∧ (parseMethodDescriptor y_Mo_feed.desc).map (fun d => d.parameters.length) = some 5 := by decide +kernel
theorem hd_La_end : y_La_end.cls ≠ "java/lang/invoke/MethodHandle" ∧ y_La_end.cls ≠ "java/lang/invoke/VarHandle" ∧ (parseMethodDescriptor y_La_end.desc).map (fun d => d.parameters.length) = some 3 := by decide +kernel
theorem hd_Mo_end : y_Mo_end.cls ≠ "java/lang/invoke/MethodHandle" ∧ y_Mo_end.cls ≠ "java/lang/invoke/VarHandle" ∧ (parseMethodDescriptor y_Mo_end.desc).map (fun d => d.parameters.length) = some 1 := by decide +kernel
theorem hd_FG_seed : y_FG_seed.cls ≠ "java/lang/invoke/MethodHandle" ∧ y_FG_seed.cls ≠ "java/lang/invoke/VarHandle" ∧ (parseMethodDescriptor y_FG_seed.desc).map (fun d => d.parameters.length) = some 1 := by decide +kernel
theorem hd_Mo_seed : y_Mo_seed.cls ≠ "java/lang/invoke/MethodHandle" ∧ y_Mo_seed.cls ≠ "java/lang/invoke/VarHandle" ∧ (parseMethodDescriptor y_Mo_seed.desc).map (fun d => d.parameters.length) = some 1 := by decide +kernel
theorem hd_La_run : y_La_run.cls ≠ "java/lang/invoke/MethodHandle" ∧ y_La_run.cls ≠ "java/lang/invoke/VarHandle" ∧ (parseMethodDescriptor y_La_run.desc).map (fun d => d.parameters.length) = some 2 := by decide +kernel
theorem hd_Mo_run : y_Mo_run.cls ≠ "java/lang/invoke/MethodHandle" ∧ y_Mo_run.cls ≠ "java/lang/invoke/VarHandle" ∧ (parseMethodDescriptor y_Mo_run.desc).map (fun d => d.parameters.length) = some 0 := by decide +kernel
theorem hd_La_letter : y_La_letter.cls ≠ "java/lang/invoke/MethodHandle" ∧ y_La_letter.cls ≠ "java/lang/invoke/VarHandle" ∧ (parseMethodDescriptor y_La_letter.desc).map (fun d => d.parameters.length) = some 3 := by decide +kernel
theorem hd_Mo_letter : y_Mo_letter.cls ≠ "java/lang/invoke/MethodHandle" ∧ y_Mo_letter.cls ≠ "java/lang/invoke/VarHandle" ∧ (parseMethodDescriptor y_Mo_letter.desc).map (fun d => d.parameters.length) = some 1 := by decide +kernel
theorem hd_La_place : y_La_place.cls ≠ "java/lang/invoke/MethodHandle" ∧ y_La_place.cls ≠ "java/lang/invoke/VarHandle" ∧ (parseMethodDescriptor y_La_place.desc).map (fun d => d.parameters.length) = some 5 := by decide +kernel
theorem hd_Mo_place : y_Mo_place.cls ≠ "java/lang/invoke/MethodHandle" ∧ y_Mo_place.cls ≠ "java/lang/invoke/VarHandle" ∧ (parseMethodDescriptor y_Mo_place.desc).map (fun d => d.parameters.length) = some 3 := by decide +kernel
theorem hd_La_log : y_La_log.cls ≠ "java/lang/invoke/MethodHandle" ∧ y_La_log.cls ≠ "java/lang/invoke/VarHandle" ∧ (parseMethodDescriptor y_La_log.desc).map (fun d => d.parameters.length) = some 3 := by decide +kernel
theorem hd_Mo_log : y_Mo_log.cls ≠ "java/lang/invoke/MethodHandle" ∧ y_Mo_log.cls ≠ "java/lang/invoke/VarHandle" ∧ (parseMethodDescriptor y_Mo_log.desc).map (fun d => d.parameters.length) = some 1 := by decide +kernel
theorem hd_La_known : y_La_known.cls ≠ "java/lang/invoke/MethodHandle" ∧ y_La_known.cls ≠ "java/lang/invoke/VarHandle" ∧ (parseMethodDescriptor y_La_known.desc).map (fun d => d.parameters.length) = some 5 := by decide +kernel
theorem hd_Mo_known : y_Mo_known.cls ≠ "java/lang/invoke/MethodHandle" ∧ y_Mo_known.cls ≠ "java/lang/invoke/VarHandle" ∧ (parseMethodDescriptor y_Mo_known.desc).map (fun d => d.parameters.length) = some 3 := by decide +kernel
theorem hd_FG_count : y_FG_count.cls ≠ "java/lang/invoke/MethodHandle" ∧ y_FG_count.cls ≠ "java/lang/invoke/VarHandle" ∧ (parseMethodDescriptor y_FG_count.desc).map (fun d => d.parameters.length) = some 1 := by decide +kernel
theorem hd_Mo_count : y_Mo_count.cls ≠ "java/lang/invoke/MethodHandle" ∧ y_Mo_count.cls ≠ "java/lang/invoke/VarHandle" ∧ (parseMethodDescriptor y_Mo_count.desc).map (fun d => d.parameters.length) = some 1 := by decide +kernel
theorem hd_FG_init : y_FG_init.cls ≠ "java/lang/invoke/MethodHandle" ∧ y_FG_init.cls ≠ "java/lang/invoke/VarHandle" ∧ (parseMethodDescriptor y_FG_init.desc).map (fun d => d.parameters.length) = some 0 := by decide +kernel
theorem hd_Mo_init : y_Mo_init.cls ≠ "java/lang/invoke/MethodHandle" ∧ y_Mo_init.cls ≠ "java/lang/invoke/VarHandle" ∧ (parseMethodDescriptor y_Mo_init.desc).map (fun d => d.parameters.length) = some 0 := by decide +kernel
theorem x_IAE_0 : decode prog_17_method_2_code 0 = .ok (.aload_n 0, 1) := by decide +kernel
theorem x_IAE_1 : decode prog_17_method_2_code 1 = .ok (.aload_n 1, 1) := by decide +kernel
theorem x_IAE_2 : decode prog_17_method_2_code 2 = .ok (.invokespecial 7, 3) := by decide +kernel
theorem x_IAE_5 : decode prog_17_method_2_code 5 = .ok (.return_, 1) := by decide +kernel
set_option maxRecDepth 1000000 in
theorem zz_ow_IAE : ∀ a ∈ th_own R_FG 69 E_IAE 7 prog_17_method_2_code, a ∈ zz_W ∨ a ∈ zz_NT := by decide +kernel
theorem x_ISE_0 : decode prog_18_method_2_code 0 = .ok (.aload_n 0, 1) := by decide +kernel
theorem x_ISE_1 : decode prog_18_method_2_code 1 = .ok (.aload_n 1, 1) := by decide +kernel
theorem x_ISE_2 : decode prog_18_method_2_code 2 = .ok (.invokespecial 7, 3) := by decide +kernel
theorem x_ISE_5 : decode prog_18_method_2_code 5 = .ok (.return_, 1) := by decide +kernel
set_option maxRecDepth 1000000 in
theorem zz_ow_ISE : ∀ a ∈ th_own R_FG 80 E_ISE 7 prog_18_method_2_code, a ∈ zz_W ∨ a ∈ zz_NT := by decide +kernel
theorem x_IOE_0 : decode prog_19_method_2_code 0 = .ok (.aload_n 0, 1) := by decide +kernel
theorem x_IOE_1 : decode prog_19_method_2_code 1 = .ok (.aload_n 1, 1) := by decide +kernel
theorem x_IOE_2 : decode prog_19_method_2_code 2 = .ok (.invokespecial 7, 3) := by decide +kernel
theorem x_IOE_5 : decode prog_19_method_2_code 5 = .ok (.return_, 1) := by decide +kernel
set_option maxRecDepth 1000000 in
theorem zz_ow_IOE : ∀ a ∈ th_own R_FG 109 E_IOE 7 prog_19_method_2_code, a ∈ zz_W ∨ a ∈ zz_NT := by decide +kernel
theorem x_NSE_0 : decode prog_28_method_4_code 0 = .ok (.aload_n 0, 1) := by decide +kernel
theorem x_NSE_1 : decode prog_28_method_4_code 1 = .ok (.aload_n 1, 1) := by decide +kernel
theorem x_NSE_2 : decode prog_28_method_4_code 2 = .ok (.invokespecial 13, 3) := by decide +kernel
theorem x_NSE_5 : decode prog_28_method_4_code 5 = .ok (.return_, 1) := by decide +kernel
set_option maxRecDepth 1000000 in
theorem zz_ow_NSE : ∀ a ∈ th_own R_FG 130 E_NSE 13 prog_28_method_4_code, a ∈ zz_W ∨ a ∈ zz_NT := by decide +kernel
set_option maxRecDepth 1000000 in
theorem zz_up_in : ∀ a ∈ th_up, a ∈ zz_W ∨ a ∈ zz_NT ∨ a = .laysStatic Bundle.tN "UNASSIGNED_STACK" Bundle.steD ∨ a = .laysStatic Bundle.tN "SUPPRESSED_SENTINEL" Bundle.listD := by decide +kernel
/-- the tables' words that a contract's own list doesn't take -/
def zz_SR : List (Nat × String) := [(67, "no such size of a map"), (91, "there is nothing to check"), (114, "the packet has not so many bytes"), (120, "no program passed"), (128, "no such byte"), (146, "no such place or byte"), (154, "no such number in the log"), (160, "nothing so numbered is foretold"), (166, "no such instruction or register")]
def zz_T (U : State) : Prop := (∀ w ∈ zz_NT, va_Nw w U) ∧ va_AO R_St U ∧ va_Nc E_NSE E_IAE U ∧ ∀ r ∈ zz_SR, ∃ q, vk_R R_FG r.1 r.2 q U
