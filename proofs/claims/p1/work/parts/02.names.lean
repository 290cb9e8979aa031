/-- a private method of a class that the tables say can be made, by its rows of tables_1 -/
def lw_okq (q : MethodName × Nat) : Prop := (q.1.cls ≠ "java/lang/invoke/MethodHandle" ∧ q.1.cls ≠ "java/lang/invoke/VarHandle") ∧ Cond.instantiable q.1.cls q.2 ∈ tables_1 ∧ Cond.privateMethod q.1 ∈ tables_1 ∧ Cond.instanceMethod q.1 ∈ tables_1
/-! names, words, decode rows: written by a program out of the Statement's tables and javap's listing -/
abbrev R_FG : String := "FilterGuard"
abbrev R_Pr : String := "FilterGuard$Program"
abbrev R_Ma : String := "FilterGuard$Maps"
abbrev R_Me : String := "FilterGuard$Memory"
abbrev R_Fo : String := "FilterGuard$Foretold"
abbrev R_Ch : String := "FilterGuard$Checker"
abbrev R_St : String := "FilterGuard$State"
abbrev R_Ra : String := "FilterGuard$Range"
abbrev R_Ru : String := "FilterGuard$Runner"
abbrev R_Mo : String := "FilterGuardModel"
abbrev R_La : String := "FilterGuardLaw"
abbrev R_Ar : String := "java/util/Arrays"
abbrev E_IAE : String := "java/lang/IllegalArgumentException"
abbrev E_ISE : String := "java/lang/IllegalStateException"
abbrev E_IOE : String := "java/lang/IndexOutOfBoundsException"
abbrev E_NSE : String := "java/util/NoSuchElementException"
def F_FG : u_T := fun k => match k with
  | 0 => (R_FG, "program", "LFilterGuard$Program;", true)
  | 1 => (R_FG, "maps", "LFilterGuard$Maps;", true)
  | 2 => (R_FG, "memory", "LFilterGuard$Memory;", true)
  | 3 => (R_FG, "foretold", "LFilterGuard$Foretold;", true)
  | 4 => (R_FG, "checker", "LFilterGuard$Checker;", true)
  | 5 => (R_FG, "runner", "LFilterGuard$Runner;", true)
  | _ => (R_FG, "passed", "Z", false)
def t_FG : Nat → FieldType := fun k => match k with
  | 0 => (.object R_Pr)
  | 1 => (.object R_Ma)
  | 2 => (.object R_Me)
  | 3 => (.object R_Fo)
  | 4 => (.object R_Ch)
  | 5 => (.object R_Ru)
  | _ => .boolean
set_option maxRecDepth 100000 in
theorem n_FG : ∀ a, a < 7 → ∀ b, b < 7 → a ≠ b → (F_FG a).2.1 ≠ (F_FG b).2.1 := by decide +kernel
set_option maxRecDepth 100000 in
theorem t_FG_ok : ∀ k, k < 7 → parseFieldDescriptor (F_FG k).2.2.1 = some (t_FG k) := by decide +kernel
set_option maxRecDepth 100000 in
theorem zz_df_FG : ∀ j, j < 7 → defaultValue (t_FG j) = vp_V [.null, .null, .null, .null, .null, .null, .int 0] j := by decide +kernel
def F_Pr : u_T := fun k => match k with
  | 0 => (R_Pr, "sort", "[I", true)
  | 1 => (R_Pr, "dst", "[I", true)
  | 2 => (R_Pr, "src", "[I", true)
  | 3 => (R_Pr, "off", "[I", true)
  | 4 => (R_Pr, "imm", "[I", true)
  | _ => (R_Pr, "size", "I", false)
def t_Pr : Nat → FieldType := fun k => match k with
  | 0 => (.array .int)
  | 1 => (.array .int)
  | 2 => (.array .int)
  | 3 => (.array .int)
  | 4 => (.array .int)
  | _ => .int
set_option maxRecDepth 100000 in
theorem n_Pr : ∀ a, a < 6 → ∀ b, b < 6 → a ≠ b → (F_Pr a).2.1 ≠ (F_Pr b).2.1 := by decide +kernel
set_option maxRecDepth 100000 in
theorem t_Pr_ok : ∀ k, k < 6 → parseFieldDescriptor (F_Pr k).2.2.1 = some (t_Pr k) := by decide +kernel
set_option maxRecDepth 100000 in
theorem zz_df_Pr : ∀ j, j < 6 → defaultValue (t_Pr j) = vp_V [.null, .null, .null, .null, .null, .int 0] j := by decide +kernel
def F_Ma : u_T := fun k => match k with
  | 0 => (R_Ma, "keyBytes", "[I", true)
  | 1 => (R_Ma, "valueBytes", "[I", true)
  | 2 => (R_Ma, "values", "[B", true)
  | 3 => (R_Ma, "sought", "[B", true)
  | 4 => (R_Ma, "places", "[I", true)
  | 5 => (R_Ma, "taken", "[Z", true)
  | 6 => (R_Ma, "keys", "[B", true)
  | _ => (R_Ma, "size", "I", false)
def t_Ma : Nat → FieldType := fun k => match k with
  | 0 => (.array .int)
  | 1 => (.array .int)
  | 2 => (.array .byte)
  | 3 => (.array .byte)
  | 4 => (.array .int)
  | 5 => (.array .boolean)
  | 6 => (.array .byte)
  | _ => .int
set_option maxRecDepth 100000 in
theorem n_Ma : ∀ a, a < 8 → ∀ b, b < 8 → a ≠ b → (F_Ma a).2.1 ≠ (F_Ma b).2.1 := by decide +kernel
set_option maxRecDepth 100000 in
theorem t_Ma_ok : ∀ k, k < 8 → parseFieldDescriptor (F_Ma k).2.2.1 = some (t_Ma k) := by decide +kernel
set_option maxRecDepth 100000 in
theorem zz_df_Ma : ∀ j, j < 8 → defaultValue (t_Ma j) = vp_V [.null, .null, .null, .null, .null, .null, .null, .int 0] j := by decide +kernel
def F_Me : u_T := fun k => match k with
  | 0 => (R_Me, "maps", "LFilterGuard$Maps;", true)
  | 1 => (R_Me, "packet", "[B", true)
  | 2 => (R_Me, "stack", "[B", true)
  | 3 => (R_Me, "packetLength", "I", false)
  | _ => (R_Me, "strays", "I", false)
def t_Me : Nat → FieldType := fun k => match k with
  | 0 => (.object R_Ma)
  | 1 => (.array .byte)
  | 2 => (.array .byte)
  | 3 => .int
  | _ => .int
set_option maxRecDepth 100000 in
theorem n_Me : ∀ a, a < 5 → ∀ b, b < 5 → a ≠ b → (F_Me a).2.1 ≠ (F_Me b).2.1 := by decide +kernel
set_option maxRecDepth 100000 in
theorem t_Me_ok : ∀ k, k < 5 → parseFieldDescriptor (F_Me k).2.2.1 = some (t_Me k) := by decide +kernel
set_option maxRecDepth 100000 in
theorem zz_df_Me : ∀ j, j < 5 → defaultValue (t_Me j) = vp_V [.null, .null, .null, .int 0, .int 0] j := by decide +kernel
def F_Fo : u_T := fun k => match k with
  | 0 => (R_Fo, "gone", "[I", true)
  | 1 => (R_Fo, "number", "[Z", true)
  | 2 => (R_Fo, "low", "[J", true)
  | _ => (R_Fo, "high", "[J", true)
def t_Fo : Nat → FieldType := fun k => match k with
  | 0 => (.array .int)
  | 1 => (.array .boolean)
  | 2 => (.array .long)
  | _ => (.array .long)
set_option maxRecDepth 100000 in
theorem n_Fo : ∀ a, a < 4 → ∀ b, b < 4 → a ≠ b → (F_Fo a).2.1 ≠ (F_Fo b).2.1 := by decide +kernel
set_option maxRecDepth 100000 in
theorem t_Fo_ok : ∀ k, k < 4 → parseFieldDescriptor (F_Fo k).2.2.1 = some (t_Fo k) := by decide +kernel
set_option maxRecDepth 100000 in
theorem zz_df_Fo : ∀ j, j < 4 → defaultValue (t_Fo j) = vp_V [.null, .null, .null, .null] j := by decide +kernel
def F_Ch : u_T := fun k => match k with
  | 0 => (R_Ch, "program", "LFilterGuard$Program;", true)
  | 1 => (R_Ch, "maps", "LFilterGuard$Maps;", true)
  | 2 => (R_Ch, "foretold", "LFilterGuard$Foretold;", true)
  | 3 => (R_Ch, "now", "LFilterGuard$State;", true)
  | 4 => (R_Ch, "other", "LFilterGuard$State;", true)
  | 5 => (R_Ch, "waiting", "[LFilterGuard$State;", true)
  | 6 => (R_Ch, "x", "LFilterGuard$Range;", true)
  | 7 => (R_Ch, "y", "LFilterGuard$Range;", true)
  | 8 => (R_Ch, "z", "LFilterGuard$Range;", true)
  | 9 => (R_Ch, "waits", "I", false)
  | 10 => (R_Ch, "tags", "I", false)
  | 11 => (R_Ch, "gone", "I", false)
  | 12 => (R_Ch, "fault", "I", false)
  | _ => (R_Ch, "faultAt", "I", false)
def t_Ch : Nat → FieldType := fun k => match k with
  | 0 => (.object R_Pr)
  | 1 => (.object R_Ma)
  | 2 => (.object R_Fo)
  | 3 => (.object R_St)
  | 4 => (.object R_St)
  | 5 => (.array (.object R_St))
  | 6 => (.object R_Ra)
  | 7 => (.object R_Ra)
  | 8 => (.object R_Ra)
  | 9 => .int
  | 10 => .int
  | 11 => .int
  | 12 => .int
  | _ => .int
set_option maxRecDepth 100000 in
theorem n_Ch : ∀ a, a < 14 → ∀ b, b < 14 → a ≠ b → (F_Ch a).2.1 ≠ (F_Ch b).2.1 := by decide +kernel
set_option maxRecDepth 100000 in
theorem t_Ch_ok : ∀ k, k < 14 → parseFieldDescriptor (F_Ch k).2.2.1 = some (t_Ch k) := by decide +kernel
set_option maxRecDepth 100000 in
theorem zz_df_Ch : ∀ j, j < 14 → defaultValue (t_Ch j) = vp_V [.null, .null, .null, .null, .null, .null, .null, .null, .null, .int 0, .int 0, .int 0, .int 0, .int 0] j := by decide +kernel
def F_St : u_T := fun k => match k with
  | 0 => (R_St, "kind", "[I", true)
  | 1 => (R_St, "map", "[I", true)
  | 2 => (R_St, "tag", "[I", true)
  | 3 => (R_St, "low", "[J", true)
  | 4 => (R_St, "high", "[J", true)
  | 5 => (R_St, "data", "[I", true)
  | 6 => (R_St, "length", "I", false)
  | _ => (R_St, "at", "I", false)
def t_St : Nat → FieldType := fun k => match k with
  | 0 => (.array .int)
  | 1 => (.array .int)
  | 2 => (.array .int)
  | 3 => (.array .long)
  | 4 => (.array .long)
  | 5 => (.array .int)
  | 6 => .int
  | _ => .int
set_option maxRecDepth 100000 in
theorem n_St : ∀ a, a < 8 → ∀ b, b < 8 → a ≠ b → (F_St a).2.1 ≠ (F_St b).2.1 := by decide +kernel
set_option maxRecDepth 100000 in
theorem t_St_ok : ∀ k, k < 8 → parseFieldDescriptor (F_St k).2.2.1 = some (t_St k) := by decide +kernel
set_option maxRecDepth 100000 in
theorem zz_df_St : ∀ j, j < 8 → defaultValue (t_St j) = vp_V [.null, .null, .null, .null, .null, .null, .int 0, .int 0] j := by decide +kernel
def F_Ra : u_T := fun k => match k with
  | 0 => (R_Ra, "low", "J", false)
  | _ => (R_Ra, "high", "J", false)
def t_Ra : Nat → FieldType := fun k => match k with
  | 0 => .long
  | _ => .long
set_option maxRecDepth 100000 in
theorem n_Ra : ∀ a, a < 2 → ∀ b, b < 2 → a ≠ b → (F_Ra a).2.1 ≠ (F_Ra b).2.1 := by decide +kernel
set_option maxRecDepth 100000 in
theorem t_Ra_ok : ∀ k, k < 2 → parseFieldDescriptor (F_Ra k).2.2.1 = some (t_Ra k) := by decide +kernel
set_option maxRecDepth 100000 in
theorem zz_df_Ra : ∀ j, j < 2 → defaultValue (t_Ra j) = vp_V [.long 0, .long 0] j := by decide +kernel
def F_Ru : u_T := fun k => match k with
  | 0 => (R_Ru, "program", "LFilterGuard$Program;", true)
  | 1 => (R_Ru, "foretold", "LFilterGuard$Foretold;", true)
  | 2 => (R_Ru, "memory", "LFilterGuard$Memory;", true)
  | 3 => (R_Ru, "register", "[J", true)
  | 4 => (R_Ru, "kind", "[I", true)
  | 5 => (R_Ru, "log", "[J", true)
  | 6 => (R_Ru, "logged", "I", false)
  | 7 => (R_Ru, "done", "I", false)
  | 8 => (R_Ru, "chance", "J", false)
  | 9 => (R_Ru, "at", "I", false)
  | 10 => (R_Ru, "looks", "I", false)
  | _ => (R_Ru, "unforetold", "I", false)
def t_Ru : Nat → FieldType := fun k => match k with
  | 0 => (.object R_Pr)
  | 1 => (.object R_Fo)
  | 2 => (.object R_Me)
  | 3 => (.array .long)
  | 4 => (.array .int)
  | 5 => (.array .long)
  | 6 => .int
  | 7 => .int
  | 8 => .long
  | 9 => .int
  | 10 => .int
  | _ => .int
set_option maxRecDepth 100000 in
theorem n_Ru : ∀ a, a < 12 → ∀ b, b < 12 → a ≠ b → (F_Ru a).2.1 ≠ (F_Ru b).2.1 := by decide +kernel
set_option maxRecDepth 100000 in
theorem t_Ru_ok : ∀ k, k < 12 → parseFieldDescriptor (F_Ru k).2.2.1 = some (t_Ru k) := by decide +kernel
set_option maxRecDepth 100000 in
theorem zz_df_Ru : ∀ j, j < 12 → defaultValue (t_Ru j) = vp_V [.null, .null, .null, .null, .null, .null, .int 0, .int 0, .long 0, .int 0, .int 0, .int 0] j := by decide +kernel
def F_Mo : u_T := fun k => match k with
  | 0 => (R_Mo, "thrown", "I", false)
  | 1 => (R_Mo, "sort", "[I", true)
  | 2 => (R_Mo, "dst", "[I", true)
  | 3 => (R_Mo, "src", "[I", true)
  | 4 => (R_Mo, "off", "[I", true)
  | 5 => (R_Mo, "imm", "[I", true)
  | 6 => (R_Mo, "many", "I", false)
  | 7 => (R_Mo, "passed", "Z", false)
  | 8 => (R_Mo, "keyBytes", "[I", true)
  | 9 => (R_Mo, "valueBytes", "[I", true)
  | 10 => (R_Mo, "places", "[I", true)
  | 11 => (R_Mo, "maps", "I", false)
  | 12 => (R_Mo, "fault", "I", false)
  | 13 => (R_Mo, "faultAt", "I", false)
  | 14 => (R_Mo, "gone", "I", false)
  | 15 => (R_Mo, "kind", "[I", true)
  | 16 => (R_Mo, "mapOf", "[I", true)
  | 17 => (R_Mo, "tag", "[I", true)
  | 18 => (R_Mo, "low", "[J", true)
  | 19 => (R_Mo, "high", "[J", true)
  | 20 => (R_Mo, "stack", "[I", true)
  | 21 => (R_Mo, "length", "[I", true)
  | 22 => (R_Mo, "goesTo", "[I", true)
  | 23 => (R_Mo, "sides", "I", false)
  | 24 => (R_Mo, "tags", "I", false)
  | 25 => (R_Mo, "times", "[I", true)
  | 26 => (R_Mo, "seen", "[I", true)
  | 27 => (R_Mo, "leastLow", "[J", true)
  | 28 => (R_Mo, "mostHigh", "[J", true)
  | 29 => (R_Mo, "a", "J", false)
  | 30 => (R_Mo, "b", "J", false)
  | 31 => (R_Mo, "fits", "Z", false)
  | 32 => (R_Mo, "xl", "J", false)
  | 33 => (R_Mo, "xh", "J", false)
  | 34 => (R_Mo, "yl", "J", false)
  | 35 => (R_Mo, "yh", "J", false)
  | 36 => (R_Mo, "next", "Z", false)
  | 37 => (R_Mo, "other", "Z", false)
  | 38 => (R_Mo, "waits", "I", false)
  | 39 => (R_Mo, "to", "I", false)
  | 40 => (R_Mo, "packet", "[B", true)
  | 41 => (R_Mo, "packetEnd", "I", false)
  | 42 => (R_Mo, "data", "[B", true)
  | 43 => (R_Mo, "full", "[Z", true)
  | 44 => (R_Mo, "seed", "J", false)
  | 45 => (R_Mo, "log", "[J", true)
  | 46 => (R_Mo, "logged", "I", false)
  | 47 => (R_Mo, "done", "I", false)
  | 48 => (R_Mo, "wrong", "I", false)
  | 49 => (R_Mo, "is", "[I", true)
  | 50 => (R_Mo, "ofMap", "[I", true)
  | 51 => (R_Mo, "ofPlace", "[I", true)
  | 52 => (R_Mo, "ofTag", "[I", true)
  | 53 => (R_Mo, "is64", "[J", true)
  | 54 => (R_Mo, "own", "[B", true)
  | _ => (R_Mo, "runTags", "I", false)
def t_Mo : Nat → FieldType := fun k => match k with
  | 0 => .int
  | 1 => (.array .int)
  | 2 => (.array .int)
  | 3 => (.array .int)
  | 4 => (.array .int)
  | 5 => (.array .int)
  | 6 => .int
  | 7 => .boolean
  | 8 => (.array .int)
  | 9 => (.array .int)
  | 10 => (.array .int)
  | 11 => .int
  | 12 => .int
  | 13 => .int
  | 14 => .int
  | 15 => (.array .int)
  | 16 => (.array .int)
  | 17 => (.array .int)
  | 18 => (.array .long)
  | 19 => (.array .long)
  | 20 => (.array .int)
  | 21 => (.array .int)
  | 22 => (.array .int)
  | 23 => .int
  | 24 => .int
  | 25 => (.array .int)
  | 26 => (.array .int)
  | 27 => (.array .long)
  | 28 => (.array .long)
  | 29 => .long
  | 30 => .long
  | 31 => .boolean
  | 32 => .long
  | 33 => .long
  | 34 => .long
  | 35 => .long
  | 36 => .boolean
  | 37 => .boolean
  | 38 => .int
  | 39 => .int
  | 40 => (.array .byte)
  | 41 => .int
  | 42 => (.array .byte)
  | 43 => (.array .boolean)
  | 44 => .long
  | 45 => (.array .long)
  | 46 => .int
  | 47 => .int
  | 48 => .int
  | 49 => (.array .int)
  | 50 => (.array .int)
  | 51 => (.array .int)
  | 52 => (.array .int)
  | 53 => (.array .long)
  | 54 => (.array .byte)
  | _ => .int
set_option maxRecDepth 100000 in
theorem n_Mo : ∀ a, a < 56 → ∀ b, b < 56 → a ≠ b → (F_Mo a).2.1 ≠ (F_Mo b).2.1 := by decide +kernel
set_option maxRecDepth 100000 in
theorem t_Mo_ok : ∀ k, k < 56 → parseFieldDescriptor (F_Mo k).2.2.1 = some (t_Mo k) := by decide +kernel
set_option maxRecDepth 100000 in
theorem zz_df_Mo : ∀ j, j < 56 → defaultValue (t_Mo j) = vp_V [.int 0, .null, .null, .null, .null, .null, .int 0, .int 0, .null, .null, .null, .int 0, .int 0, .int 0, .int 0, .null, .null, .null, .null, .null, .null, .null, .null, .int 0, .int 0, .null, .null, .null, .null, .long 0, .long 0, .int 0, .long 0, .long 0, .long 0, .long 0, .int 0, .int 0, .int 0, .int 0, .null, .int 0, .null, .null, .long 0, .null, .int 0, .int 0, .int 0, .null, .null, .null, .null, .null, .null, .int 0] j := by decide +kernel
abbrev classes : List vw_C := [(R_FG, F_FG, 7), (R_Pr, F_Pr, 6), (R_Ma, F_Ma, 8), (R_Me, F_Me, 5), (R_Fo, F_Fo, 4), (R_Ch, F_Ch, 14), (R_St, F_St, 8), (R_Ra, F_Ra, 2), (R_Ru, F_Ru, 12), (R_Mo, F_Mo, 56)]
abbrev y_FG_within : MethodName := ⟨R_FG, "within", "(III)Z"⟩
abbrev y_Ra_init : MethodName := ⟨R_Ra, "<init>", "()V"⟩
abbrev y_St_init : MethodName := ⟨R_St, "<init>", "()V"⟩
abbrev y_Pr_init : MethodName := ⟨R_Pr, "<init>", "()V"⟩
abbrev y_Ma_init : MethodName := ⟨R_Ma, "<init>", "()V"⟩
abbrev y_Me_init : MethodName := ⟨R_Me, "<init>", "(LFilterGuard$Maps;)V"⟩
abbrev y_Fo_init : MethodName := ⟨R_Fo, "<init>", "()V"⟩
abbrev y_Ru_init : MethodName := ⟨R_Ru, "<init>", "(LFilterGuard$Program;LFilterGuard$Foretold;LFilterGuard$Memory;)V"⟩
abbrev y_Ch_init : MethodName := ⟨R_Ch, "<init>", "(LFilterGuard$Program;LFilterGuard$Maps;LFilterGuard$Foretold;)V"⟩
abbrev y_FG_init : MethodName := ⟨R_FG, "<init>", "()V"⟩
abbrev y_Mo_init : MethodName := ⟨R_Mo, "<init>", "()V"⟩
abbrev y_Mo_no : MethodName := ⟨R_Mo, "no", "(I)I"⟩
set_option maxRecDepth 1000000 in
theorem lw_p0 : lw_okq (y_Mo_no, 56) := ⟨⟨by decide +kernel, by decide +kernel⟩, List.mem_of_getElem? (i := 1092) rfl, List.mem_of_getElem? (i := 1275) rfl, List.mem_of_getElem? (i := 1276) rfl⟩
def lw_privs : List (MethodName × Nat) := [(y_Mo_no, 56)]
theorem lw_privs_ok : ∀ q ∈ lw_privs, lw_okq q := by
  intro q hq
  simp only [lw_privs, List.mem_cons, List.not_mem_nil, or_false] at hq
  rcases hq with rfl
  exact lw_p0
def lw_tbl : List Cond := k2_sels lw_privs ++ tables_1
/-- the words that every contract takes along -/
def zz_W1 : List Cond := [.initialized R_Pr, .initialized R_Ma, .initialized R_Me, .initialized R_Fo, .initialized R_Ch, .initialized R_St, .initialized R_Ra, .initialized R_Ru, .initialized "java/lang/Throwable", .initialized "java/lang/Exception", .initialized "java/lang/RuntimeException", .initialized "java/lang/IllegalArgumentException", .initialized "java/lang/IllegalStateException", .initialized "java/lang/IndexOutOfBoundsException", .initialized "java/util/NoSuchElementException", .code y_FG_init prog_1_method_1_code 1 none, .methodLink R_FG 3 (⟨"java/lang/Object", "<init>", "()V"⟩ : MethodName), .instanceMethod (⟨"java/lang/Object", "<init>", "()V"⟩ : MethodName), .code (⟨"java/lang/Object", "<init>", "()V"⟩ : MethodName) object_method_1_code 1 none, .classLink R_FG 9 R_Pr, .instantiable R_Pr 6, .instanceMethod y_Pr_init, .code y_Pr_init prog_7_method_1_code 1 none, .methodLink R_Pr 3 (⟨"java/lang/Object", "<init>", "()V"⟩ : MethodName), .fieldLink R_Pr 9 R_Pr "sort" "[I", .fieldLink R_Pr 15 R_Pr "dst" "[I", .fieldLink R_Pr 18 R_Pr "src" "[I", .fieldLink R_Pr 21 R_Pr "off" "[I", .fieldLink R_Pr 24 R_Pr "imm" "[I", .laysFinal R_Pr R_Pr "sort" "[I", .laysFinal R_Pr R_Pr "dst" "[I", .laysFinal R_Pr R_Pr "src" "[I", .laysFinal R_Pr R_Pr "off" "[I", .laysFinal R_Pr R_Pr "imm" "[I", .lays R_Pr R_Pr "size" "I", .arrayClass .int, .classLink R_FG 16 R_Ma, .instantiable R_Ma 8, .instanceMethod y_Ma_init, .code y_Ma_init prog_5_method_1_code 1 none, .methodLink R_Ma 3 (⟨"java/lang/Object", "<init>", "()V"⟩ : MethodName), .fieldLink R_Ma 9 R_Ma "keyBytes" "[I", .fieldLink R_Ma 15 R_Ma "valueBytes" "[I", .fieldLink R_Ma 18 R_Ma "values" "[B", .fieldLink R_Ma 22 R_Ma "sought" "[B", .fieldLink R_Ma 25 R_Ma "places" "[I", .fieldLink R_Ma 28 R_Ma "taken" "[Z", .fieldLink R_Ma 32 R_Ma "keys" "[B", .laysFinal R_Ma R_Ma "keyBytes" "[I", .laysFinal R_Ma R_Ma "valueBytes" "[I", .laysFinal R_Ma R_Ma "values" "[B", .laysFinal R_Ma R_Ma "sought" "[B", .laysFinal R_Ma R_Ma "places" "[I", .laysFinal R_Ma R_Ma "taken" "[Z", .laysFinal R_Ma R_Ma "keys" "[B", .lays R_Ma R_Ma "size" "I", .arrayClass .byte, .arrayClass .boolean, .classLink R_FG 23 R_Me, .instantiable R_Me 5, .methodLink R_FG 25 y_Me_init, .instanceMethod y_Me_init, .code y_Me_init prog_6_method_1_code 2 none, .methodLink R_Me 3 (⟨"java/lang/Object", "<init>", "()V"⟩ : MethodName), .fieldLink R_Me 18 R_Me "maps" "LFilterGuard$Maps;", .fieldLink R_Me 9 R_Me "packet" "[B", .fieldLink R_Me 15 R_Me "stack" "[B", .laysFinal R_Me R_Me "maps" "LFilterGuard$Maps;", .laysFinal R_Me R_Me "packet" "[B", .laysFinal R_Me R_Me "stack" "[B", .lays R_Me R_Me "packetLength" "I", .lays R_Me R_Me "strays" "I", .classLink R_FG 32 R_Fo, .instantiable R_Fo 4, .instanceMethod y_Fo_init, .code y_Fo_init prog_4_method_1_code 1 none, .methodLink R_Fo 3 (⟨"java/lang/Object", "<init>", "()V"⟩ : MethodName), .fieldLink R_Fo 9 R_Fo "gone" "[I", .fieldLink R_Fo 15 R_Fo "number" "[Z", .fieldLink R_Fo 19 R_Fo "low" "[J", .fieldLink R_Fo 23 R_Fo "high" "[J", .laysFinal R_Fo R_Fo "gone" "[I", .laysFinal R_Fo R_Fo "number" "[Z", .laysFinal R_Fo R_Fo "low" "[J", .laysFinal R_Fo R_Fo "high" "[J", .arrayClass .long, .classLink R_FG 39 R_Ch, .instantiable R_Ch 14, .methodLink R_FG 41 y_Ch_init, .instanceMethod y_Ch_init, .code y_Ch_init prog_3_method_1_code 5 none, .methodLink R_Ch 3 (⟨"java/lang/Object", "<init>", "()V"⟩ : MethodName), .classLink R_Ch 9 R_St, .instantiable R_St 8, .instanceMethod y_St_init, .code y_St_init prog_12_method_1_code 1 none, .methodLink R_St 3 (⟨"java/lang/Object", "<init>", "()V"⟩ : MethodName), .fieldLink R_St 9 R_St "kind" "[I", .fieldLink R_St 15 R_St "map" "[I", .fieldLink R_St 18 R_St "tag" "[I", .fieldLink R_St 21 R_St "low" "[J", .fieldLink R_St 25 R_St "high" "[J", .fieldLink R_St 28 R_St "data" "[I", .laysFinal R_St R_St "kind" "[I", .laysFinal R_St R_St "map" "[I", .laysFinal R_St R_St "tag" "[I", .laysFinal R_St R_St "low" "[J", .laysFinal R_St R_St "high" "[J", .laysFinal R_St R_St "data" "[I", .lays R_St R_St "length" "I", .lays R_St R_St "at" "I", .classLink R_Ch 25 R_Ra, .instantiable R_Ra 2, .instanceMethod y_Ra_init, .code y_Ra_init prog_8_method_1_code 1 none, .methodLink R_Ra 3 (⟨"java/lang/Object", "<init>", "()V"⟩ : MethodName), .lays R_Ra R_Ra "low" "J", .lays R_Ra R_Ra "high" "J", .fieldLink R_Ch 38 R_Ch "program" "LFilterGuard$Program;", .fieldLink R_Ch 42 R_Ch "maps" "LFilterGuard$Maps;", .fieldLink R_Ch 46 R_Ch "foretold" "LFilterGuard$Foretold;", .fieldLink R_Ch 12 R_Ch "now" "LFilterGuard$State;", .fieldLink R_Ch 18 R_Ch "other" "LFilterGuard$State;", .fieldLink R_Ch 21 R_Ch "waiting" "[LFilterGuard$State;", .fieldLink R_Ch 28 R_Ch "x" "LFilterGuard$Range;", .fieldLink R_Ch 32 R_Ch "y" "LFilterGuard$Range;", .fieldLink R_Ch 35 R_Ch "z" "LFilterGuard$Range;", .fieldLink R_Ch 50 R_Ch "faultAt" "I", .laysFinal R_Ch R_Ch "program" "LFilterGuard$Program;", .laysFinal R_Ch R_Ch "maps" "LFilterGuard$Maps;", .laysFinal R_Ch R_Ch "foretold" "LFilterGuard$Foretold;", .laysFinal R_Ch R_Ch "now" "LFilterGuard$State;", .laysFinal R_Ch R_Ch "other" "LFilterGuard$State;", .laysFinal R_Ch R_Ch "waiting" "[LFilterGuard$State;", .laysFinal R_Ch R_Ch "x" "LFilterGuard$Range;", .laysFinal R_Ch R_Ch "y" "LFilterGuard$Range;", .laysFinal R_Ch R_Ch "z" "LFilterGuard$Range;", .lays R_Ch R_Ch "waits" "I", .lays R_Ch R_Ch "tags" "I", .lays R_Ch R_Ch "gone" "I", .lays R_Ch R_Ch "fault" "I", .lays R_Ch R_Ch "faultAt" "I", .classLink R_FG 48 R_Ru, .instantiable R_Ru 12, .methodLink R_FG 50 y_Ru_init, .instanceMethod y_Ru_init, .code y_Ru_init prog_10_method_1_code 4 none, .methodLink R_Ru 3 (⟨"java/lang/Object", "<init>", "()V"⟩ : MethodName), .fieldLink R_Ru 22 R_Ru "program" "LFilterGuard$Program;", .fieldLink R_Ru 26 R_Ru "foretold" "LFilterGuard$Foretold;", .fieldLink R_Ru 30 R_Ru "memory" "LFilterGuard$Memory;", .fieldLink R_Ru 9 R_Ru "register" "[J", .fieldLink R_Ru 15 R_Ru "kind" "[I", .fieldLink R_Ru 19 R_Ru "log" "[J", .laysFinal R_Ru R_Ru "program" "LFilterGuard$Program;", .laysFinal R_Ru R_Ru "foretold" "LFilterGuard$Foretold;", .laysFinal R_Ru R_Ru "memory" "LFilterGuard$Memory;", .laysFinal R_Ru R_Ru "register" "[J", .laysFinal R_Ru R_Ru "kind" "[I", .laysFinal R_Ru R_Ru "log" "[J", .lays R_Ru R_Ru "logged" "I", .lays R_Ru R_Ru "done" "I", .lays R_Ru R_Ru "chance" "J", .lays R_Ru R_Ru "at" "I", .lays R_Ru R_Ru "looks" "I", .lays R_Ru R_Ru "unforetold" "I", .fieldLink R_FG 12 R_FG "program" "LFilterGuard$Program;", .fieldLink R_FG 19 R_FG "maps" "LFilterGuard$Maps;", .fieldLink R_FG 28 R_FG "memory" "LFilterGuard$Memory;", .fieldLink R_FG 35 R_FG "foretold" "LFilterGuard$Foretold;", .fieldLink R_FG 44 R_FG "checker" "LFilterGuard$Checker;", .fieldLink R_FG 53 R_FG "runner" "LFilterGuard$Runner;", .fieldLink R_FG 57 R_FG "passed" "Z", .laysFinal R_FG R_FG "program" "LFilterGuard$Program;", .laysFinal R_FG R_FG "maps" "LFilterGuard$Maps;", .laysFinal R_FG R_FG "memory" "LFilterGuard$Memory;", .laysFinal R_FG R_FG "foretold" "LFilterGuard$Foretold;", .laysFinal R_FG R_FG "checker" "LFilterGuard$Checker;", .laysFinal R_FG R_FG "runner" "LFilterGuard$Runner;", .lays R_FG R_FG "passed" "Z", .classLink R_La 13 "java/lang/IllegalArgumentException", .classLink R_La 15 "java/lang/IllegalStateException", .code y_FG_within prog_1_method_15_code 3 (some .boolean), .classLink R_FG 65 "java/lang/IllegalArgumentException", .instantiable "java/lang/IllegalArgumentException" 6, .selects "java/lang/IllegalArgumentException" (⟨"java/lang/Throwable", "fillInStackTrace", "(I)Ljava/lang/Throwable;"⟩ : MethodName) (⟨"java/lang/Throwable", "fillInStackTrace", "(I)Ljava/lang/Throwable;"⟩ : MethodName), .selects "java/lang/IllegalArgumentException" (⟨"java/lang/Throwable", "fillInStackTrace", "()Ljava/lang/Throwable;"⟩ : MethodName) (⟨"java/lang/Throwable", "fillInStackTrace", "()Ljava/lang/Throwable;"⟩ : MethodName), .lays "java/lang/IllegalArgumentException" "java/lang/Throwable" "cause" "Ljava/lang/Throwable;", .lays "java/lang/Throwable" "java/lang/Throwable" "cause" "Ljava/lang/Throwable;", .lays "java/lang/IllegalArgumentException" "java/lang/Throwable" "stackTrace" "[Ljava/lang/StackTraceElement;", .lays "java/lang/Throwable" "java/lang/Throwable" "stackTrace" "[Ljava/lang/StackTraceElement;", .lays "java/lang/IllegalArgumentException" "java/lang/Throwable" "suppressedExceptions" "Ljava/util/List;", .lays "java/lang/Throwable" "java/lang/Throwable" "suppressedExceptions" "Ljava/util/List;", .lays "java/lang/IllegalArgumentException" "java/lang/Throwable" "detailMessage" "Ljava/lang/String;", .lays "java/lang/Throwable" "java/lang/Throwable" "detailMessage" "Ljava/lang/String;", .lays "java/lang/IllegalArgumentException" "java/lang/Throwable" "backtrace" "Ljava/lang/Object;", .lays "java/lang/Throwable" "java/lang/Throwable" "backtrace" "Ljava/lang/Object;", .fieldLink "java/lang/Throwable" 198 "java/lang/Throwable" "backtrace" "Ljava/lang/Object;", .superclass "java/lang/Throwable" "java/lang/Object", .instanceMethod (⟨"java/lang/Throwable", "<init>", "()V"⟩ : MethodName), .code (⟨"java/lang/Throwable", "<init>", "()V"⟩ : MethodName) prog_26_method_1_code 1 none, .methodLink "java/lang/Throwable" 1 (⟨"java/lang/Object", "<init>", "()V"⟩ : MethodName), .fieldLink "java/lang/Throwable" 13 "java/lang/Throwable" "UNASSIGNED_STACK" "[Ljava/lang/StackTraceElement;", .fieldLink "java/lang/Throwable" 20 "java/lang/Throwable" "SUPPRESSED_SENTINEL" "Ljava/util/List;", .methodLink "java/lang/Throwable" 27 (⟨"java/lang/Throwable", "fillInStackTrace", "()Ljava/lang/Throwable;"⟩ : MethodName), .instanceMethod (⟨"java/lang/Throwable", "fillInStackTrace", "()Ljava/lang/Throwable;"⟩ : MethodName), .selects "java/lang/IllegalStateException" (⟨"java/lang/Throwable", "fillInStackTrace", "()Ljava/lang/Throwable;"⟩ : MethodName) (⟨"java/lang/Throwable", "fillInStackTrace", "()Ljava/lang/Throwable;"⟩ : MethodName), .selects "java/lang/IndexOutOfBoundsException" (⟨"java/lang/Throwable", "fillInStackTrace", "()Ljava/lang/Throwable;"⟩ : MethodName) (⟨"java/lang/Throwable", "fillInStackTrace", "()Ljava/lang/Throwable;"⟩ : MethodName), .selects "java/util/NoSuchElementException" (⟨"java/lang/Throwable", "fillInStackTrace", "()Ljava/lang/Throwable;"⟩ : MethodName) (⟨"java/lang/Throwable", "fillInStackTrace", "()Ljava/lang/Throwable;"⟩ : MethodName), .codeSync (⟨"java/lang/Throwable", "fillInStackTrace", "()Ljava/lang/Throwable;"⟩ : MethodName) prog_26_method_18_code 1 (some (.object "java/lang/Throwable")), .methodLink "java/lang/Throwable" 202 (⟨"java/lang/Throwable", "fillInStackTrace", "(I)Ljava/lang/Throwable;"⟩ : MethodName), .instanceMethod (⟨"java/lang/Throwable", "fillInStackTrace", "(I)Ljava/lang/Throwable;"⟩ : MethodName), .instantiable "java/lang/Throwable" 6, .native (⟨"java/lang/Throwable", "fillInStackTrace", "(I)Ljava/lang/Throwable;"⟩ : MethodName), .methodLink R_FG 69 (⟨"java/lang/IllegalArgumentException", "<init>", "(Ljava/lang/String;)V"⟩ : MethodName), .instanceMethod (⟨"java/lang/IllegalArgumentException", "<init>", "(Ljava/lang/String;)V"⟩ : MethodName), .code (⟨"java/lang/IllegalArgumentException", "<init>", "(Ljava/lang/String;)V"⟩ : MethodName) prog_17_method_2_code 2 none, .methodLink "java/lang/IllegalArgumentException" 7 (⟨"java/lang/RuntimeException", "<init>", "(Ljava/lang/String;)V"⟩ : MethodName), .instanceMethod (⟨"java/lang/RuntimeException", "<init>", "(Ljava/lang/String;)V"⟩ : MethodName), .code (⟨"java/lang/RuntimeException", "<init>", "(Ljava/lang/String;)V"⟩ : MethodName) prog_23_method_2_code 2 none, .methodLink "java/lang/RuntimeException" 7 (⟨"java/lang/Exception", "<init>", "(Ljava/lang/String;)V"⟩ : MethodName), .instanceMethod (⟨"java/lang/Exception", "<init>", "(Ljava/lang/String;)V"⟩ : MethodName), .code (⟨"java/lang/Exception", "<init>", "(Ljava/lang/String;)V"⟩ : MethodName) prog_16_method_2_code 2 none, .methodLink "java/lang/Exception" 7 (⟨"java/lang/Throwable", "<init>", "(Ljava/lang/String;)V"⟩ : MethodName), .instanceMethod (⟨"java/lang/Throwable", "<init>", "(Ljava/lang/String;)V"⟩ : MethodName), .code (⟨"java/lang/Throwable", "<init>", "(Ljava/lang/String;)V"⟩ : MethodName) prog_26_method_2_code 2 none, .fieldLink "java/lang/Throwable" 198 "java/lang/Throwable" "backtrace" "Ljava/lang/Object;", .fieldLink "java/lang/Throwable" 31 "java/lang/Throwable" "detailMessage" "Ljava/lang/String;", .fieldLink "java/lang/Throwable" 7 "java/lang/Throwable" "cause" "Ljava/lang/Throwable;", .fieldLink "java/lang/Throwable" 17 "java/lang/Throwable" "stackTrace" "[Ljava/lang/StackTraceElement;", .fieldLink "java/lang/Throwable" 24 "java/lang/Throwable" "suppressedExceptions" "Ljava/util/List;", .superclass "java/lang/IllegalArgumentException" "java/lang/RuntimeException", .classLink R_FG 76 "java/lang/IllegalStateException", .instantiable "java/lang/IllegalStateException" 6, .selects "java/lang/IllegalStateException" (⟨"java/lang/Throwable", "fillInStackTrace", "(I)Ljava/lang/Throwable;"⟩ : MethodName) (⟨"java/lang/Throwable", "fillInStackTrace", "(I)Ljava/lang/Throwable;"⟩ : MethodName), .lays "java/lang/IllegalStateException" "java/lang/Throwable" "cause" "Ljava/lang/Throwable;", .lays "java/lang/IllegalStateException" "java/lang/Throwable" "stackTrace" "[Ljava/lang/StackTraceElement;", .lays "java/lang/IllegalStateException" "java/lang/Throwable" "suppressedExceptions" "Ljava/util/List;", .lays "java/lang/IllegalStateException" "java/lang/Throwable" "detailMessage" "Ljava/lang/String;", .lays "java/lang/IllegalStateException" "java/lang/Throwable" "backtrace" "Ljava/lang/Object;", .methodLink R_FG 80 (⟨"java/lang/IllegalStateException", "<init>", "(Ljava/lang/String;)V"⟩ : MethodName), .instanceMethod (⟨"java/lang/IllegalStateException", "<init>", "(Ljava/lang/String;)V"⟩ : MethodName), .code (⟨"java/lang/IllegalStateException", "<init>", "(Ljava/lang/String;)V"⟩ : MethodName) prog_18_method_2_code 2 none, .methodLink "java/lang/IllegalStateException" 7 (⟨"java/lang/RuntimeException", "<init>", "(Ljava/lang/String;)V"⟩ : MethodName), .superclass "java/lang/IllegalStateException" "java/lang/RuntimeException", .classLink R_La 28 "java/lang/IndexOutOfBoundsException", .classLink R_FG 105 "java/lang/IndexOutOfBoundsException", .instantiable "java/lang/IndexOutOfBoundsException" 6, .selects "java/lang/IndexOutOfBoundsException" (⟨"java/lang/Throwable", "fillInStackTrace", "(I)Ljava/lang/Throwable;"⟩ : MethodName) (⟨"java/lang/Throwable", "fillInStackTrace", "(I)Ljava/lang/Throwable;"⟩ : MethodName), .lays "java/lang/IndexOutOfBoundsException" "java/lang/Throwable" "cause" "Ljava/lang/Throwable;", .lays "java/lang/IndexOutOfBoundsException" "java/lang/Throwable" "stackTrace" "[Ljava/lang/StackTraceElement;", .lays "java/lang/IndexOutOfBoundsException" "java/lang/Throwable" "suppressedExceptions" "Ljava/util/List;", .lays "java/lang/IndexOutOfBoundsException" "java/lang/Throwable" "detailMessage" "Ljava/lang/String;", .lays "java/lang/IndexOutOfBoundsException" "java/lang/Throwable" "backtrace" "Ljava/lang/Object;", .methodLink R_FG 109 (⟨"java/lang/IndexOutOfBoundsException", "<init>", "(Ljava/lang/String;)V"⟩ : MethodName), .instanceMethod (⟨"java/lang/IndexOutOfBoundsException", "<init>", "(Ljava/lang/String;)V"⟩ : MethodName), .code (⟨"java/lang/IndexOutOfBoundsException", "<init>", "(Ljava/lang/String;)V"⟩ : MethodName) prog_19_method_2_code 2 none, .methodLink "java/lang/IndexOutOfBoundsException" 7 (⟨"java/lang/RuntimeException", "<init>", "(Ljava/lang/String;)V"⟩ : MethodName), .superclass "java/lang/IndexOutOfBoundsException" "java/lang/RuntimeException", .classLink R_La 41 "java/util/NoSuchElementException", .classLink R_FG 126 "java/util/NoSuchElementException", .instantiable "java/util/NoSuchElementException" 6, .selects "java/util/NoSuchElementException" (⟨"java/lang/Throwable", "fillInStackTrace", "(I)Ljava/lang/Throwable;"⟩ : MethodName) (⟨"java/lang/Throwable", "fillInStackTrace", "(I)Ljava/lang/Throwable;"⟩ : MethodName), .lays "java/util/NoSuchElementException" "java/lang/Throwable" "cause" "Ljava/lang/Throwable;", .lays "java/util/NoSuchElementException" "java/lang/Throwable" "stackTrace" "[Ljava/lang/StackTraceElement;", .lays "java/util/NoSuchElementException" "java/lang/Throwable" "suppressedExceptions" "Ljava/util/List;", .lays "java/util/NoSuchElementException" "java/lang/Throwable" "detailMessage" "Ljava/lang/String;", .lays "java/util/NoSuchElementException" "java/lang/Throwable" "backtrace" "Ljava/lang/Object;", .methodLink R_FG 130 (⟨"java/util/NoSuchElementException", "<init>", "(Ljava/lang/String;)V"⟩ : MethodName), .instanceMethod (⟨"java/util/NoSuchElementException", "<init>", "(Ljava/lang/String;)V"⟩ : MethodName), .code (⟨"java/util/NoSuchElementException", "<init>", "(Ljava/lang/String;)V"⟩ : MethodName) prog_28_method_4_code 2 none, .methodLink "java/util/NoSuchElementException" 13 (⟨"java/lang/RuntimeException", "<init>", "(Ljava/lang/String;)V"⟩ : MethodName), .superclass "java/util/NoSuchElementException" "java/lang/RuntimeException", .code y_Mo_init prog_14_method_1_code 1 none, .methodLink R_Mo 5 (⟨"java/lang/Object", "<init>", "()V"⟩ : MethodName), .fieldLink R_Mo 11 R_Mo "sort" "[I", .fieldLink R_Mo 15 R_Mo "dst" "[I", .fieldLink R_Mo 18 R_Mo "src" "[I", .fieldLink R_Mo 21 R_Mo "off" "[I", .fieldLink R_Mo 24 R_Mo "imm" "[I", .fieldLink R_Mo 27 R_Mo "keyBytes" "[I", .fieldLink R_Mo 30 R_Mo "valueBytes" "[I", .fieldLink R_Mo 33 R_Mo "places" "[I", .fieldLink R_Mo 36 R_Mo "faultAt" "I", .fieldLink R_Mo 40 R_Mo "kind" "[I", .fieldLink R_Mo 43 R_Mo "mapOf" "[I", .fieldLink R_Mo 46 R_Mo "tag" "[I", .fieldLink R_Mo 49 R_Mo "low" "[J", .fieldLink R_Mo 53 R_Mo "high" "[J", .fieldLink R_Mo 56 R_Mo "stack" "[I", .fieldLink R_Mo 59 R_Mo "length" "[I", .fieldLink R_Mo 62 R_Mo "goesTo" "[I", .fieldLink R_Mo 65 R_Mo "times" "[I", .fieldLink R_Mo 68 R_Mo "seen" "[I", .fieldLink R_Mo 71 R_Mo "leastLow" "[J", .fieldLink R_Mo 74 R_Mo "mostHigh" "[J", .fieldLink R_Mo 77 R_Mo "packet" "[B", .fieldLink R_Mo 81 R_Mo "data" "[B", .fieldLink R_Mo 84 R_Mo "full" "[Z", .fieldLink R_Mo 88 R_Mo "log" "[J", .fieldLink R_Mo 91 R_Mo "is" "[I", .fieldLink R_Mo 94 R_Mo "ofMap" "[I", .fieldLink R_Mo 97 R_Mo "ofPlace" "[I", .fieldLink R_Mo 100 R_Mo "ofTag" "[I", .fieldLink R_Mo 103 R_Mo "is64" "[J", .fieldLink R_Mo 106 R_Mo "own" "[B", .lays R_Mo R_Mo "thrown" "I", .laysFinal R_Mo R_Mo "sort" "[I", .laysFinal R_Mo R_Mo "dst" "[I", .laysFinal R_Mo R_Mo "src" "[I", .laysFinal R_Mo R_Mo "off" "[I", .laysFinal R_Mo R_Mo "imm" "[I", .lays R_Mo R_Mo "many" "I", .lays R_Mo R_Mo "passed" "Z", .laysFinal R_Mo R_Mo "keyBytes" "[I", .laysFinal R_Mo R_Mo "valueBytes" "[I", .laysFinal R_Mo R_Mo "places" "[I", .lays R_Mo R_Mo "maps" "I", .lays R_Mo R_Mo "fault" "I", .lays R_Mo R_Mo "faultAt" "I", .lays R_Mo R_Mo "gone" "I", .laysFinal R_Mo R_Mo "kind" "[I", .laysFinal R_Mo R_Mo "mapOf" "[I", .laysFinal R_Mo R_Mo "tag" "[I", .laysFinal R_Mo R_Mo "low" "[J", .laysFinal R_Mo R_Mo "high" "[J", .laysFinal R_Mo R_Mo "stack" "[I", .laysFinal R_Mo R_Mo "length" "[I", .laysFinal R_Mo R_Mo "goesTo" "[I", .lays R_Mo R_Mo "sides" "I", .lays R_Mo R_Mo "tags" "I", .laysFinal R_Mo R_Mo "times" "[I", .laysFinal R_Mo R_Mo "seen" "[I", .laysFinal R_Mo R_Mo "leastLow" "[J", .laysFinal R_Mo R_Mo "mostHigh" "[J", .lays R_Mo R_Mo "a" "J", .lays R_Mo R_Mo "b" "J", .lays R_Mo R_Mo "fits" "Z", .lays R_Mo R_Mo "xl" "J", .lays R_Mo R_Mo "xh" "J", .lays R_Mo R_Mo "yl" "J", .lays R_Mo R_Mo "yh" "J", .lays R_Mo R_Mo "next" "Z", .lays R_Mo R_Mo "other" "Z", .lays R_Mo R_Mo "waits" "I", .lays R_Mo R_Mo "to" "I", .laysFinal R_Mo R_Mo "packet" "[B", .lays R_Mo R_Mo "packetEnd" "I", .laysFinal R_Mo R_Mo "data" "[B", .laysFinal R_Mo R_Mo "full" "[Z", .lays R_Mo R_Mo "seed" "J", .laysFinal R_Mo R_Mo "log" "[J", .lays R_Mo R_Mo "logged" "I", .lays R_Mo R_Mo "done" "I", .lays R_Mo R_Mo "wrong" "I", .laysFinal R_Mo R_Mo "is" "[I", .laysFinal R_Mo R_Mo "ofMap" "[I", .laysFinal R_Mo R_Mo "ofPlace" "[I", .laysFinal R_Mo R_Mo "ofTag" "[I", .laysFinal R_Mo R_Mo "is64" "[J", .laysFinal R_Mo R_Mo "own" "[B", .lays R_Mo R_Mo "runTags" "I"]
def zz_W : List Cond := [.selects R_Mo y_Mo_no y_Mo_no] ++ zz_W1
def zz_NT : List Cond := [.methodLinkNest R_FG 11 y_Pr_init R_FG, .methodLinkNest R_FG 18 y_Ma_init R_FG, .methodLinkNest R_FG 34 y_Fo_init R_FG, .methodLinkNest R_Ch 11 y_St_init R_FG, .methodLinkNest R_Ch 27 y_Ra_init R_FG, .castable "java/lang/IllegalArgumentException" "java/lang/IllegalArgumentException", .declares (⟨"java/lang/RuntimeException", "<init>", "(Ljava/lang/String;)V"⟩ : MethodName), .declares (⟨"java/lang/Exception", "<init>", "(Ljava/lang/String;)V"⟩ : MethodName), .declares (⟨"java/lang/Throwable", "<init>", "(Ljava/lang/String;)V"⟩ : MethodName), .castable "java/lang/IllegalStateException" "java/lang/IllegalStateException", .castable "java/lang/IndexOutOfBoundsException" "java/lang/IndexOutOfBoundsException", .castable "java/util/NoSuchElementException" "java/util/NoSuchElementException"]
set_option maxRecDepth 1000000 in
theorem zz_W1_eq : zz_W1 = ([2, 3, 4, 5, 6, 7, 8, 9, 11, 12, 13, 14, 15, 25, 26, 31, 32, 33, 34, 35, 36, 38, 39, 40, 41, 44, 47, 50, 53, 60, 62, 64, 66, 68, 70, 73, 74, 75, 77, 78, 79, 80, 84, 88, 91, 93, 94, 95, 100, 102, 104, 106, 108, 110, 112, 114, 117, 118, 119, 120, 121, 122, 123, 124, 125, 127, 129, 135, 137, 139, 141, 143, 146, 147, 149, 150, 151, 152, 153, 154, 155, 156, 158, 160, 162, 165, 166, 167, 168, 169, 170, 171, 172, 173, 175, 176, 177, 178, 180, 182, 184, 187, 190, 195, 197, 199, 201, 203, 205, 207, 209, 213, 214, 216, 217, 218, 225, 227, 230, 231, 232, 233, 234, 235, 236, 237, 238, 245, 247, 249, 251, 253, 255, 257, 259, 261, 263, 265, 267, 269, 271, 273, 276, 277, 278, 279, 280, 281, 282, 283, 284, 285, 286, 287, 298, 300, 302, 304, 306, 308, 310, 312, 314, 316, 318, 320, 323, 324, 325, 326, 327, 328, 329, 330, 332, 334, 336, 338, 340, 342, 379, 380, 387, 388, 389, 397, 398, 399, 400, 401, 402, 403, 404, 405, 406, 407, 408, 409, 410, 411, 412, 413, 414, 416, 418, 419, 422, 423, 424, 425, 426, 428, 429, 430, 432, 433, 434, 435, 436, 437, 438, 439, 440, 441, 442, 443, 444, 445, 446, 447, 448, 456, 457, 458, 460, 461, 462, 463, 464, 465, 467, 468, 469, 470, 472, 837, 842, 843, 845, 846, 847, 848, 849, 850, 852, 853, 854, 855, 857, 1031, 1036, 1037, 1039, 1040, 1041, 1042, 1043, 1044, 1046, 1047, 1048, 1049, 1051, 1095, 1096, 1098, 1099, 1100, 1101, 1102, 1105, 1106, 1107, 1110, 1112, 1113, 1114, 1115, 1116, 1117, 1118, 1119, 1122, 1123, 1124, 1125, 1137, 1139, 1140, 1142, 1146, 1147, 1148, 1149, 1150, 1151, 1153, 1155, 1157, 1159, 1161, 1163, 1165, 1167, 1169, 1171, 1173, 1175, 1177, 1179, 1181, 1183, 1185, 1187, 1189, 1191, 1193, 1195, 1197, 1199, 1201, 1203, 1205, 1207, 1209, 1211, 1213, 1215, 1217, 1219, 1221, 1223, 1225, 1227, 1229, 1231, 1233, 1235, 1237, 1239, 1241, 1243, 1245, 1247, 1249, 1251, 1253, 1255, 1257, 1259, 1261, 1263] : List Nat).filterMap (fun i => tables_1[i]?) := by rfl
theorem zz_W_in : ∀ w ∈ zz_W, w ∈ lw_tbl := by
  intro w hw
  rcases List.mem_append.mp hw with h | h
  · exact List.mem_append_left _ h
  · rw [zz_W1_eq] at h
    obtain ⟨i, -, hi⟩ := List.mem_filterMap.mp h
    exact List.mem_append_right _ (List.mem_of_getElem? hi)
set_option maxRecDepth 1000000 in
theorem zz_NT_eq : zz_NT = ([37, 76, 148, 174, 215, 390, 392, 394, 396, 459, 844, 1038] : List Nat).filterMap (fun i => tables_1[i]?) := by rfl
theorem zz_NT_in : ∀ w ∈ zz_NT, w ∈ lw_tbl := by
  intro w h
  rw [zz_NT_eq] at h
  obtain ⟨i, -, hi⟩ := List.mem_filterMap.mp h
  exact List.mem_append_right _ (List.mem_of_getElem? hi)
set_option maxRecDepth 1000000 in
theorem zz_W_good : zz_W.all goodWord = true := by decide +kernel
theorem zz_NT_tab : ∀ w ∈ zz_NT, w.onTables = true := by decide +kernel
theorem mw_2 : Cond.initialized R_Pr ∈ zz_W := List.mem_append_right _ (List.mem_of_getElem? (i := 0) rfl)
theorem mw_3 : Cond.initialized R_Ma ∈ zz_W := List.mem_append_right _ (List.mem_of_getElem? (i := 1) rfl)
theorem mw_4 : Cond.initialized R_Me ∈ zz_W := List.mem_append_right _ (List.mem_of_getElem? (i := 2) rfl)
theorem mw_5 : Cond.initialized R_Fo ∈ zz_W := List.mem_append_right _ (List.mem_of_getElem? (i := 3) rfl)
theorem mw_6 : Cond.initialized R_Ch ∈ zz_W := List.mem_append_right _ (List.mem_of_getElem? (i := 4) rfl)
theorem mw_7 : Cond.initialized R_St ∈ zz_W := List.mem_append_right _ (List.mem_of_getElem? (i := 5) rfl)
theorem mw_8 : Cond.initialized R_Ra ∈ zz_W := List.mem_append_right _ (List.mem_of_getElem? (i := 6) rfl)
theorem mw_9 : Cond.initialized R_Ru ∈ zz_W := List.mem_append_right _ (List.mem_of_getElem? (i := 7) rfl)
theorem mw_11 : Cond.initialized "java/lang/Throwable" ∈ zz_W := List.mem_append_right _ (List.mem_of_getElem? (i := 8) rfl)
theorem mw_12 : Cond.initialized "java/lang/Exception" ∈ zz_W := List.mem_append_right _ (List.mem_of_getElem? (i := 9) rfl)
theorem mw_13 : Cond.initialized "java/lang/RuntimeException" ∈ zz_W := List.mem_append_right _ (List.mem_of_getElem? (i := 10) rfl)
theorem mw_14 : Cond.initialized "java/lang/IllegalArgumentException" ∈ zz_W := List.mem_append_right _ (List.mem_of_getElem? (i := 11) rfl)
theorem mw_15 : Cond.initialized "java/lang/IllegalStateException" ∈ zz_W := List.mem_append_right _ (List.mem_of_getElem? (i := 12) rfl)
theorem mw_25 : Cond.initialized "java/lang/IndexOutOfBoundsException" ∈ zz_W := List.mem_append_right _ (List.mem_of_getElem? (i := 13) rfl)
theorem mw_26 : Cond.initialized "java/util/NoSuchElementException" ∈ zz_W := List.mem_append_right _ (List.mem_of_getElem? (i := 14) rfl)
theorem mw_31 : Cond.code y_FG_init prog_1_method_1_code 1 none ∈ zz_W := List.mem_append_right _ (List.mem_of_getElem? (i := 15) rfl)
theorem mw_32 : Cond.methodLink R_FG 3 (⟨"java/lang/Object", "<init>", "()V"⟩ : MethodName) ∈ zz_W := List.mem_append_right _ (List.mem_of_getElem? (i := 16) rfl)
theorem mw_33 : Cond.instanceMethod (⟨"java/lang/Object", "<init>", "()V"⟩ : MethodName) ∈ zz_W := List.mem_append_right _ (List.mem_of_getElem? (i := 17) rfl)
theorem mw_34 : Cond.code (⟨"java/lang/Object", "<init>", "()V"⟩ : MethodName) object_method_1_code 1 none ∈ zz_W := List.mem_append_right _ (List.mem_of_getElem? (i := 18) rfl)
theorem mw_35 : Cond.classLink R_FG 9 R_Pr ∈ zz_W := List.mem_append_right _ (List.mem_of_getElem? (i := 19) rfl)
theorem mw_36 : Cond.instantiable R_Pr 6 ∈ zz_W := List.mem_append_right _ (List.mem_of_getElem? (i := 20) rfl)
theorem mw_38 : Cond.instanceMethod y_Pr_init ∈ zz_W := List.mem_append_right _ (List.mem_of_getElem? (i := 21) rfl)
theorem mw_39 : Cond.code y_Pr_init prog_7_method_1_code 1 none ∈ zz_W := List.mem_append_right _ (List.mem_of_getElem? (i := 22) rfl)
theorem mw_40 : Cond.methodLink R_Pr 3 (⟨"java/lang/Object", "<init>", "()V"⟩ : MethodName) ∈ zz_W := List.mem_append_right _ (List.mem_of_getElem? (i := 23) rfl)
theorem mw_41 : Cond.fieldLink R_Pr 9 R_Pr "sort" "[I" ∈ zz_W := List.mem_append_right _ (List.mem_of_getElem? (i := 24) rfl)
theorem mw_44 : Cond.fieldLink R_Pr 15 R_Pr "dst" "[I" ∈ zz_W := List.mem_append_right _ (List.mem_of_getElem? (i := 25) rfl)
theorem mw_47 : Cond.fieldLink R_Pr 18 R_Pr "src" "[I" ∈ zz_W := List.mem_append_right _ (List.mem_of_getElem? (i := 26) rfl)
theorem mw_50 : Cond.fieldLink R_Pr 21 R_Pr "off" "[I" ∈ zz_W := List.mem_append_right _ (List.mem_of_getElem? (i := 27) rfl)
theorem mw_53 : Cond.fieldLink R_Pr 24 R_Pr "imm" "[I" ∈ zz_W := List.mem_append_right _ (List.mem_of_getElem? (i := 28) rfl)
theorem mw_60 : Cond.laysFinal R_Pr R_Pr "sort" "[I" ∈ zz_W := List.mem_append_right _ (List.mem_of_getElem? (i := 29) rfl)
theorem mw_62 : Cond.laysFinal R_Pr R_Pr "dst" "[I" ∈ zz_W := List.mem_append_right _ (List.mem_of_getElem? (i := 30) rfl)
theorem mw_64 : Cond.laysFinal R_Pr R_Pr "src" "[I" ∈ zz_W := List.mem_append_right _ (List.mem_of_getElem? (i := 31) rfl)
theorem mw_66 : Cond.laysFinal R_Pr R_Pr "off" "[I" ∈ zz_W := List.mem_append_right _ (List.mem_of_getElem? (i := 32) rfl)
theorem mw_68 : Cond.laysFinal R_Pr R_Pr "imm" "[I" ∈ zz_W := List.mem_append_right _ (List.mem_of_getElem? (i := 33) rfl)
theorem mw_70 : Cond.lays R_Pr R_Pr "size" "I" ∈ zz_W := List.mem_append_right _ (List.mem_of_getElem? (i := 34) rfl)
theorem mw_73 : Cond.arrayClass .int ∈ zz_W := List.mem_append_right _ (List.mem_of_getElem? (i := 35) rfl)
theorem mw_74 : Cond.classLink R_FG 16 R_Ma ∈ zz_W := List.mem_append_right _ (List.mem_of_getElem? (i := 36) rfl)
theorem mw_75 : Cond.instantiable R_Ma 8 ∈ zz_W := List.mem_append_right _ (List.mem_of_getElem? (i := 37) rfl)
theorem mw_77 : Cond.instanceMethod y_Ma_init ∈ zz_W := List.mem_append_right _ (List.mem_of_getElem? (i := 38) rfl)
theorem mw_78 : Cond.code y_Ma_init prog_5_method_1_code 1 none ∈ zz_W := List.mem_append_right _ (List.mem_of_getElem? (i := 39) rfl)
theorem mw_79 : Cond.methodLink R_Ma 3 (⟨"java/lang/Object", "<init>", "()V"⟩ : MethodName) ∈ zz_W := List.mem_append_right _ (List.mem_of_getElem? (i := 40) rfl)
theorem mw_80 : Cond.fieldLink R_Ma 9 R_Ma "keyBytes" "[I" ∈ zz_W := List.mem_append_right _ (List.mem_of_getElem? (i := 41) rfl)
theorem mw_84 : Cond.fieldLink R_Ma 15 R_Ma "valueBytes" "[I" ∈ zz_W := List.mem_append_right _ (List.mem_of_getElem? (i := 42) rfl)
theorem mw_88 : Cond.fieldLink R_Ma 18 R_Ma "values" "[B" ∈ zz_W := List.mem_append_right _ (List.mem_of_getElem? (i := 43) rfl)
theorem mw_91 : Cond.fieldLink R_Ma 22 R_Ma "sought" "[B" ∈ zz_W := List.mem_append_right _ (List.mem_of_getElem? (i := 44) rfl)
theorem mw_93 : Cond.fieldLink R_Ma 25 R_Ma "places" "[I" ∈ zz_W := List.mem_append_right _ (List.mem_of_getElem? (i := 45) rfl)
theorem mw_94 : Cond.fieldLink R_Ma 28 R_Ma "taken" "[Z" ∈ zz_W := List.mem_append_right _ (List.mem_of_getElem? (i := 46) rfl)
theorem mw_95 : Cond.fieldLink R_Ma 32 R_Ma "keys" "[B" ∈ zz_W := List.mem_append_right _ (List.mem_of_getElem? (i := 47) rfl)
theorem mw_100 : Cond.laysFinal R_Ma R_Ma "keyBytes" "[I" ∈ zz_W := List.mem_append_right _ (List.mem_of_getElem? (i := 48) rfl)
theorem mw_102 : Cond.laysFinal R_Ma R_Ma "valueBytes" "[I" ∈ zz_W := List.mem_append_right _ (List.mem_of_getElem? (i := 49) rfl)
theorem mw_104 : Cond.laysFinal R_Ma R_Ma "values" "[B" ∈ zz_W := List.mem_append_right _ (List.mem_of_getElem? (i := 50) rfl)
theorem mw_106 : Cond.laysFinal R_Ma R_Ma "sought" "[B" ∈ zz_W := List.mem_append_right _ (List.mem_of_getElem? (i := 51) rfl)
theorem mw_108 : Cond.laysFinal R_Ma R_Ma "places" "[I" ∈ zz_W := List.mem_append_right _ (List.mem_of_getElem? (i := 52) rfl)
theorem mw_110 : Cond.laysFinal R_Ma R_Ma "taken" "[Z" ∈ zz_W := List.mem_append_right _ (List.mem_of_getElem? (i := 53) rfl)
theorem mw_112 : Cond.laysFinal R_Ma R_Ma "keys" "[B" ∈ zz_W := List.mem_append_right _ (List.mem_of_getElem? (i := 54) rfl)
theorem mw_114 : Cond.lays R_Ma R_Ma "size" "I" ∈ zz_W := List.mem_append_right _ (List.mem_of_getElem? (i := 55) rfl)
theorem mw_117 : Cond.arrayClass .byte ∈ zz_W := List.mem_append_right _ (List.mem_of_getElem? (i := 56) rfl)
theorem mw_118 : Cond.arrayClass .boolean ∈ zz_W := List.mem_append_right _ (List.mem_of_getElem? (i := 57) rfl)
theorem mw_119 : Cond.classLink R_FG 23 R_Me ∈ zz_W := List.mem_append_right _ (List.mem_of_getElem? (i := 58) rfl)
theorem mw_120 : Cond.instantiable R_Me 5 ∈ zz_W := List.mem_append_right _ (List.mem_of_getElem? (i := 59) rfl)
theorem mw_121 : Cond.methodLink R_FG 25 y_Me_init ∈ zz_W := List.mem_append_right _ (List.mem_of_getElem? (i := 60) rfl)
theorem mw_122 : Cond.instanceMethod y_Me_init ∈ zz_W := List.mem_append_right _ (List.mem_of_getElem? (i := 61) rfl)
theorem mw_123 : Cond.code y_Me_init prog_6_method_1_code 2 none ∈ zz_W := List.mem_append_right _ (List.mem_of_getElem? (i := 62) rfl)
theorem mw_124 : Cond.methodLink R_Me 3 (⟨"java/lang/Object", "<init>", "()V"⟩ : MethodName) ∈ zz_W := List.mem_append_right _ (List.mem_of_getElem? (i := 63) rfl)
theorem mw_125 : Cond.fieldLink R_Me 18 R_Me "maps" "LFilterGuard$Maps;" ∈ zz_W := List.mem_append_right _ (List.mem_of_getElem? (i := 64) rfl)
theorem mw_127 : Cond.fieldLink R_Me 9 R_Me "packet" "[B" ∈ zz_W := List.mem_append_right _ (List.mem_of_getElem? (i := 65) rfl)
theorem mw_129 : Cond.fieldLink R_Me 15 R_Me "stack" "[B" ∈ zz_W := List.mem_append_right _ (List.mem_of_getElem? (i := 66) rfl)
theorem mw_135 : Cond.laysFinal R_Me R_Me "maps" "LFilterGuard$Maps;" ∈ zz_W := List.mem_append_right _ (List.mem_of_getElem? (i := 67) rfl)
theorem mw_137 : Cond.laysFinal R_Me R_Me "packet" "[B" ∈ zz_W := List.mem_append_right _ (List.mem_of_getElem? (i := 68) rfl)
theorem mw_139 : Cond.laysFinal R_Me R_Me "stack" "[B" ∈ zz_W := List.mem_append_right _ (List.mem_of_getElem? (i := 69) rfl)
theorem mw_141 : Cond.lays R_Me R_Me "packetLength" "I" ∈ zz_W := List.mem_append_right _ (List.mem_of_getElem? (i := 70) rfl)
theorem mw_143 : Cond.lays R_Me R_Me "strays" "I" ∈ zz_W := List.mem_append_right _ (List.mem_of_getElem? (i := 71) rfl)
theorem mw_146 : Cond.classLink R_FG 32 R_Fo ∈ zz_W := List.mem_append_right _ (List.mem_of_getElem? (i := 72) rfl)
theorem mw_147 : Cond.instantiable R_Fo 4 ∈ zz_W := List.mem_append_right _ (List.mem_of_getElem? (i := 73) rfl)
theorem mw_149 : Cond.instanceMethod y_Fo_init ∈ zz_W := List.mem_append_right _ (List.mem_of_getElem? (i := 74) rfl)
theorem mw_150 : Cond.code y_Fo_init prog_4_method_1_code 1 none ∈ zz_W := List.mem_append_right _ (List.mem_of_getElem? (i := 75) rfl)
theorem mw_151 : Cond.methodLink R_Fo 3 (⟨"java/lang/Object", "<init>", "()V"⟩ : MethodName) ∈ zz_W := List.mem_append_right _ (List.mem_of_getElem? (i := 76) rfl)
theorem mw_152 : Cond.fieldLink R_Fo 9 R_Fo "gone" "[I" ∈ zz_W := List.mem_append_right _ (List.mem_of_getElem? (i := 77) rfl)
theorem mw_153 : Cond.fieldLink R_Fo 15 R_Fo "number" "[Z" ∈ zz_W := List.mem_append_right _ (List.mem_of_getElem? (i := 78) rfl)
theorem mw_154 : Cond.fieldLink R_Fo 19 R_Fo "low" "[J" ∈ zz_W := List.mem_append_right _ (List.mem_of_getElem? (i := 79) rfl)
theorem mw_155 : Cond.fieldLink R_Fo 23 R_Fo "high" "[J" ∈ zz_W := List.mem_append_right _ (List.mem_of_getElem? (i := 80) rfl)
theorem mw_156 : Cond.laysFinal R_Fo R_Fo "gone" "[I" ∈ zz_W := List.mem_append_right _ (List.mem_of_getElem? (i := 81) rfl)
theorem mw_158 : Cond.laysFinal R_Fo R_Fo "number" "[Z" ∈ zz_W := List.mem_append_right _ (List.mem_of_getElem? (i := 82) rfl)
theorem mw_160 : Cond.laysFinal R_Fo R_Fo "low" "[J" ∈ zz_W := List.mem_append_right _ (List.mem_of_getElem? (i := 83) rfl)
theorem mw_162 : Cond.laysFinal R_Fo R_Fo "high" "[J" ∈ zz_W := List.mem_append_right _ (List.mem_of_getElem? (i := 84) rfl)
theorem mw_165 : Cond.arrayClass .long ∈ zz_W := List.mem_append_right _ (List.mem_of_getElem? (i := 85) rfl)
theorem mw_166 : Cond.classLink R_FG 39 R_Ch ∈ zz_W := List.mem_append_right _ (List.mem_of_getElem? (i := 86) rfl)
theorem mw_167 : Cond.instantiable R_Ch 14 ∈ zz_W := List.mem_append_right _ (List.mem_of_getElem? (i := 87) rfl)
theorem mw_168 : Cond.methodLink R_FG 41 y_Ch_init ∈ zz_W := List.mem_append_right _ (List.mem_of_getElem? (i := 88) rfl)
theorem mw_169 : Cond.instanceMethod y_Ch_init ∈ zz_W := List.mem_append_right _ (List.mem_of_getElem? (i := 89) rfl)
theorem mw_170 : Cond.code y_Ch_init prog_3_method_1_code 5 none ∈ zz_W := List.mem_append_right _ (List.mem_of_getElem? (i := 90) rfl)
theorem mw_171 : Cond.methodLink R_Ch 3 (⟨"java/lang/Object", "<init>", "()V"⟩ : MethodName) ∈ zz_W := List.mem_append_right _ (List.mem_of_getElem? (i := 91) rfl)
theorem mw_172 : Cond.classLink R_Ch 9 R_St ∈ zz_W := List.mem_append_right _ (List.mem_of_getElem? (i := 92) rfl)
theorem mw_173 : Cond.instantiable R_St 8 ∈ zz_W := List.mem_append_right _ (List.mem_of_getElem? (i := 93) rfl)
theorem mw_175 : Cond.instanceMethod y_St_init ∈ zz_W := List.mem_append_right _ (List.mem_of_getElem? (i := 94) rfl)
theorem mw_176 : Cond.code y_St_init prog_12_method_1_code 1 none ∈ zz_W := List.mem_append_right _ (List.mem_of_getElem? (i := 95) rfl)
theorem mw_177 : Cond.methodLink R_St 3 (⟨"java/lang/Object", "<init>", "()V"⟩ : MethodName) ∈ zz_W := List.mem_append_right _ (List.mem_of_getElem? (i := 96) rfl)
theorem mw_178 : Cond.fieldLink R_St 9 R_St "kind" "[I" ∈ zz_W := List.mem_append_right _ (List.mem_of_getElem? (i := 97) rfl)
theorem mw_180 : Cond.fieldLink R_St 15 R_St "map" "[I" ∈ zz_W := List.mem_append_right _ (List.mem_of_getElem? (i := 98) rfl)
theorem mw_182 : Cond.fieldLink R_St 18 R_St "tag" "[I" ∈ zz_W := List.mem_append_right _ (List.mem_of_getElem? (i := 99) rfl)
theorem mw_184 : Cond.fieldLink R_St 21 R_St "low" "[J" ∈ zz_W := List.mem_append_right _ (List.mem_of_getElem? (i := 100) rfl)
theorem mw_187 : Cond.fieldLink R_St 25 R_St "high" "[J" ∈ zz_W := List.mem_append_right _ (List.mem_of_getElem? (i := 101) rfl)
theorem mw_190 : Cond.fieldLink R_St 28 R_St "data" "[I" ∈ zz_W := List.mem_append_right _ (List.mem_of_getElem? (i := 102) rfl)
theorem mw_195 : Cond.laysFinal R_St R_St "kind" "[I" ∈ zz_W := List.mem_append_right _ (List.mem_of_getElem? (i := 103) rfl)
theorem mw_197 : Cond.laysFinal R_St R_St "map" "[I" ∈ zz_W := List.mem_append_right _ (List.mem_of_getElem? (i := 104) rfl)
theorem mw_199 : Cond.laysFinal R_St R_St "tag" "[I" ∈ zz_W := List.mem_append_right _ (List.mem_of_getElem? (i := 105) rfl)
theorem mw_201 : Cond.laysFinal R_St R_St "low" "[J" ∈ zz_W := List.mem_append_right _ (List.mem_of_getElem? (i := 106) rfl)
theorem mw_203 : Cond.laysFinal R_St R_St "high" "[J" ∈ zz_W := List.mem_append_right _ (List.mem_of_getElem? (i := 107) rfl)
theorem mw_205 : Cond.laysFinal R_St R_St "data" "[I" ∈ zz_W := List.mem_append_right _ (List.mem_of_getElem? (i := 108) rfl)
theorem mw_207 : Cond.lays R_St R_St "length" "I" ∈ zz_W := List.mem_append_right _ (List.mem_of_getElem? (i := 109) rfl)
theorem mw_209 : Cond.lays R_St R_St "at" "I" ∈ zz_W := List.mem_append_right _ (List.mem_of_getElem? (i := 110) rfl)
theorem mw_213 : Cond.classLink R_Ch 25 R_Ra ∈ zz_W := List.mem_append_right _ (List.mem_of_getElem? (i := 111) rfl)
theorem mw_214 : Cond.instantiable R_Ra 2 ∈ zz_W := List.mem_append_right _ (List.mem_of_getElem? (i := 112) rfl)
theorem mw_216 : Cond.instanceMethod y_Ra_init ∈ zz_W := List.mem_append_right _ (List.mem_of_getElem? (i := 113) rfl)
theorem mw_217 : Cond.code y_Ra_init prog_8_method_1_code 1 none ∈ zz_W := List.mem_append_right _ (List.mem_of_getElem? (i := 114) rfl)
theorem mw_218 : Cond.methodLink R_Ra 3 (⟨"java/lang/Object", "<init>", "()V"⟩ : MethodName) ∈ zz_W := List.mem_append_right _ (List.mem_of_getElem? (i := 115) rfl)
theorem mw_225 : Cond.lays R_Ra R_Ra "low" "J" ∈ zz_W := List.mem_append_right _ (List.mem_of_getElem? (i := 116) rfl)
theorem mw_227 : Cond.lays R_Ra R_Ra "high" "J" ∈ zz_W := List.mem_append_right _ (List.mem_of_getElem? (i := 117) rfl)
theorem mw_230 : Cond.fieldLink R_Ch 38 R_Ch "program" "LFilterGuard$Program;" ∈ zz_W := List.mem_append_right _ (List.mem_of_getElem? (i := 118) rfl)
theorem mw_231 : Cond.fieldLink R_Ch 42 R_Ch "maps" "LFilterGuard$Maps;" ∈ zz_W := List.mem_append_right _ (List.mem_of_getElem? (i := 119) rfl)
theorem mw_232 : Cond.fieldLink R_Ch 46 R_Ch "foretold" "LFilterGuard$Foretold;" ∈ zz_W := List.mem_append_right _ (List.mem_of_getElem? (i := 120) rfl)
theorem mw_233 : Cond.fieldLink R_Ch 12 R_Ch "now" "LFilterGuard$State;" ∈ zz_W := List.mem_append_right _ (List.mem_of_getElem? (i := 121) rfl)
theorem mw_234 : Cond.fieldLink R_Ch 18 R_Ch "other" "LFilterGuard$State;" ∈ zz_W := List.mem_append_right _ (List.mem_of_getElem? (i := 122) rfl)
theorem mw_235 : Cond.fieldLink R_Ch 21 R_Ch "waiting" "[LFilterGuard$State;" ∈ zz_W := List.mem_append_right _ (List.mem_of_getElem? (i := 123) rfl)
theorem mw_236 : Cond.fieldLink R_Ch 28 R_Ch "x" "LFilterGuard$Range;" ∈ zz_W := List.mem_append_right _ (List.mem_of_getElem? (i := 124) rfl)
theorem mw_237 : Cond.fieldLink R_Ch 32 R_Ch "y" "LFilterGuard$Range;" ∈ zz_W := List.mem_append_right _ (List.mem_of_getElem? (i := 125) rfl)
theorem mw_238 : Cond.fieldLink R_Ch 35 R_Ch "z" "LFilterGuard$Range;" ∈ zz_W := List.mem_append_right _ (List.mem_of_getElem? (i := 126) rfl)
theorem mw_245 : Cond.fieldLink R_Ch 50 R_Ch "faultAt" "I" ∈ zz_W := List.mem_append_right _ (List.mem_of_getElem? (i := 127) rfl)
theorem mw_247 : Cond.laysFinal R_Ch R_Ch "program" "LFilterGuard$Program;" ∈ zz_W := List.mem_append_right _ (List.mem_of_getElem? (i := 128) rfl)
theorem mw_249 : Cond.laysFinal R_Ch R_Ch "maps" "LFilterGuard$Maps;" ∈ zz_W := List.mem_append_right _ (List.mem_of_getElem? (i := 129) rfl)
theorem mw_251 : Cond.laysFinal R_Ch R_Ch "foretold" "LFilterGuard$Foretold;" ∈ zz_W := List.mem_append_right _ (List.mem_of_getElem? (i := 130) rfl)
theorem mw_253 : Cond.laysFinal R_Ch R_Ch "now" "LFilterGuard$State;" ∈ zz_W := List.mem_append_right _ (List.mem_of_getElem? (i := 131) rfl)
theorem mw_255 : Cond.laysFinal R_Ch R_Ch "other" "LFilterGuard$State;" ∈ zz_W := List.mem_append_right _ (List.mem_of_getElem? (i := 132) rfl)
theorem mw_257 : Cond.laysFinal R_Ch R_Ch "waiting" "[LFilterGuard$State;" ∈ zz_W := List.mem_append_right _ (List.mem_of_getElem? (i := 133) rfl)
theorem mw_259 : Cond.laysFinal R_Ch R_Ch "x" "LFilterGuard$Range;" ∈ zz_W := List.mem_append_right _ (List.mem_of_getElem? (i := 134) rfl)
theorem mw_261 : Cond.laysFinal R_Ch R_Ch "y" "LFilterGuard$Range;" ∈ zz_W := List.mem_append_right _ (List.mem_of_getElem? (i := 135) rfl)
theorem mw_263 : Cond.laysFinal R_Ch R_Ch "z" "LFilterGuard$Range;" ∈ zz_W := List.mem_append_right _ (List.mem_of_getElem? (i := 136) rfl)
theorem mw_265 : Cond.lays R_Ch R_Ch "waits" "I" ∈ zz_W := List.mem_append_right _ (List.mem_of_getElem? (i := 137) rfl)
theorem mw_267 : Cond.lays R_Ch R_Ch "tags" "I" ∈ zz_W := List.mem_append_right _ (List.mem_of_getElem? (i := 138) rfl)
theorem mw_269 : Cond.lays R_Ch R_Ch "gone" "I" ∈ zz_W := List.mem_append_right _ (List.mem_of_getElem? (i := 139) rfl)
theorem mw_271 : Cond.lays R_Ch R_Ch "fault" "I" ∈ zz_W := List.mem_append_right _ (List.mem_of_getElem? (i := 140) rfl)
theorem mw_273 : Cond.lays R_Ch R_Ch "faultAt" "I" ∈ zz_W := List.mem_append_right _ (List.mem_of_getElem? (i := 141) rfl)
theorem mw_276 : Cond.classLink R_FG 48 R_Ru ∈ zz_W := List.mem_append_right _ (List.mem_of_getElem? (i := 142) rfl)
theorem mw_277 : Cond.instantiable R_Ru 12 ∈ zz_W := List.mem_append_right _ (List.mem_of_getElem? (i := 143) rfl)
theorem mw_278 : Cond.methodLink R_FG 50 y_Ru_init ∈ zz_W := List.mem_append_right _ (List.mem_of_getElem? (i := 144) rfl)
theorem mw_279 : Cond.instanceMethod y_Ru_init ∈ zz_W := List.mem_append_right _ (List.mem_of_getElem? (i := 145) rfl)
theorem mw_280 : Cond.code y_Ru_init prog_10_method_1_code 4 none ∈ zz_W := List.mem_append_right _ (List.mem_of_getElem? (i := 146) rfl)
theorem mw_281 : Cond.methodLink R_Ru 3 (⟨"java/lang/Object", "<init>", "()V"⟩ : MethodName) ∈ zz_W := List.mem_append_right _ (List.mem_of_getElem? (i := 147) rfl)
theorem mw_282 : Cond.fieldLink R_Ru 22 R_Ru "program" "LFilterGuard$Program;" ∈ zz_W := List.mem_append_right _ (List.mem_of_getElem? (i := 148) rfl)
theorem mw_283 : Cond.fieldLink R_Ru 26 R_Ru "foretold" "LFilterGuard$Foretold;" ∈ zz_W := List.mem_append_right _ (List.mem_of_getElem? (i := 149) rfl)
theorem mw_284 : Cond.fieldLink R_Ru 30 R_Ru "memory" "LFilterGuard$Memory;" ∈ zz_W := List.mem_append_right _ (List.mem_of_getElem? (i := 150) rfl)
theorem mw_285 : Cond.fieldLink R_Ru 9 R_Ru "register" "[J" ∈ zz_W := List.mem_append_right _ (List.mem_of_getElem? (i := 151) rfl)
theorem mw_286 : Cond.fieldLink R_Ru 15 R_Ru "kind" "[I" ∈ zz_W := List.mem_append_right _ (List.mem_of_getElem? (i := 152) rfl)
theorem mw_287 : Cond.fieldLink R_Ru 19 R_Ru "log" "[J" ∈ zz_W := List.mem_append_right _ (List.mem_of_getElem? (i := 153) rfl)
theorem mw_298 : Cond.laysFinal R_Ru R_Ru "program" "LFilterGuard$Program;" ∈ zz_W := List.mem_append_right _ (List.mem_of_getElem? (i := 154) rfl)
theorem mw_300 : Cond.laysFinal R_Ru R_Ru "foretold" "LFilterGuard$Foretold;" ∈ zz_W := List.mem_append_right _ (List.mem_of_getElem? (i := 155) rfl)
theorem mw_302 : Cond.laysFinal R_Ru R_Ru "memory" "LFilterGuard$Memory;" ∈ zz_W := List.mem_append_right _ (List.mem_of_getElem? (i := 156) rfl)
theorem mw_304 : Cond.laysFinal R_Ru R_Ru "register" "[J" ∈ zz_W := List.mem_append_right _ (List.mem_of_getElem? (i := 157) rfl)
theorem mw_306 : Cond.laysFinal R_Ru R_Ru "kind" "[I" ∈ zz_W := List.mem_append_right _ (List.mem_of_getElem? (i := 158) rfl)
theorem mw_308 : Cond.laysFinal R_Ru R_Ru "log" "[J" ∈ zz_W := List.mem_append_right _ (List.mem_of_getElem? (i := 159) rfl)
theorem mw_310 : Cond.lays R_Ru R_Ru "logged" "I" ∈ zz_W := List.mem_append_right _ (List.mem_of_getElem? (i := 160) rfl)
theorem mw_312 : Cond.lays R_Ru R_Ru "done" "I" ∈ zz_W := List.mem_append_right _ (List.mem_of_getElem? (i := 161) rfl)
theorem mw_314 : Cond.lays R_Ru R_Ru "chance" "J" ∈ zz_W := List.mem_append_right _ (List.mem_of_getElem? (i := 162) rfl)
theorem mw_316 : Cond.lays R_Ru R_Ru "at" "I" ∈ zz_W := List.mem_append_right _ (List.mem_of_getElem? (i := 163) rfl)
theorem mw_318 : Cond.lays R_Ru R_Ru "looks" "I" ∈ zz_W := List.mem_append_right _ (List.mem_of_getElem? (i := 164) rfl)
theorem mw_320 : Cond.lays R_Ru R_Ru "unforetold" "I" ∈ zz_W := List.mem_append_right _ (List.mem_of_getElem? (i := 165) rfl)
theorem mw_323 : Cond.fieldLink R_FG 12 R_FG "program" "LFilterGuard$Program;" ∈ zz_W := List.mem_append_right _ (List.mem_of_getElem? (i := 166) rfl)
theorem mw_324 : Cond.fieldLink R_FG 19 R_FG "maps" "LFilterGuard$Maps;" ∈ zz_W := List.mem_append_right _ (List.mem_of_getElem? (i := 167) rfl)
theorem mw_325 : Cond.fieldLink R_FG 28 R_FG "memory" "LFilterGuard$Memory;" ∈ zz_W := List.mem_append_right _ (List.mem_of_getElem? (i := 168) rfl)
theorem mw_326 : Cond.fieldLink R_FG 35 R_FG "foretold" "LFilterGuard$Foretold;" ∈ zz_W := List.mem_append_right _ (List.mem_of_getElem? (i := 169) rfl)
theorem mw_327 : Cond.fieldLink R_FG 44 R_FG "checker" "LFilterGuard$Checker;" ∈ zz_W := List.mem_append_right _ (List.mem_of_getElem? (i := 170) rfl)
theorem mw_328 : Cond.fieldLink R_FG 53 R_FG "runner" "LFilterGuard$Runner;" ∈ zz_W := List.mem_append_right _ (List.mem_of_getElem? (i := 171) rfl)
theorem mw_329 : Cond.fieldLink R_FG 57 R_FG "passed" "Z" ∈ zz_W := List.mem_append_right _ (List.mem_of_getElem? (i := 172) rfl)
theorem mw_330 : Cond.laysFinal R_FG R_FG "program" "LFilterGuard$Program;" ∈ zz_W := List.mem_append_right _ (List.mem_of_getElem? (i := 173) rfl)
theorem mw_332 : Cond.laysFinal R_FG R_FG "maps" "LFilterGuard$Maps;" ∈ zz_W := List.mem_append_right _ (List.mem_of_getElem? (i := 174) rfl)
theorem mw_334 : Cond.laysFinal R_FG R_FG "memory" "LFilterGuard$Memory;" ∈ zz_W := List.mem_append_right _ (List.mem_of_getElem? (i := 175) rfl)
theorem mw_336 : Cond.laysFinal R_FG R_FG "foretold" "LFilterGuard$Foretold;" ∈ zz_W := List.mem_append_right _ (List.mem_of_getElem? (i := 176) rfl)
theorem mw_338 : Cond.laysFinal R_FG R_FG "checker" "LFilterGuard$Checker;" ∈ zz_W := List.mem_append_right _ (List.mem_of_getElem? (i := 177) rfl)
theorem mw_340 : Cond.laysFinal R_FG R_FG "runner" "LFilterGuard$Runner;" ∈ zz_W := List.mem_append_right _ (List.mem_of_getElem? (i := 178) rfl)
theorem mw_342 : Cond.lays R_FG R_FG "passed" "Z" ∈ zz_W := List.mem_append_right _ (List.mem_of_getElem? (i := 179) rfl)
theorem mw_379 : Cond.classLink R_La 13 "java/lang/IllegalArgumentException" ∈ zz_W := List.mem_append_right _ (List.mem_of_getElem? (i := 180) rfl)
theorem mw_380 : Cond.classLink R_La 15 "java/lang/IllegalStateException" ∈ zz_W := List.mem_append_right _ (List.mem_of_getElem? (i := 181) rfl)
theorem mw_387 : Cond.code y_FG_within prog_1_method_15_code 3 (some .boolean) ∈ zz_W := List.mem_append_right _ (List.mem_of_getElem? (i := 182) rfl)
theorem mw_388 : Cond.classLink R_FG 65 "java/lang/IllegalArgumentException" ∈ zz_W := List.mem_append_right _ (List.mem_of_getElem? (i := 183) rfl)
theorem mw_389 : Cond.instantiable "java/lang/IllegalArgumentException" 6 ∈ zz_W := List.mem_append_right _ (List.mem_of_getElem? (i := 184) rfl)
theorem mw_397 : Cond.selects "java/lang/IllegalArgumentException" (⟨"java/lang/Throwable", "fillInStackTrace", "(I)Ljava/lang/Throwable;"⟩ : MethodName) (⟨"java/lang/Throwable", "fillInStackTrace", "(I)Ljava/lang/Throwable;"⟩ : MethodName) ∈ zz_W := List.mem_append_right _ (List.mem_of_getElem? (i := 185) rfl)
theorem mw_398 : Cond.selects "java/lang/IllegalArgumentException" (⟨"java/lang/Throwable", "fillInStackTrace", "()Ljava/lang/Throwable;"⟩ : MethodName) (⟨"java/lang/Throwable", "fillInStackTrace", "()Ljava/lang/Throwable;"⟩ : MethodName) ∈ zz_W := List.mem_append_right _ (List.mem_of_getElem? (i := 186) rfl)
theorem mw_399 : Cond.lays "java/lang/IllegalArgumentException" "java/lang/Throwable" "cause" "Ljava/lang/Throwable;" ∈ zz_W := List.mem_append_right _ (List.mem_of_getElem? (i := 187) rfl)
theorem mw_400 : Cond.lays "java/lang/Throwable" "java/lang/Throwable" "cause" "Ljava/lang/Throwable;" ∈ zz_W := List.mem_append_right _ (List.mem_of_getElem? (i := 188) rfl)
theorem mw_401 : Cond.lays "java/lang/IllegalArgumentException" "java/lang/Throwable" "stackTrace" "[Ljava/lang/StackTraceElement;" ∈ zz_W := List.mem_append_right _ (List.mem_of_getElem? (i := 189) rfl)
theorem mw_402 : Cond.lays "java/lang/Throwable" "java/lang/Throwable" "stackTrace" "[Ljava/lang/StackTraceElement;" ∈ zz_W := List.mem_append_right _ (List.mem_of_getElem? (i := 190) rfl)
theorem mw_403 : Cond.lays "java/lang/IllegalArgumentException" "java/lang/Throwable" "suppressedExceptions" "Ljava/util/List;" ∈ zz_W := List.mem_append_right _ (List.mem_of_getElem? (i := 191) rfl)
theorem mw_404 : Cond.lays "java/lang/Throwable" "java/lang/Throwable" "suppressedExceptions" "Ljava/util/List;" ∈ zz_W := List.mem_append_right _ (List.mem_of_getElem? (i := 192) rfl)
theorem mw_405 : Cond.lays "java/lang/IllegalArgumentException" "java/lang/Throwable" "detailMessage" "Ljava/lang/String;" ∈ zz_W := List.mem_append_right _ (List.mem_of_getElem? (i := 193) rfl)
theorem mw_406 : Cond.lays "java/lang/Throwable" "java/lang/Throwable" "detailMessage" "Ljava/lang/String;" ∈ zz_W := List.mem_append_right _ (List.mem_of_getElem? (i := 194) rfl)
theorem mw_407 : Cond.lays "java/lang/IllegalArgumentException" "java/lang/Throwable" "backtrace" "Ljava/lang/Object;" ∈ zz_W := List.mem_append_right _ (List.mem_of_getElem? (i := 195) rfl)
theorem mw_408 : Cond.lays "java/lang/Throwable" "java/lang/Throwable" "backtrace" "Ljava/lang/Object;" ∈ zz_W := List.mem_append_right _ (List.mem_of_getElem? (i := 196) rfl)
theorem mw_409 : Cond.fieldLink "java/lang/Throwable" 198 "java/lang/Throwable" "backtrace" "Ljava/lang/Object;" ∈ zz_W := List.mem_append_right _ (List.mem_of_getElem? (i := 197) rfl)
theorem mw_410 : Cond.superclass "java/lang/Throwable" "java/lang/Object" ∈ zz_W := List.mem_append_right _ (List.mem_of_getElem? (i := 198) rfl)
theorem mw_411 : Cond.instanceMethod (⟨"java/lang/Throwable", "<init>", "()V"⟩ : MethodName) ∈ zz_W := List.mem_append_right _ (List.mem_of_getElem? (i := 199) rfl)
theorem mw_412 : Cond.code (⟨"java/lang/Throwable", "<init>", "()V"⟩ : MethodName) prog_26_method_1_code 1 none ∈ zz_W := List.mem_append_right _ (List.mem_of_getElem? (i := 200) rfl)
theorem mw_413 : Cond.methodLink "java/lang/Throwable" 1 (⟨"java/lang/Object", "<init>", "()V"⟩ : MethodName) ∈ zz_W := List.mem_append_right _ (List.mem_of_getElem? (i := 201) rfl)
theorem mw_414 : Cond.fieldLink "java/lang/Throwable" 13 "java/lang/Throwable" "UNASSIGNED_STACK" "[Ljava/lang/StackTraceElement;" ∈ zz_W := List.mem_append_right _ (List.mem_of_getElem? (i := 202) rfl)
theorem mw_416 : Cond.fieldLink "java/lang/Throwable" 20 "java/lang/Throwable" "SUPPRESSED_SENTINEL" "Ljava/util/List;" ∈ zz_W := List.mem_append_right _ (List.mem_of_getElem? (i := 203) rfl)
theorem mw_418 : Cond.methodLink "java/lang/Throwable" 27 (⟨"java/lang/Throwable", "fillInStackTrace", "()Ljava/lang/Throwable;"⟩ : MethodName) ∈ zz_W := List.mem_append_right _ (List.mem_of_getElem? (i := 204) rfl)
theorem mw_419 : Cond.instanceMethod (⟨"java/lang/Throwable", "fillInStackTrace", "()Ljava/lang/Throwable;"⟩ : MethodName) ∈ zz_W := List.mem_append_right _ (List.mem_of_getElem? (i := 205) rfl)
theorem mw_422 : Cond.selects "java/lang/IllegalStateException" (⟨"java/lang/Throwable", "fillInStackTrace", "()Ljava/lang/Throwable;"⟩ : MethodName) (⟨"java/lang/Throwable", "fillInStackTrace", "()Ljava/lang/Throwable;"⟩ : MethodName) ∈ zz_W := List.mem_append_right _ (List.mem_of_getElem? (i := 206) rfl)
theorem mw_423 : Cond.selects "java/lang/IndexOutOfBoundsException" (⟨"java/lang/Throwable", "fillInStackTrace", "()Ljava/lang/Throwable;"⟩ : MethodName) (⟨"java/lang/Throwable", "fillInStackTrace", "()Ljava/lang/Throwable;"⟩ : MethodName) ∈ zz_W := List.mem_append_right _ (List.mem_of_getElem? (i := 207) rfl)
theorem mw_424 : Cond.selects "java/util/NoSuchElementException" (⟨"java/lang/Throwable", "fillInStackTrace", "()Ljava/lang/Throwable;"⟩ : MethodName) (⟨"java/lang/Throwable", "fillInStackTrace", "()Ljava/lang/Throwable;"⟩ : MethodName) ∈ zz_W := List.mem_append_right _ (List.mem_of_getElem? (i := 208) rfl)
theorem mw_425 : Cond.codeSync (⟨"java/lang/Throwable", "fillInStackTrace", "()Ljava/lang/Throwable;"⟩ : MethodName) prog_26_method_18_code 1 (some (.object "java/lang/Throwable")) ∈ zz_W := List.mem_append_right _ (List.mem_of_getElem? (i := 209) rfl)
theorem mw_426 : Cond.methodLink "java/lang/Throwable" 202 (⟨"java/lang/Throwable", "fillInStackTrace", "(I)Ljava/lang/Throwable;"⟩ : MethodName) ∈ zz_W := List.mem_append_right _ (List.mem_of_getElem? (i := 210) rfl)
theorem mw_428 : Cond.instanceMethod (⟨"java/lang/Throwable", "fillInStackTrace", "(I)Ljava/lang/Throwable;"⟩ : MethodName) ∈ zz_W := List.mem_append_right _ (List.mem_of_getElem? (i := 211) rfl)
theorem mw_429 : Cond.instantiable "java/lang/Throwable" 6 ∈ zz_W := List.mem_append_right _ (List.mem_of_getElem? (i := 212) rfl)
theorem mw_430 : Cond.native (⟨"java/lang/Throwable", "fillInStackTrace", "(I)Ljava/lang/Throwable;"⟩ : MethodName) ∈ zz_W := List.mem_append_right _ (List.mem_of_getElem? (i := 213) rfl)
theorem mw_432 : Cond.methodLink R_FG 69 (⟨"java/lang/IllegalArgumentException", "<init>", "(Ljava/lang/String;)V"⟩ : MethodName) ∈ zz_W := List.mem_append_right _ (List.mem_of_getElem? (i := 214) rfl)
theorem mw_433 : Cond.instanceMethod (⟨"java/lang/IllegalArgumentException", "<init>", "(Ljava/lang/String;)V"⟩ : MethodName) ∈ zz_W := List.mem_append_right _ (List.mem_of_getElem? (i := 215) rfl)
theorem mw_434 : Cond.code (⟨"java/lang/IllegalArgumentException", "<init>", "(Ljava/lang/String;)V"⟩ : MethodName) prog_17_method_2_code 2 none ∈ zz_W := List.mem_append_right _ (List.mem_of_getElem? (i := 216) rfl)
theorem mw_435 : Cond.methodLink "java/lang/IllegalArgumentException" 7 (⟨"java/lang/RuntimeException", "<init>", "(Ljava/lang/String;)V"⟩ : MethodName) ∈ zz_W := List.mem_append_right _ (List.mem_of_getElem? (i := 217) rfl)
theorem mw_436 : Cond.instanceMethod (⟨"java/lang/RuntimeException", "<init>", "(Ljava/lang/String;)V"⟩ : MethodName) ∈ zz_W := List.mem_append_right _ (List.mem_of_getElem? (i := 218) rfl)
theorem mw_437 : Cond.code (⟨"java/lang/RuntimeException", "<init>", "(Ljava/lang/String;)V"⟩ : MethodName) prog_23_method_2_code 2 none ∈ zz_W := List.mem_append_right _ (List.mem_of_getElem? (i := 219) rfl)
theorem mw_438 : Cond.methodLink "java/lang/RuntimeException" 7 (⟨"java/lang/Exception", "<init>", "(Ljava/lang/String;)V"⟩ : MethodName) ∈ zz_W := List.mem_append_right _ (List.mem_of_getElem? (i := 220) rfl)
theorem mw_439 : Cond.instanceMethod (⟨"java/lang/Exception", "<init>", "(Ljava/lang/String;)V"⟩ : MethodName) ∈ zz_W := List.mem_append_right _ (List.mem_of_getElem? (i := 221) rfl)
theorem mw_440 : Cond.code (⟨"java/lang/Exception", "<init>", "(Ljava/lang/String;)V"⟩ : MethodName) prog_16_method_2_code 2 none ∈ zz_W := List.mem_append_right _ (List.mem_of_getElem? (i := 222) rfl)
theorem mw_441 : Cond.methodLink "java/lang/Exception" 7 (⟨"java/lang/Throwable", "<init>", "(Ljava/lang/String;)V"⟩ : MethodName) ∈ zz_W := List.mem_append_right _ (List.mem_of_getElem? (i := 223) rfl)
theorem mw_442 : Cond.instanceMethod (⟨"java/lang/Throwable", "<init>", "(Ljava/lang/String;)V"⟩ : MethodName) ∈ zz_W := List.mem_append_right _ (List.mem_of_getElem? (i := 224) rfl)
theorem mw_443 : Cond.code (⟨"java/lang/Throwable", "<init>", "(Ljava/lang/String;)V"⟩ : MethodName) prog_26_method_2_code 2 none ∈ zz_W := List.mem_append_right _ (List.mem_of_getElem? (i := 225) rfl)
theorem mw_444 : Cond.fieldLink "java/lang/Throwable" 198 "java/lang/Throwable" "backtrace" "Ljava/lang/Object;" ∈ zz_W := List.mem_append_right _ (List.mem_of_getElem? (i := 226) rfl)
theorem mw_445 : Cond.fieldLink "java/lang/Throwable" 31 "java/lang/Throwable" "detailMessage" "Ljava/lang/String;" ∈ zz_W := List.mem_append_right _ (List.mem_of_getElem? (i := 227) rfl)
theorem mw_446 : Cond.fieldLink "java/lang/Throwable" 7 "java/lang/Throwable" "cause" "Ljava/lang/Throwable;" ∈ zz_W := List.mem_append_right _ (List.mem_of_getElem? (i := 228) rfl)
theorem mw_447 : Cond.fieldLink "java/lang/Throwable" 17 "java/lang/Throwable" "stackTrace" "[Ljava/lang/StackTraceElement;" ∈ zz_W := List.mem_append_right _ (List.mem_of_getElem? (i := 229) rfl)
theorem mw_448 : Cond.fieldLink "java/lang/Throwable" 24 "java/lang/Throwable" "suppressedExceptions" "Ljava/util/List;" ∈ zz_W := List.mem_append_right _ (List.mem_of_getElem? (i := 230) rfl)
theorem mw_456 : Cond.superclass "java/lang/IllegalArgumentException" "java/lang/RuntimeException" ∈ zz_W := List.mem_append_right _ (List.mem_of_getElem? (i := 231) rfl)
theorem mw_457 : Cond.classLink R_FG 76 "java/lang/IllegalStateException" ∈ zz_W := List.mem_append_right _ (List.mem_of_getElem? (i := 232) rfl)
theorem mw_458 : Cond.instantiable "java/lang/IllegalStateException" 6 ∈ zz_W := List.mem_append_right _ (List.mem_of_getElem? (i := 233) rfl)
theorem mw_460 : Cond.selects "java/lang/IllegalStateException" (⟨"java/lang/Throwable", "fillInStackTrace", "(I)Ljava/lang/Throwable;"⟩ : MethodName) (⟨"java/lang/Throwable", "fillInStackTrace", "(I)Ljava/lang/Throwable;"⟩ : MethodName) ∈ zz_W := List.mem_append_right _ (List.mem_of_getElem? (i := 234) rfl)
theorem mw_461 : Cond.lays "java/lang/IllegalStateException" "java/lang/Throwable" "cause" "Ljava/lang/Throwable;" ∈ zz_W := List.mem_append_right _ (List.mem_of_getElem? (i := 235) rfl)
theorem mw_462 : Cond.lays "java/lang/IllegalStateException" "java/lang/Throwable" "stackTrace" "[Ljava/lang/StackTraceElement;" ∈ zz_W := List.mem_append_right _ (List.mem_of_getElem? (i := 236) rfl)
theorem mw_463 : Cond.lays "java/lang/IllegalStateException" "java/lang/Throwable" "suppressedExceptions" "Ljava/util/List;" ∈ zz_W := List.mem_append_right _ (List.mem_of_getElem? (i := 237) rfl)
theorem mw_464 : Cond.lays "java/lang/IllegalStateException" "java/lang/Throwable" "detailMessage" "Ljava/lang/String;" ∈ zz_W := List.mem_append_right _ (List.mem_of_getElem? (i := 238) rfl)
theorem mw_465 : Cond.lays "java/lang/IllegalStateException" "java/lang/Throwable" "backtrace" "Ljava/lang/Object;" ∈ zz_W := List.mem_append_right _ (List.mem_of_getElem? (i := 239) rfl)
theorem mw_467 : Cond.methodLink R_FG 80 (⟨"java/lang/IllegalStateException", "<init>", "(Ljava/lang/String;)V"⟩ : MethodName) ∈ zz_W := List.mem_append_right _ (List.mem_of_getElem? (i := 240) rfl)
theorem mw_468 : Cond.instanceMethod (⟨"java/lang/IllegalStateException", "<init>", "(Ljava/lang/String;)V"⟩ : MethodName) ∈ zz_W := List.mem_append_right _ (List.mem_of_getElem? (i := 241) rfl)
theorem mw_469 : Cond.code (⟨"java/lang/IllegalStateException", "<init>", "(Ljava/lang/String;)V"⟩ : MethodName) prog_18_method_2_code 2 none ∈ zz_W := List.mem_append_right _ (List.mem_of_getElem? (i := 242) rfl)
theorem mw_470 : Cond.methodLink "java/lang/IllegalStateException" 7 (⟨"java/lang/RuntimeException", "<init>", "(Ljava/lang/String;)V"⟩ : MethodName) ∈ zz_W := List.mem_append_right _ (List.mem_of_getElem? (i := 243) rfl)
theorem mw_472 : Cond.superclass "java/lang/IllegalStateException" "java/lang/RuntimeException" ∈ zz_W := List.mem_append_right _ (List.mem_of_getElem? (i := 244) rfl)
theorem mw_837 : Cond.classLink R_La 28 "java/lang/IndexOutOfBoundsException" ∈ zz_W := List.mem_append_right _ (List.mem_of_getElem? (i := 245) rfl)
theorem mw_842 : Cond.classLink R_FG 105 "java/lang/IndexOutOfBoundsException" ∈ zz_W := List.mem_append_right _ (List.mem_of_getElem? (i := 246) rfl)
theorem mw_843 : Cond.instantiable "java/lang/IndexOutOfBoundsException" 6 ∈ zz_W := List.mem_append_right _ (List.mem_of_getElem? (i := 247) rfl)
theorem mw_845 : Cond.selects "java/lang/IndexOutOfBoundsException" (⟨"java/lang/Throwable", "fillInStackTrace", "(I)Ljava/lang/Throwable;"⟩ : MethodName) (⟨"java/lang/Throwable", "fillInStackTrace", "(I)Ljava/lang/Throwable;"⟩ : MethodName) ∈ zz_W := List.mem_append_right _ (List.mem_of_getElem? (i := 248) rfl)
theorem mw_846 : Cond.lays "java/lang/IndexOutOfBoundsException" "java/lang/Throwable" "cause" "Ljava/lang/Throwable;" ∈ zz_W := List.mem_append_right _ (List.mem_of_getElem? (i := 249) rfl)
theorem mw_847 : Cond.lays "java/lang/IndexOutOfBoundsException" "java/lang/Throwable" "stackTrace" "[Ljava/lang/StackTraceElement;" ∈ zz_W := List.mem_append_right _ (List.mem_of_getElem? (i := 250) rfl)
theorem mw_848 : Cond.lays "java/lang/IndexOutOfBoundsException" "java/lang/Throwable" "suppressedExceptions" "Ljava/util/List;" ∈ zz_W := List.mem_append_right _ (List.mem_of_getElem? (i := 251) rfl)
theorem mw_849 : Cond.lays "java/lang/IndexOutOfBoundsException" "java/lang/Throwable" "detailMessage" "Ljava/lang/String;" ∈ zz_W := List.mem_append_right _ (List.mem_of_getElem? (i := 252) rfl)
theorem mw_850 : Cond.lays "java/lang/IndexOutOfBoundsException" "java/lang/Throwable" "backtrace" "Ljava/lang/Object;" ∈ zz_W := List.mem_append_right _ (List.mem_of_getElem? (i := 253) rfl)
theorem mw_852 : Cond.methodLink R_FG 109 (⟨"java/lang/IndexOutOfBoundsException", "<init>", "(Ljava/lang/String;)V"⟩ : MethodName) ∈ zz_W := List.mem_append_right _ (List.mem_of_getElem? (i := 254) rfl)
theorem mw_853 : Cond.instanceMethod (⟨"java/lang/IndexOutOfBoundsException", "<init>", "(Ljava/lang/String;)V"⟩ : MethodName) ∈ zz_W := List.mem_append_right _ (List.mem_of_getElem? (i := 255) rfl)
theorem mw_854 : Cond.code (⟨"java/lang/IndexOutOfBoundsException", "<init>", "(Ljava/lang/String;)V"⟩ : MethodName) prog_19_method_2_code 2 none ∈ zz_W := List.mem_append_right _ (List.mem_of_getElem? (i := 256) rfl)
theorem mw_855 : Cond.methodLink "java/lang/IndexOutOfBoundsException" 7 (⟨"java/lang/RuntimeException", "<init>", "(Ljava/lang/String;)V"⟩ : MethodName) ∈ zz_W := List.mem_append_right _ (List.mem_of_getElem? (i := 257) rfl)
theorem mw_857 : Cond.superclass "java/lang/IndexOutOfBoundsException" "java/lang/RuntimeException" ∈ zz_W := List.mem_append_right _ (List.mem_of_getElem? (i := 258) rfl)
theorem mw_1031 : Cond.classLink R_La 41 "java/util/NoSuchElementException" ∈ zz_W := List.mem_append_right _ (List.mem_of_getElem? (i := 259) rfl)
theorem mw_1036 : Cond.classLink R_FG 126 "java/util/NoSuchElementException" ∈ zz_W := List.mem_append_right _ (List.mem_of_getElem? (i := 260) rfl)
theorem mw_1037 : Cond.instantiable "java/util/NoSuchElementException" 6 ∈ zz_W := List.mem_append_right _ (List.mem_of_getElem? (i := 261) rfl)
theorem mw_1039 : Cond.selects "java/util/NoSuchElementException" (⟨"java/lang/Throwable", "fillInStackTrace", "(I)Ljava/lang/Throwable;"⟩ : MethodName) (⟨"java/lang/Throwable", "fillInStackTrace", "(I)Ljava/lang/Throwable;"⟩ : MethodName) ∈ zz_W := List.mem_append_right _ (List.mem_of_getElem? (i := 262) rfl)
theorem mw_1040 : Cond.lays "java/util/NoSuchElementException" "java/lang/Throwable" "cause" "Ljava/lang/Throwable;" ∈ zz_W := List.mem_append_right _ (List.mem_of_getElem? (i := 263) rfl)
theorem mw_1041 : Cond.lays "java/util/NoSuchElementException" "java/lang/Throwable" "stackTrace" "[Ljava/lang/StackTraceElement;" ∈ zz_W := List.mem_append_right _ (List.mem_of_getElem? (i := 264) rfl)
theorem mw_1042 : Cond.lays "java/util/NoSuchElementException" "java/lang/Throwable" "suppressedExceptions" "Ljava/util/List;" ∈ zz_W := List.mem_append_right _ (List.mem_of_getElem? (i := 265) rfl)
theorem mw_1043 : Cond.lays "java/util/NoSuchElementException" "java/lang/Throwable" "detailMessage" "Ljava/lang/String;" ∈ zz_W := List.mem_append_right _ (List.mem_of_getElem? (i := 266) rfl)
theorem mw_1044 : Cond.lays "java/util/NoSuchElementException" "java/lang/Throwable" "backtrace" "Ljava/lang/Object;" ∈ zz_W := List.mem_append_right _ (List.mem_of_getElem? (i := 267) rfl)
theorem mw_1046 : Cond.methodLink R_FG 130 (⟨"java/util/NoSuchElementException", "<init>", "(Ljava/lang/String;)V"⟩ : MethodName) ∈ zz_W := List.mem_append_right _ (List.mem_of_getElem? (i := 268) rfl)
theorem mw_1047 : Cond.instanceMethod (⟨"java/util/NoSuchElementException", "<init>", "(Ljava/lang/String;)V"⟩ : MethodName) ∈ zz_W := List.mem_append_right _ (List.mem_of_getElem? (i := 269) rfl)
theorem mw_1048 : Cond.code (⟨"java/util/NoSuchElementException", "<init>", "(Ljava/lang/String;)V"⟩ : MethodName) prog_28_method_4_code 2 none ∈ zz_W := List.mem_append_right _ (List.mem_of_getElem? (i := 270) rfl)
theorem mw_1049 : Cond.methodLink "java/util/NoSuchElementException" 13 (⟨"java/lang/RuntimeException", "<init>", "(Ljava/lang/String;)V"⟩ : MethodName) ∈ zz_W := List.mem_append_right _ (List.mem_of_getElem? (i := 271) rfl)
theorem mw_1051 : Cond.superclass "java/util/NoSuchElementException" "java/lang/RuntimeException" ∈ zz_W := List.mem_append_right _ (List.mem_of_getElem? (i := 272) rfl)
theorem mw_1095 : Cond.code y_Mo_init prog_14_method_1_code 1 none ∈ zz_W := List.mem_append_right _ (List.mem_of_getElem? (i := 273) rfl)
theorem mw_1096 : Cond.methodLink R_Mo 5 (⟨"java/lang/Object", "<init>", "()V"⟩ : MethodName) ∈ zz_W := List.mem_append_right _ (List.mem_of_getElem? (i := 274) rfl)
theorem mw_1098 : Cond.fieldLink R_Mo 11 R_Mo "sort" "[I" ∈ zz_W := List.mem_append_right _ (List.mem_of_getElem? (i := 275) rfl)
theorem mw_1099 : Cond.fieldLink R_Mo 15 R_Mo "dst" "[I" ∈ zz_W := List.mem_append_right _ (List.mem_of_getElem? (i := 276) rfl)
theorem mw_1100 : Cond.fieldLink R_Mo 18 R_Mo "src" "[I" ∈ zz_W := List.mem_append_right _ (List.mem_of_getElem? (i := 277) rfl)
theorem mw_1101 : Cond.fieldLink R_Mo 21 R_Mo "off" "[I" ∈ zz_W := List.mem_append_right _ (List.mem_of_getElem? (i := 278) rfl)
theorem mw_1102 : Cond.fieldLink R_Mo 24 R_Mo "imm" "[I" ∈ zz_W := List.mem_append_right _ (List.mem_of_getElem? (i := 279) rfl)
theorem mw_1105 : Cond.fieldLink R_Mo 27 R_Mo "keyBytes" "[I" ∈ zz_W := List.mem_append_right _ (List.mem_of_getElem? (i := 280) rfl)
theorem mw_1106 : Cond.fieldLink R_Mo 30 R_Mo "valueBytes" "[I" ∈ zz_W := List.mem_append_right _ (List.mem_of_getElem? (i := 281) rfl)
theorem mw_1107 : Cond.fieldLink R_Mo 33 R_Mo "places" "[I" ∈ zz_W := List.mem_append_right _ (List.mem_of_getElem? (i := 282) rfl)
theorem mw_1110 : Cond.fieldLink R_Mo 36 R_Mo "faultAt" "I" ∈ zz_W := List.mem_append_right _ (List.mem_of_getElem? (i := 283) rfl)
theorem mw_1112 : Cond.fieldLink R_Mo 40 R_Mo "kind" "[I" ∈ zz_W := List.mem_append_right _ (List.mem_of_getElem? (i := 284) rfl)
theorem mw_1113 : Cond.fieldLink R_Mo 43 R_Mo "mapOf" "[I" ∈ zz_W := List.mem_append_right _ (List.mem_of_getElem? (i := 285) rfl)
theorem mw_1114 : Cond.fieldLink R_Mo 46 R_Mo "tag" "[I" ∈ zz_W := List.mem_append_right _ (List.mem_of_getElem? (i := 286) rfl)
theorem mw_1115 : Cond.fieldLink R_Mo 49 R_Mo "low" "[J" ∈ zz_W := List.mem_append_right _ (List.mem_of_getElem? (i := 287) rfl)
theorem mw_1116 : Cond.fieldLink R_Mo 53 R_Mo "high" "[J" ∈ zz_W := List.mem_append_right _ (List.mem_of_getElem? (i := 288) rfl)
theorem mw_1117 : Cond.fieldLink R_Mo 56 R_Mo "stack" "[I" ∈ zz_W := List.mem_append_right _ (List.mem_of_getElem? (i := 289) rfl)
theorem mw_1118 : Cond.fieldLink R_Mo 59 R_Mo "length" "[I" ∈ zz_W := List.mem_append_right _ (List.mem_of_getElem? (i := 290) rfl)
theorem mw_1119 : Cond.fieldLink R_Mo 62 R_Mo "goesTo" "[I" ∈ zz_W := List.mem_append_right _ (List.mem_of_getElem? (i := 291) rfl)
theorem mw_1122 : Cond.fieldLink R_Mo 65 R_Mo "times" "[I" ∈ zz_W := List.mem_append_right _ (List.mem_of_getElem? (i := 292) rfl)
theorem mw_1123 : Cond.fieldLink R_Mo 68 R_Mo "seen" "[I" ∈ zz_W := List.mem_append_right _ (List.mem_of_getElem? (i := 293) rfl)
theorem mw_1124 : Cond.fieldLink R_Mo 71 R_Mo "leastLow" "[J" ∈ zz_W := List.mem_append_right _ (List.mem_of_getElem? (i := 294) rfl)
theorem mw_1125 : Cond.fieldLink R_Mo 74 R_Mo "mostHigh" "[J" ∈ zz_W := List.mem_append_right _ (List.mem_of_getElem? (i := 295) rfl)
theorem mw_1137 : Cond.fieldLink R_Mo 77 R_Mo "packet" "[B" ∈ zz_W := List.mem_append_right _ (List.mem_of_getElem? (i := 296) rfl)
theorem mw_1139 : Cond.fieldLink R_Mo 81 R_Mo "data" "[B" ∈ zz_W := List.mem_append_right _ (List.mem_of_getElem? (i := 297) rfl)
theorem mw_1140 : Cond.fieldLink R_Mo 84 R_Mo "full" "[Z" ∈ zz_W := List.mem_append_right _ (List.mem_of_getElem? (i := 298) rfl)
theorem mw_1142 : Cond.fieldLink R_Mo 88 R_Mo "log" "[J" ∈ zz_W := List.mem_append_right _ (List.mem_of_getElem? (i := 299) rfl)
theorem mw_1146 : Cond.fieldLink R_Mo 91 R_Mo "is" "[I" ∈ zz_W := List.mem_append_right _ (List.mem_of_getElem? (i := 300) rfl)
theorem mw_1147 : Cond.fieldLink R_Mo 94 R_Mo "ofMap" "[I" ∈ zz_W := List.mem_append_right _ (List.mem_of_getElem? (i := 301) rfl)
theorem mw_1148 : Cond.fieldLink R_Mo 97 R_Mo "ofPlace" "[I" ∈ zz_W := List.mem_append_right _ (List.mem_of_getElem? (i := 302) rfl)
theorem mw_1149 : Cond.fieldLink R_Mo 100 R_Mo "ofTag" "[I" ∈ zz_W := List.mem_append_right _ (List.mem_of_getElem? (i := 303) rfl)
theorem mw_1150 : Cond.fieldLink R_Mo 103 R_Mo "is64" "[J" ∈ zz_W := List.mem_append_right _ (List.mem_of_getElem? (i := 304) rfl)
theorem mw_1151 : Cond.fieldLink R_Mo 106 R_Mo "own" "[B" ∈ zz_W := List.mem_append_right _ (List.mem_of_getElem? (i := 305) rfl)
theorem mw_1153 : Cond.lays R_Mo R_Mo "thrown" "I" ∈ zz_W := List.mem_append_right _ (List.mem_of_getElem? (i := 306) rfl)
theorem mw_1155 : Cond.laysFinal R_Mo R_Mo "sort" "[I" ∈ zz_W := List.mem_append_right _ (List.mem_of_getElem? (i := 307) rfl)
theorem mw_1157 : Cond.laysFinal R_Mo R_Mo "dst" "[I" ∈ zz_W := List.mem_append_right _ (List.mem_of_getElem? (i := 308) rfl)
theorem mw_1159 : Cond.laysFinal R_Mo R_Mo "src" "[I" ∈ zz_W := List.mem_append_right _ (List.mem_of_getElem? (i := 309) rfl)
theorem mw_1161 : Cond.laysFinal R_Mo R_Mo "off" "[I" ∈ zz_W := List.mem_append_right _ (List.mem_of_getElem? (i := 310) rfl)
theorem mw_1163 : Cond.laysFinal R_Mo R_Mo "imm" "[I" ∈ zz_W := List.mem_append_right _ (List.mem_of_getElem? (i := 311) rfl)
theorem mw_1165 : Cond.lays R_Mo R_Mo "many" "I" ∈ zz_W := List.mem_append_right _ (List.mem_of_getElem? (i := 312) rfl)
theorem mw_1167 : Cond.lays R_Mo R_Mo "passed" "Z" ∈ zz_W := List.mem_append_right _ (List.mem_of_getElem? (i := 313) rfl)
theorem mw_1169 : Cond.laysFinal R_Mo R_Mo "keyBytes" "[I" ∈ zz_W := List.mem_append_right _ (List.mem_of_getElem? (i := 314) rfl)
theorem mw_1171 : Cond.laysFinal R_Mo R_Mo "valueBytes" "[I" ∈ zz_W := List.mem_append_right _ (List.mem_of_getElem? (i := 315) rfl)
theorem mw_1173 : Cond.laysFinal R_Mo R_Mo "places" "[I" ∈ zz_W := List.mem_append_right _ (List.mem_of_getElem? (i := 316) rfl)
theorem mw_1175 : Cond.lays R_Mo R_Mo "maps" "I" ∈ zz_W := List.mem_append_right _ (List.mem_of_getElem? (i := 317) rfl)
theorem mw_1177 : Cond.lays R_Mo R_Mo "fault" "I" ∈ zz_W := List.mem_append_right _ (List.mem_of_getElem? (i := 318) rfl)
theorem mw_1179 : Cond.lays R_Mo R_Mo "faultAt" "I" ∈ zz_W := List.mem_append_right _ (List.mem_of_getElem? (i := 319) rfl)
theorem mw_1181 : Cond.lays R_Mo R_Mo "gone" "I" ∈ zz_W := List.mem_append_right _ (List.mem_of_getElem? (i := 320) rfl)
theorem mw_1183 : Cond.laysFinal R_Mo R_Mo "kind" "[I" ∈ zz_W := List.mem_append_right _ (List.mem_of_getElem? (i := 321) rfl)
theorem mw_1185 : Cond.laysFinal R_Mo R_Mo "mapOf" "[I" ∈ zz_W := List.mem_append_right _ (List.mem_of_getElem? (i := 322) rfl)
theorem mw_1187 : Cond.laysFinal R_Mo R_Mo "tag" "[I" ∈ zz_W := List.mem_append_right _ (List.mem_of_getElem? (i := 323) rfl)
theorem mw_1189 : Cond.laysFinal R_Mo R_Mo "low" "[J" ∈ zz_W := List.mem_append_right _ (List.mem_of_getElem? (i := 324) rfl)
theorem mw_1191 : Cond.laysFinal R_Mo R_Mo "high" "[J" ∈ zz_W := List.mem_append_right _ (List.mem_of_getElem? (i := 325) rfl)
theorem mw_1193 : Cond.laysFinal R_Mo R_Mo "stack" "[I" ∈ zz_W := List.mem_append_right _ (List.mem_of_getElem? (i := 326) rfl)
theorem mw_1195 : Cond.laysFinal R_Mo R_Mo "length" "[I" ∈ zz_W := List.mem_append_right _ (List.mem_of_getElem? (i := 327) rfl)
theorem mw_1197 : Cond.laysFinal R_Mo R_Mo "goesTo" "[I" ∈ zz_W := List.mem_append_right _ (List.mem_of_getElem? (i := 328) rfl)
theorem mw_1199 : Cond.lays R_Mo R_Mo "sides" "I" ∈ zz_W := List.mem_append_right _ (List.mem_of_getElem? (i := 329) rfl)
theorem mw_1201 : Cond.lays R_Mo R_Mo "tags" "I" ∈ zz_W := List.mem_append_right _ (List.mem_of_getElem? (i := 330) rfl)
theorem mw_1203 : Cond.laysFinal R_Mo R_Mo "times" "[I" ∈ zz_W := List.mem_append_right _ (List.mem_of_getElem? (i := 331) rfl)
theorem mw_1205 : Cond.laysFinal R_Mo R_Mo "seen" "[I" ∈ zz_W := List.mem_append_right _ (List.mem_of_getElem? (i := 332) rfl)
theorem mw_1207 : Cond.laysFinal R_Mo R_Mo "leastLow" "[J" ∈ zz_W := List.mem_append_right _ (List.mem_of_getElem? (i := 333) rfl)
theorem mw_1209 : Cond.laysFinal R_Mo R_Mo "mostHigh" "[J" ∈ zz_W := List.mem_append_right _ (List.mem_of_getElem? (i := 334) rfl)
theorem mw_1211 : Cond.lays R_Mo R_Mo "a" "J" ∈ zz_W := List.mem_append_right _ (List.mem_of_getElem? (i := 335) rfl)
theorem mw_1213 : Cond.lays R_Mo R_Mo "b" "J" ∈ zz_W := List.mem_append_right _ (List.mem_of_getElem? (i := 336) rfl)
theorem mw_1215 : Cond.lays R_Mo R_Mo "fits" "Z" ∈ zz_W := List.mem_append_right _ (List.mem_of_getElem? (i := 337) rfl)
theorem mw_1217 : Cond.lays R_Mo R_Mo "xl" "J" ∈ zz_W := List.mem_append_right _ (List.mem_of_getElem? (i := 338) rfl)
theorem mw_1219 : Cond.lays R_Mo R_Mo "xh" "J" ∈ zz_W := List.mem_append_right _ (List.mem_of_getElem? (i := 339) rfl)
theorem mw_1221 : Cond.lays R_Mo R_Mo "yl" "J" ∈ zz_W := List.mem_append_right _ (List.mem_of_getElem? (i := 340) rfl)
theorem mw_1223 : Cond.lays R_Mo R_Mo "yh" "J" ∈ zz_W := List.mem_append_right _ (List.mem_of_getElem? (i := 341) rfl)
theorem mw_1225 : Cond.lays R_Mo R_Mo "next" "Z" ∈ zz_W := List.mem_append_right _ (List.mem_of_getElem? (i := 342) rfl)
theorem mw_1227 : Cond.lays R_Mo R_Mo "other" "Z" ∈ zz_W := List.mem_append_right _ (List.mem_of_getElem? (i := 343) rfl)
theorem mw_1229 : Cond.lays R_Mo R_Mo "waits" "I" ∈ zz_W := List.mem_append_right _ (List.mem_of_getElem? (i := 344) rfl)
theorem mw_1231 : Cond.lays R_Mo R_Mo "to" "I" ∈ zz_W := List.mem_append_right _ (List.mem_of_getElem? (i := 345) rfl)
theorem mw_1233 : Cond.laysFinal R_Mo R_Mo "packet" "[B" ∈ zz_W := List.mem_append_right _ (List.mem_of_getElem? (i := 346) rfl)
theorem mw_1235 : Cond.lays R_Mo R_Mo "packetEnd" "I" ∈ zz_W := List.mem_append_right _ (List.mem_of_getElem? (i := 347) rfl)
theorem mw_1237 : Cond.laysFinal R_Mo R_Mo "data" "[B" ∈ zz_W := List.mem_append_right _ (List.mem_of_getElem? (i := 348) rfl)
theorem mw_1239 : Cond.laysFinal R_Mo R_Mo "full" "[Z" ∈ zz_W := List.mem_append_right _ (List.mem_of_getElem? (i := 349) rfl)
theorem mw_1241 : Cond.lays R_Mo R_Mo "seed" "J" ∈ zz_W := List.mem_append_right _ (List.mem_of_getElem? (i := 350) rfl)
theorem mw_1243 : Cond.laysFinal R_Mo R_Mo "log" "[J" ∈ zz_W := List.mem_append_right _ (List.mem_of_getElem? (i := 351) rfl)
theorem mw_1245 : Cond.lays R_Mo R_Mo "logged" "I" ∈ zz_W := List.mem_append_right _ (List.mem_of_getElem? (i := 352) rfl)
theorem mw_1247 : Cond.lays R_Mo R_Mo "done" "I" ∈ zz_W := List.mem_append_right _ (List.mem_of_getElem? (i := 353) rfl)
theorem mw_1249 : Cond.lays R_Mo R_Mo "wrong" "I" ∈ zz_W := List.mem_append_right _ (List.mem_of_getElem? (i := 354) rfl)
theorem mw_1251 : Cond.laysFinal R_Mo R_Mo "is" "[I" ∈ zz_W := List.mem_append_right _ (List.mem_of_getElem? (i := 355) rfl)
theorem mw_1253 : Cond.laysFinal R_Mo R_Mo "ofMap" "[I" ∈ zz_W := List.mem_append_right _ (List.mem_of_getElem? (i := 356) rfl)
theorem mw_1255 : Cond.laysFinal R_Mo R_Mo "ofPlace" "[I" ∈ zz_W := List.mem_append_right _ (List.mem_of_getElem? (i := 357) rfl)
theorem mw_1257 : Cond.laysFinal R_Mo R_Mo "ofTag" "[I" ∈ zz_W := List.mem_append_right _ (List.mem_of_getElem? (i := 358) rfl)
theorem mw_1259 : Cond.laysFinal R_Mo R_Mo "is64" "[J" ∈ zz_W := List.mem_append_right _ (List.mem_of_getElem? (i := 359) rfl)
theorem mw_1261 : Cond.laysFinal R_Mo R_Mo "own" "[B" ∈ zz_W := List.mem_append_right _ (List.mem_of_getElem? (i := 360) rfl)
theorem mw_1263 : Cond.lays R_Mo R_Mo "runTags" "I" ∈ zz_W := List.mem_append_right _ (List.mem_of_getElem? (i := 361) rfl)
theorem mw_oinit : Cond.code objectInit ⟨#[0xb1]⟩ 1 none ∈ zz_W := List.mem_append_right _ (List.mem_of_getElem? (i := 18) rfl)
theorem mw_sel_Mo_no : Cond.selects R_Mo y_Mo_no y_Mo_no ∈ zz_W := List.mem_append_left _ (List.mem_of_getElem? (i := 0) rfl)
theorem mn_37 : Cond.methodLinkNest R_FG 11 y_Pr_init R_FG ∈ zz_NT := List.mem_of_getElem? (i := 0) rfl
theorem mn_76 : Cond.methodLinkNest R_FG 18 y_Ma_init R_FG ∈ zz_NT := List.mem_of_getElem? (i := 1) rfl
theorem mn_148 : Cond.methodLinkNest R_FG 34 y_Fo_init R_FG ∈ zz_NT := List.mem_of_getElem? (i := 2) rfl
theorem mn_174 : Cond.methodLinkNest R_Ch 11 y_St_init R_FG ∈ zz_NT := List.mem_of_getElem? (i := 3) rfl
theorem mn_215 : Cond.methodLinkNest R_Ch 27 y_Ra_init R_FG ∈ zz_NT := List.mem_of_getElem? (i := 4) rfl
theorem mn_390 : Cond.castable "java/lang/IllegalArgumentException" "java/lang/IllegalArgumentException" ∈ zz_NT := List.mem_of_getElem? (i := 5) rfl
theorem mn_392 : Cond.declares (⟨"java/lang/RuntimeException", "<init>", "(Ljava/lang/String;)V"⟩ : MethodName) ∈ zz_NT := List.mem_of_getElem? (i := 6) rfl
theorem mn_394 : Cond.declares (⟨"java/lang/Exception", "<init>", "(Ljava/lang/String;)V"⟩ : MethodName) ∈ zz_NT := List.mem_of_getElem? (i := 7) rfl
theorem mn_396 : Cond.declares (⟨"java/lang/Throwable", "<init>", "(Ljava/lang/String;)V"⟩ : MethodName) ∈ zz_NT := List.mem_of_getElem? (i := 8) rfl
theorem mn_459 : Cond.castable "java/lang/IllegalStateException" "java/lang/IllegalStateException" ∈ zz_NT := List.mem_of_getElem? (i := 9) rfl
theorem mn_844 : Cond.castable "java/lang/IndexOutOfBoundsException" "java/lang/IndexOutOfBoundsException" ∈ zz_NT := List.mem_of_getElem? (i := 10) rfl
theorem mn_1038 : Cond.castable "java/util/NoSuchElementException" "java/util/NoSuchElementException" ∈ zz_NT := List.mem_of_getElem? (i := 11) rfl
set_option maxRecDepth 100000 in
theorem i_FG : ∀ w ∈ u_ws R_FG F_FG 7, w ∈ zz_W := by
  intro w hw
  obtain ⟨j, hj, rfl⟩ := List.mem_map.mp hw
  have hj := List.mem_range.mp hj
  match j, hj with
  | 0, _ => exact mw_330
  | 1, _ => exact mw_332
  | 2, _ => exact mw_334
  | 3, _ => exact mw_336
  | 4, _ => exact mw_338
  | 5, _ => exact mw_340
  | 6, _ => exact mw_342
  | j + 7, h => exact absurd h (by omega)
set_option maxRecDepth 100000 in
theorem i_Pr : ∀ w ∈ u_ws R_Pr F_Pr 6, w ∈ zz_W := by
  intro w hw
  obtain ⟨j, hj, rfl⟩ := List.mem_map.mp hw
  have hj := List.mem_range.mp hj
  match j, hj with
  | 0, _ => exact mw_60
  | 1, _ => exact mw_62
  | 2, _ => exact mw_64
  | 3, _ => exact mw_66
  | 4, _ => exact mw_68
  | 5, _ => exact mw_70
  | j + 6, h => exact absurd h (by omega)
set_option maxRecDepth 100000 in
theorem i_Ma : ∀ w ∈ u_ws R_Ma F_Ma 8, w ∈ zz_W := by
  intro w hw
  obtain ⟨j, hj, rfl⟩ := List.mem_map.mp hw
  have hj := List.mem_range.mp hj
  match j, hj with
  | 0, _ => exact mw_100
  | 1, _ => exact mw_102
  | 2, _ => exact mw_104
  | 3, _ => exact mw_106
  | 4, _ => exact mw_108
  | 5, _ => exact mw_110
  | 6, _ => exact mw_112
  | 7, _ => exact mw_114
  | j + 8, h => exact absurd h (by omega)
set_option maxRecDepth 100000 in
theorem i_Me : ∀ w ∈ u_ws R_Me F_Me 5, w ∈ zz_W := by
  intro w hw
  obtain ⟨j, hj, rfl⟩ := List.mem_map.mp hw
  have hj := List.mem_range.mp hj
  match j, hj with
  | 0, _ => exact mw_135
  | 1, _ => exact mw_137
  | 2, _ => exact mw_139
  | 3, _ => exact mw_141
  | 4, _ => exact mw_143
  | j + 5, h => exact absurd h (by omega)
set_option maxRecDepth 100000 in
theorem i_Fo : ∀ w ∈ u_ws R_Fo F_Fo 4, w ∈ zz_W := by
  intro w hw
  obtain ⟨j, hj, rfl⟩ := List.mem_map.mp hw
  have hj := List.mem_range.mp hj
  match j, hj with
  | 0, _ => exact mw_156
  | 1, _ => exact mw_158
  | 2, _ => exact mw_160
  | 3, _ => exact mw_162
  | j + 4, h => exact absurd h (by omega)
set_option maxRecDepth 100000 in
theorem i_Ch : ∀ w ∈ u_ws R_Ch F_Ch 14, w ∈ zz_W := by
  intro w hw
  obtain ⟨j, hj, rfl⟩ := List.mem_map.mp hw
  have hj := List.mem_range.mp hj
  match j, hj with
  | 0, _ => exact mw_247
  | 1, _ => exact mw_249
  | 2, _ => exact mw_251
  | 3, _ => exact mw_253
  | 4, _ => exact mw_255
  | 5, _ => exact mw_257
  | 6, _ => exact mw_259
  | 7, _ => exact mw_261
  | 8, _ => exact mw_263
  | 9, _ => exact mw_265
  | 10, _ => exact mw_267
  | 11, _ => exact mw_269
  | 12, _ => exact mw_271
  | 13, _ => exact mw_273
  | j + 14, h => exact absurd h (by omega)
set_option maxRecDepth 100000 in
theorem i_St : ∀ w ∈ u_ws R_St F_St 8, w ∈ zz_W := by
  intro w hw
  obtain ⟨j, hj, rfl⟩ := List.mem_map.mp hw
  have hj := List.mem_range.mp hj
  match j, hj with
  | 0, _ => exact mw_195
  | 1, _ => exact mw_197
  | 2, _ => exact mw_199
  | 3, _ => exact mw_201
  | 4, _ => exact mw_203
  | 5, _ => exact mw_205
  | 6, _ => exact mw_207
  | 7, _ => exact mw_209
  | j + 8, h => exact absurd h (by omega)
set_option maxRecDepth 100000 in
theorem i_Ra : ∀ w ∈ u_ws R_Ra F_Ra 2, w ∈ zz_W := by
  intro w hw
  obtain ⟨j, hj, rfl⟩ := List.mem_map.mp hw
  have hj := List.mem_range.mp hj
  match j, hj with
  | 0, _ => exact mw_225
  | 1, _ => exact mw_227
  | j + 2, h => exact absurd h (by omega)
set_option maxRecDepth 100000 in
theorem i_Ru : ∀ w ∈ u_ws R_Ru F_Ru 12, w ∈ zz_W := by
  intro w hw
  obtain ⟨j, hj, rfl⟩ := List.mem_map.mp hw
  have hj := List.mem_range.mp hj
  match j, hj with
  | 0, _ => exact mw_298
  | 1, _ => exact mw_300
  | 2, _ => exact mw_302
  | 3, _ => exact mw_304
  | 4, _ => exact mw_306
  | 5, _ => exact mw_308
  | 6, _ => exact mw_310
  | 7, _ => exact mw_312
  | 8, _ => exact mw_314
  | 9, _ => exact mw_316
  | 10, _ => exact mw_318
  | 11, _ => exact mw_320
  | j + 12, h => exact absurd h (by omega)
set_option maxRecDepth 100000 in
theorem i_Mo : ∀ w ∈ u_ws R_Mo F_Mo 56, w ∈ zz_W := by
  intro w hw
  obtain ⟨j, hj, rfl⟩ := List.mem_map.mp hw
  have hj := List.mem_range.mp hj
  match j, hj with
  | 0, _ => exact mw_1153
  | 1, _ => exact mw_1155
  | 2, _ => exact mw_1157
  | 3, _ => exact mw_1159
  | 4, _ => exact mw_1161
  | 5, _ => exact mw_1163
  | 6, _ => exact mw_1165
  | 7, _ => exact mw_1167
  | 8, _ => exact mw_1169
  | 9, _ => exact mw_1171
  | 10, _ => exact mw_1173
  | 11, _ => exact mw_1175
  | 12, _ => exact mw_1177
  | 13, _ => exact mw_1179
  | 14, _ => exact mw_1181
  | 15, _ => exact mw_1183
  | 16, _ => exact mw_1185
  | 17, _ => exact mw_1187
  | 18, _ => exact mw_1189
  | 19, _ => exact mw_1191
  | 20, _ => exact mw_1193
  | 21, _ => exact mw_1195
  | 22, _ => exact mw_1197
  | 23, _ => exact mw_1199
  | 24, _ => exact mw_1201
  | 25, _ => exact mw_1203
  | 26, _ => exact mw_1205
  | 27, _ => exact mw_1207
  | 28, _ => exact mw_1209
  | 29, _ => exact mw_1211
  | 30, _ => exact mw_1213
  | 31, _ => exact mw_1215
  | 32, _ => exact mw_1217
  | 33, _ => exact mw_1219
  | 34, _ => exact mw_1221
  | 35, _ => exact mw_1223
  | 36, _ => exact mw_1225
  | 37, _ => exact mw_1227
  | 38, _ => exact mw_1229
  | 39, _ => exact mw_1231
  | 40, _ => exact mw_1233
  | 41, _ => exact mw_1235
  | 42, _ => exact mw_1237
  | 43, _ => exact mw_1239
  | 44, _ => exact mw_1241
  | 45, _ => exact mw_1243
  | 46, _ => exact mw_1245
  | 47, _ => exact mw_1247
  | 48, _ => exact mw_1249
  | 49, _ => exact mw_1251
  | 50, _ => exact mw_1253
  | 51, _ => exact mw_1255
  | 52, _ => exact mw_1257
  | 53, _ => exact mw_1259
  | 54, _ => exact mw_1261
  | 55, _ => exact mw_1263
  | j + 56, h => exact absurd h (by omega)
theorem hd_St_init : y_St_init.cls ≠ "java/lang/invoke/MethodHandle" ∧ y_St_init.cls ≠ "java/lang/invoke/VarHandle" ∧ (parseMethodDescriptor y_St_init.desc).map (fun d => d.parameters.length) = some 0 := by decide +kernel
theorem hd_Ra_init : y_Ra_init.cls ≠ "java/lang/invoke/MethodHandle" ∧ y_Ra_init.cls ≠ "java/lang/invoke/VarHandle" ∧ (parseMethodDescriptor y_Ra_init.desc).map (fun d => d.parameters.length) = some 0 := by decide +kernel
theorem hd_Pr_init : y_Pr_init.cls ≠ "java/lang/invoke/MethodHandle" ∧ y_Pr_init.cls ≠ "java/lang/invoke/VarHandle" ∧ (parseMethodDescriptor y_Pr_init.desc).map (fun d => d.parameters.length) = some 0 := by decide +kernel
theorem hd_Ma_init : y_Ma_init.cls ≠ "java/lang/invoke/MethodHandle" ∧ y_Ma_init.cls ≠ "java/lang/invoke/VarHandle" ∧ (parseMethodDescriptor y_Ma_init.desc).map (fun d => d.parameters.length) = some 0 := by decide +kernel
theorem hd_Me_init : y_Me_init.cls ≠ "java/lang/invoke/MethodHandle" ∧ y_Me_init.cls ≠ "java/lang/invoke/VarHandle" ∧ (parseMethodDescriptor y_Me_init.desc).map (fun d => d.parameters.length) = some 1 := by decide +kernel
theorem hd_Fo_init : y_Fo_init.cls ≠ "java/lang/invoke/MethodHandle" ∧ y_Fo_init.cls ≠ "java/lang/invoke/VarHandle" ∧ (parseMethodDescriptor y_Fo_init.desc).map (fun d => d.parameters.length) = some 0 := by decide +kernel
theorem hd_Ch_init : y_Ch_init.cls ≠ "java/lang/invoke/MethodHandle" ∧ y_Ch_init.cls ≠ "java/lang/invoke/VarHandle" ∧ (parseMethodDescriptor y_Ch_init.desc).map (fun d => d.parameters.length) = some 3 := by decide +kernel
theorem hd_Ru_init : y_Ru_init.cls ≠ "java/lang/invoke/MethodHandle" ∧ y_Ru_init.cls ≠ "java/lang/invoke/VarHandle" ∧ (parseMethodDescriptor y_Ru_init.desc).map (fun d => d.parameters.length) = some 3 := by decide +kernel
theorem x_IAE_0 : decode prog_17_method_2_code 0 = .ok (.aload_n 0, 1) := by decide +kernel
theorem x_IAE_1 : decode prog_17_method_2_code 1 = .ok (.aload_n 1, 1) := by decide +kernel
theorem x_IAE_2 : decode prog_17_method_2_code 2 = .ok (.invokespecial 7, 3) := by decide +kernel
theorem x_IAE_5 : decode prog_17_method_2_code 5 = .ok (.return_, 1) := by decide +kernel
set_option maxRecDepth 1000000 in
theorem zz_ow_IAE : ∀ a ∈ th_own R_FG 69 E_IAE 7 prog_17_method_2_code, a ∈ zz_W ∨ a ∈ zz_NT := by decide +kernel
theorem x_ISE_0 : decode prog_18_method_2_code 0 = .ok (.aload_n 0, 1) := by decide +kernel
theorem x_ISE_1 : decode prog_18_method_2_code 1 = .ok (.aload_n 1, 1) := by decide +kernel
theorem x_ISE_2 : decode prog_18_method_2_code 2 = .ok (.invokespecial 7, 3) := by decide +kernel
theorem x_ISE_5 : decode prog_18_method_2_code 5 = .ok (.return_, 1) := by decide +kernel
set_option maxRecDepth 1000000 in
theorem zz_ow_ISE : ∀ a ∈ th_own R_FG 80 E_ISE 7 prog_18_method_2_code, a ∈ zz_W ∨ a ∈ zz_NT := by decide +kernel
theorem x_IOE_0 : decode prog_19_method_2_code 0 = .ok (.aload_n 0, 1) := by decide +kernel
theorem x_IOE_1 : decode prog_19_method_2_code 1 = .ok (.aload_n 1, 1) := by decide +kernel
theorem x_IOE_2 : decode prog_19_method_2_code 2 = .ok (.invokespecial 7, 3) := by decide +kernel
theorem x_IOE_5 : decode prog_19_method_2_code 5 = .ok (.return_, 1) := by decide +kernel
set_option maxRecDepth 1000000 in
theorem zz_ow_IOE : ∀ a ∈ th_own R_FG 109 E_IOE 7 prog_19_method_2_code, a ∈ zz_W ∨ a ∈ zz_NT := by decide +kernel
theorem x_NSE_0 : decode prog_28_method_4_code 0 = .ok (.aload_n 0, 1) := by decide +kernel
theorem x_NSE_1 : decode prog_28_method_4_code 1 = .ok (.aload_n 1, 1) := by decide +kernel
theorem x_NSE_2 : decode prog_28_method_4_code 2 = .ok (.invokespecial 13, 3) := by decide +kernel
theorem x_NSE_5 : decode prog_28_method_4_code 5 = .ok (.return_, 1) := by decide +kernel
set_option maxRecDepth 1000000 in
theorem zz_ow_NSE : ∀ a ∈ th_own R_FG 130 E_NSE 13 prog_28_method_4_code, a ∈ zz_W ∨ a ∈ zz_NT := by decide +kernel
set_option maxRecDepth 1000000 in
theorem zz_up_in : ∀ a ∈ th_up, a ∈ zz_W ∨ a ∈ zz_NT ∨ a = .laysStatic Bundle.tN "UNASSIGNED_STACK" Bundle.steD ∨ a = .laysStatic Bundle.tN "SUPPRESSED_SENTINEL" Bundle.listD := by decide +kernel
/-- the tables' words that a contract's own list doesn't take -/
def zz_SR : List (Nat × String) := []
def zz_T (U : State) : Prop := (∀ w ∈ zz_NT, va_Nw w U) ∧ va_AO R_St U ∧ va_Nc E_NSE E_IAE U ∧ ∀ r ∈ zz_SR, ∃ q, vk_R R_FG r.1 r.2 q U
