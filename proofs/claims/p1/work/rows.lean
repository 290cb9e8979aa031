section
/-! Throwing and catching over the kit's W: a method's end by an exception of its own making; a call that throws, caught by the caller's own table; contracts of methods that have a table of handlers. -/
section THA
variable {p : Program} {l : Launch} {e : Env} {R : Room} {s : State} {m : MethodId} {args : Array Value} {below : List Frame} {meth : Method} {c : Code} {H : Heap} {locs : List Loc} {cells slots : Nat} {Q : State → Prop}
/-- the end by an exception: a new cell of the class E, nothing that was there has changed -/
def th_Q (E : String) (mc ms : Nat) : Array Value → State → Outcome → State → Prop := fun _ st o t =>
  ∃ (x : Addr) (ce : Cell), o = .threw x ∧ st.heap.size ≤ x ∧ t.heap[x]? = some ce ∧ ce.vm = .none ∧ st.vm.findClass E = some ce.cls ∧ st.WarmedH t.vm ∧ st.sameButNew ({ t with vm := st.vm } : State) [] mc ms
def th_Met (l : Launch) (y : MethodName) (ws : List Cond) (rm : Room) (Pc : Array Value → State → Prop) (E : String) (mc ms : Nat) : Prop :=
  MetFree l y (headSpec ws rm) Pc (fun _ _ _ _ _ => True) (th_Q E mc ms)
def th_End (below : List Frame) (E : String) (args : Array Value) (s : State) (mc ms : Nat) : State → Prop := fun t =>
  ∃ o, t.status = .running ∧ Ended t below o ∧ th_Q E mc ms args s o t
theorem th_ofW {y : MethodName} {ws ws' : List Cond} {rm : Room} {Pc : Array Value → State → Prop} {E : String} {mc ms : Nat} {cc : ByteArray} {maxL : Nat} {ret : Option FieldType}
    (hy : plainName y.cls = true) (hw : ws = Cond.code y cc maxL ret :: ws')
    (body : ∀ p e s m args below meth c s₁, BodyLoose p l y (headSpec ws rm) cc maxL ret e s m args below meth c s₁ → c.maxLocals = maxL → Pc args s →
      W p l e (headSpec ws rm).room s m args below meth c s.heap [] 0 0 (th_End below E args s mc ms) (entryFrame m args maxL)) : th_Met l y ws rm Pc E mc ms := by
  refine MetFree.of_bodyS (code := cc) (maxLocals := maxL) (ret := ret) hy ?_ ?_
  · intro args s m h hn
    obtain ⟨meth, c, h1, h2, h3, h4, h5, h6, -, -⟩ := Cond.code_spec hn (atoms_spec (ws := ws) h _ (by rw [hw]; exact List.mem_cons_self))
    exact ⟨meth, c, h1, h2, h3, h4, h5, h6⟩
  · intro p e s m args below meth c s₁ B hml hP _
    have hh0 : s₁.heap = s.heap := by rw [B.state]; rfl
    obtain ⟨t, a1, o, b1, b2, b3⟩ := body p e s m args below meth c s₁ B hml hP s₁ hh0 (Stand.of_body B)
    exact ⟨t, o, a1, b1, b2, b3⟩
/-- cells that were there, where no slot may have changed, are as they were -/
theorem th_same {st t : State} {mc ms : Nat} (h : st.sameButNew t [] mc ms) : st.heap.size ≤ t.heap.size ∧ ∀ q : Nat, q < st.heap.size → t.heap[q]? = st.heap[q]? := by
  obtain ⟨-, h2, -, -, -, h6⟩ := h
  refine ⟨h2, fun q hq => ?_⟩
  have hc : st.heap[q]? = some st.heap[q] := Array.getElem?_eq_getElem hq
  obtain ⟨c', e1, e2, e3, e4⟩ := h6 q _ hc
  have hs : c'.slots = st.heap[q].slots := by
    apply Array.ext
    · exact e3
    · intro i h1 h3
      have := e4 i (by intro h; cases h)
      rw [Array.getElem?_eq_getElem h1, Array.getElem?_eq_getElem h3] at this
      exact Option.some.inj this
  rw [e1, hc, e2, hs]
/-- an exception's class right below RuntimeException: its links, by its own tables' words -/
def th_rt : String := "java/lang/RuntimeException"
def th_up : List Cond := Bundle.chainSAtoms th_rt ["java/lang/Exception"] ++ (Bundle.throwableSAtoms ++ Bundle.throwableAtoms)
def th_own (own : String) (ic : Nat) (E : String) (ip : Nat) (bp : ByteArray) : List Cond :=
  Bundle.passSAtoms E th_rt ip bp ++ [.methodLink own ic (Bundle.initS E), .instantiable E 6, .selects E Bundle.tFill0 Bundle.tFill0, .selects E Bundle.tFill Bundle.tFill,
    .lays E Bundle.tN "cause" "Ljava/lang/Throwable;", .lays E Bundle.tN "stackTrace" Bundle.steD, .lays E Bundle.tN "suppressedExceptions" Bundle.listD, .lays E Bundle.tN "detailMessage" "Ljava/lang/String;",
    .fieldLink Bundle.tN 198 Bundle.tN "backtrace" "Ljava/lang/Object;", .lays Bundle.tN Bundle.tN "backtrace" "Ljava/lang/Object;", .lays E Bundle.tN "backtrace" "Ljava/lang/Object;"]
/-- the statics of Throwable that its constructor reads -/
def th_st (args : Array Value) (s : State) : Prop := (Cond.isRef (.static Bundle.tN "UNASSIGNED_STACK" Bundle.steD)).before args s = true ∧ (Cond.isRef (.static Bundle.tN "SUPPRESSED_SENTINEL" Bundle.listD)).before args s = true
set_option maxHeartbeats 2000000 in
/-- E.<init>(text), athrow, out of the method: from the constructor's call on -/
theorem th_made {cc : ByteArray} (hexec : p.tables.exec = Jvm.exec) (hb : c.code = cc) (hfl : l.flags = Jvm.pinnedFlags ++ [Jvm.noTraceFlag]) {own E : String} {ic ip : Nat} {bp : ByteArray}
    (hown : s.vm.findClass own = some m.cls) (hfit : Bundle.fit E = true) (b0 : decode bp 0 = .ok (.aload_n 0, 1)) (b1 : decode bp 1 = .ok (.aload_n 1, 1)) (b2 : decode bp 2 = .ok (.invokespecial ip, 3)) (b5 : decode bp 5 = .ok (.return_, 1))
    (hup : ∀ a ∈ th_up, a.before args s = true) (hw : ∀ a ∈ th_own own ic E ip bp, a.before args s = true) (hst : th_st args s)
    {cX : ClassId} {kX : Class} (hfX : s.vm.findClass E = some cX) (hkX : s.vm.classes[cX]? = some kX) {x : Addr} (hcell : H[x]? = some (freshCell cX kX)) (hle : s.heap.size ≤ x) {msg : Addr}
    {pc : Nat} {ls : Array Slot} (hsize : ls.size = c.maxLocals) (d6 : decode cc pc = .ok (.invokespecial ic, 3)) (d9 : decode cc (pc + 3) = .ok (.athrow, 1)) (hex : c.exceptionTable.isEmpty = true)
    (hRf : 6 ≤ R.frames) (hRl : 82 ≤ R.locals) (hlocks : meth.locks = false) :
    W p l e R s m args below meth c H [] cells slots (th_End below E args s cells slots) (F0 m pc ls [.ref msg, .ref x, .ref x]) := by
  intro S hS X
  have hpl : e.platform.magicAccessors = ({} : Platform).magicAccessors := by rw [X.admits.platform]
  have htr : e.platform.stackTraces = false := Launch.traces_off hfl X.admits
  have wh : ∀ a ∈ th_own own ic E ip bp, a.holds args s none s [] = true := fun a ha => hw a ha
  obtain ⟨T, Z0, L, -, Y⟩ := ThrowableC.of_atoms (args := args) (s := s) (pl := e.platform) (by rw [X.admits.platform]) (by rw [X.admits.platform]) hpl (fun a ha => hup a (by simp [th_up, ha]))
  obtain ⟨Z, M, LZ, LM, hnZ⟩ := Init0T.ofS_atoms (args := args) hpl L Y (fun a ha => hup a (by simp [th_up, ha]))
  obtain ⟨P2, P3, hlen, L2, L3, hP2, hs2, hs3⟩ := Bundle.chainS (args := args) hpl hnZ ["java/lang/Exception"] th_rt (by decide) (by decide) (fun a ha => hup a (by simp [th_up, ha]))
  obtain ⟨P1, L1, hP1, hs1⟩ := PassC.ofS_atoms (args := args) (s := s) hpl (X := E) (Y := th_rt) (Bundle.fit_spec hfit).1 (by decide) b0 b1 b2 b5 (fun a ha => hw a (by simp [th_own, ha]))
  have hchain : PassesOn (Z.m T.toThrowableT) ((P1 :: P2 :: P3).map (·.toPassT)) := ⟨Option.some.inj (hs1.symm.trans hP2), hs2, hs3⟩
  have hall : ∀ P, P ∈ P1 :: P2 :: P3 → P.LinksS e.platform s := by
    intro P hP
    rcases List.mem_cons.mp hP with rfl | hP
    · exact L1
    · rcases List.mem_cons.mp hP with rfl | hP
      · exact L2
      · exact L3 P hP
  have hfE : s.vm.findClass E = some P1.m.cls := findClass_of_methodNamed hP1
  cases hfX.symm.trans hfE
  obtain ⟨c1, k1, g1, g2, hord, -, -, hn6⟩ := Cond.instantiable_spec (wh (.instantiable E 6) (by simp [th_own]))
  cases g1.symm.trans hfX
  cases g2.symm.trans hkX
  have sel : ∀ (y : MethodName) (my : MethodId), s.methodNamed? y = some my → (y.cls ≠ "java/lang/invoke/MethodHandle" ∧ y.cls ≠ "java/lang/invoke/VarHandle") → (Cond.selects E y y).holds args s none s [] = true → selectMethod e.platform s.vm P1.m.cls my = .method my := by
    intro y my h1 h2 h3
    obtain ⟨c2, r2, m2, q1, q2, q3, q4, -⟩ := Cond.selects_spec h3
    cases q1.symm.trans hfX
    cases q2.symm.trans (State.methodFound?_of_named h1 h2)
    cases q3.symm.trans h1
    rw [Launch.admits_selectMethod X.admits]
    exact q4
  obtain ⟨cellS0, hcS0, hiss⟩ := Y.statics
  obtain ⟨u0, hu0⟩ := Cond.staticRefV Y.unassigned L.unassignedStatic L.statics hcS0 hiss hst.1
  obtain ⟨sen, hsen⟩ := Cond.staticRefV Y.sentinel L.sentinelStatic L.statics hcS0 hiss hst.2
  obtain ⟨z1, z2⟩ := th_same X.same
  have hcS : S.heap[T.aS]? = some cellS0 := (z2 T.aS (Array.getElem?_eq_some_iff.mp hcS0).1).trans hcS0
  have hneS : T.aS ≠ x := Nat.ne_of_lt (Nat.lt_of_lt_of_le (Array.getElem?_eq_some_iff.mp hcS0).1 hle)
  have hkn : cellS0.vm ≠ .unknown := fun hu => by rw [hu] at hiss; cases hiss
  obtain ⟨iM, hffM⟩ := Y.msg
  obtain ⟨ciB, iB, fB, hkB, hgB, haB, hsB, -, hnB, htB, hffB⟩ := Cond.ownField (t := .object "java/lang/Object") Y.found L.cls (by decide +kernel) (wh (.fieldLink Bundle.tN 198 Bundle.tN "backtrace" "Ljava/lang/Object;") (by simp [th_own])) (wh (.lays Bundle.tN Bundle.tN "backtrace" "Ljava/lang/Object;") (by simp [th_own])) e.platform hpl
  obtain ⟨tyC, dC, hdC, hdnC⟩ := Cond.laysAt hfX hkX Y.cause (wh (.lays E Bundle.tN "cause" "Ljava/lang/Throwable;") (by simp [th_own]))
  obtain ⟨tyS, dS, hdS, hdnS⟩ := Cond.laysAt hfX hkX Y.stack (wh (.lays E Bundle.tN "stackTrace" Bundle.steD) (by simp [th_own]))
  obtain ⟨tyP, dP, hdP, hdnP⟩ := Cond.laysAt hfX hkX Y.supp (wh (.lays E Bundle.tN "suppressedExceptions" Bundle.listD) (by simp [th_own]))
  obtain ⟨tyM, dM, hdM, hdnM⟩ := Cond.laysAt hfX hkX hffM (wh (.lays E Bundle.tN "detailMessage" "Ljava/lang/String;") (by simp [th_own]))
  obtain ⟨tyB, dB, hdB, hdnB⟩ := Cond.laysAt hfX hkX hffB (wh (.lays E Bundle.tN "backtrace" "Ljava/lang/Object;") (by simp [th_own]))
  have bC := Cond.laysApart hdB hdC hdnB hdnC (by rw [hnB, Y.causeName]; decide)
  have bS := Cond.laysApart hdB hdS hdnB hdnS (by rw [hnB, Y.stackName]; decide)
  have bP := Cond.laysApart hdB hdP hdnB hdnP (by rw [hnB, Y.suppName]; decide)
  have hskip : SkipFacts T e.platform s (fun u => u) u0 ((preparedCellV T.toThrowableT (freshCell P1.m.cls kX) x u0 sen).withEntry S.cur) := by
    refine ⟨{ ci198 := ciB, i198 := iB, fBack := fB }, ⟨hkB, hgB, haB, hsB⟩, ?_, fun _ _ => rfl⟩
    have h9 := fresh_default (c := P1.m.cls) tyB
    rw [htB] at h9
    simpa [preparedCellV, Cell.setSlot, Cell.withEntry, Array.getElem?_setIfInBounds, bC, bS, bP, bC.symm, bS.symm, bP.symm, defaultValue] using h9
  have d6' : decode c.code (F0 m pc ls [.ref msg, .ref x, .ref x]).pc = .ok (.invokespecial ic, 3) := by rw [hb]; exact d6
  obtain ⟨tm, methC, cdC, kC, vm₁, hnC, -, -, -, -, -, -, -, hW₁, st1⟩ := Steps.initColdS (tb := p.tables) (e := e) (below := below) (s := s) (U := S) X.here hexec X.warmed hpl hown (t := Bundle.initS E) rfl rfl (Bundle.fit_spec hfit).2
    (wh (.methodLink own ic (Bundle.initS E)) (by simp [th_own])) (hw (.instanceMethod (Bundle.initS E)) (by simp [th_own, Bundle.passSAtoms])) (bytes := bp) (maxL := 2) (hw (.code (Bundle.initS E) bp 2 none) (by simp [th_own, Bundle.passSAtoms]))
    (f := F0 m pc ls [.ref msg, .ref x, .ref x]) rfl (a := x) (msg := .ref msg) (rest := [.ref x]) rfl d6'
  cases hnC.symm.trans hP1
  have X₁ := X.noted hW₁
  have hcell' : (S.setVm vm₁).heap[x]? = some (freshCell P1.m.cls kX) := by
    show S.heap[x]? = _
    rw [hS]; exact hcell
  obtain ⟨vm₂, X₂, st2⟩ := X₁.ctorMessageOffV hexec (g := F0 m pc ls [.ref x]) rfl hsize T L Z LZ M LM (P1 :: P2 :: P3) hall hchain (u0 := u0) (sen := sen) (self := x) (msg := .ref msg) rfl (cell := freshCell P1.m.cls kX) (cellS := cellS0)
    hcell' (fun _ => by simp) (by simp) rfl rfl (sel _ _ Y.fill0 (by decide) (wh (.selects E Bundle.tFill0 Bundle.tFill0) (by simp [th_own]))) (sel _ _ Y.fill (by decide) (wh (.selects E Bundle.tFill Bundle.tFill) (by simp [th_own])))
    hcS hneS hkn hu0 hsen (Takes.of_laid hkX hord tyC (by rw [Y.causeType]; rfl)) (Takes.of_laid hkX hord tyS (by rw [Y.stackType]; exact fits_refV_array _ u0)) (Takes.of_laid hkX hord tyP (by rw [Y.suppType]; exact fits_refV_object _ sen))
    (Takes.of_laid hkX hord tyM (by rw [Y.msgType]; rfl)) Y.objLocals hskip htr [] d6' (by simp only [List.length_cons, hlen, List.length_nil]; omega) (by simp only [List.length_cons, hlen, List.length_nil]; show 2 * 0 + (1 + 0) + _ ≤ _; omega)
  have hout : ∀ y ∈ c.exceptionTable.toList, covers y (pc + 3) = false := by
    intro y hy
    have h0 : c.exceptionTable = #[] := by simpa using hex
    rw [h0] at hy
    cases hy
  obtain ⟨hwalk, hrun, hended, hWU, hsame⟩ := X₂.athrowLeaves hexec (g := F0 m (pc + 3) ls [.ref x]) rfl rfl rfl hout (a := x) (rest := []) rfl (by rw [hb]; exact d9) hlocks
  have hlt : x < ((S.setVm vm₁).setVm vm₂).heap.size := (Array.getElem?_eq_some_iff.mp hcell').1
  have hU := heapAt_setCell_self (s := (S.setVm vm₁).setVm vm₂) (plainBareV T.toThrowableT (freshCell P1.m.cls kX) x u0 sen (.ref msg)) hlt
  refine ⟨_, st1 _ (fun acts => ?_), .threw x, hrun, hended, x, _, rfl, hle, hU, rfl, hfX, hWU, hsame.weaken (fun y hy hl => ?_) (Nat.le_refl _) (Nat.le_refl _)⟩
  · rw [doInvoke_state]
    exact st2 _ hwalk
  · exfalso
    have hbase : y.base = x := by
      simp only [List.nil_append, List.mem_cons, List.not_mem_nil, or_false] at hy
      rcases hy with rfl | rfl | rfl | rfl | rfl <;> rfl
    rw [hbase] at hl
    exact Nat.not_lt.mpr hle hl
/-- new, dup, ldc, invokespecial <init>(String), athrow: out of the method -/
theorem th_throwNew {cc : ByteArray} (hexec : p.tables.exec = Jvm.exec) (hb : c.code = cc) (hfl : l.flags = Jvm.pinnedFlags ++ [Jvm.noTraceFlag]) {own E tx : String} {ix is ic ip q : Nat} {bp : ByteArray}
    (hown : s.vm.findClass own = some m.cls) (hfit : Bundle.fit E = true) (b0 : decode bp 0 = .ok (.aload_n 0, 1)) (b1 : decode bp 1 = .ok (.aload_n 1, 1)) (b2 : decode bp 2 = .ok (.invokespecial ip, 3)) (b5 : decode bp 5 = .ok (.return_, 1))
    (hup : ∀ a ∈ th_up, a.before args s = true) (hw : ∀ a ∈ th_own own ic E ip bp, a.before args s = true) (hst : th_st args s)
    (hclink : (Cond.classLink own ix E).before args s = true) (hini : (Cond.initialized E).before args s = true) (hZ : vk_R own is tx q s)
    {pc : Nat} {ls : Array Slot} (hsize : ls.size = c.maxLocals) (d0 : decode cc pc = .ok (.new ix, 3)) (d3 : decode cc (pc + 3) = .ok (.dup, 1)) (d4 : decode cc (pc + 4) = .ok (.ldc is, 2))
    (d6 : decode cc (pc + 6) = .ok (.invokespecial ic, 3)) (d9 : decode cc (pc + 9) = .ok (.athrow, 1)) (hex : c.exceptionTable.isEmpty = true) (hle : s.heap.size ≤ H.size)
    (hRf : 6 ≤ R.frames) (hRl : 82 ≤ R.locals) (hc : cells + 1 ≤ R.cells) (hs : slots + 6 ≤ R.slots) (hlocks : meth.locks = false) :
    W p l e R s m args below meth c H [] cells slots (th_End below E args s (cells + 1) (slots + 6)) (F0 m pc ls []) := by
  refine W.newc hexec hb hown hclink (hw (.instantiable E 6) (by simp [th_own])) hini (g := F0 m pc ls []) rfl d0 hc hs ?_
  intro cC kC hfC hkC hord hn6
  refine lv_dup (pc := pc + 3) hexec hb d3 rfl ?_
  refine va_ldcS (pc := pc + 4) hexec hb hown hZ d4 ?_
  exact th_made hexec hb hfl hown hfit b0 b1 b2 b5 hup hw hst hfC hkC (x := H.size) Array.getElem?_push_size hle hsize d6 d9 hex hRf hRl hlocks
end THA
section THB
variable {p : Program} {l : Launch} {e : Env} {R : Room} {s : State} {m : MethodId} {args : Array Value} {below : List Frame} {meth : Method} {c : Code} {U T : State} {H : Heap} {locs : List Loc} {cells slots : Nat} {Q : State → Prop}
/-- the callee throws: the caller's frame stands under the note -/
theorem th_out {y : MethodName} {ws : List Cond} {rm : Room} {Pc : Array Value → State → Prop} {E : String} {mc ms : Nat} {bytes : ByteArray} {maxL : Nat} {ret : Option FieldType}
    (hM : th_Met l y ws rm Pc E mc ms) (hblind : FrameBlind Pc) (hrc : rm.cells = mc) (hrs : rm.slots = ms) (hframes : rm.frames + 1 ≤ R.frames) (hlocals : 8 + (maxL + 11) + rm.locals ≤ R.locals)
    (hws : ∀ w ∈ ws, ∀ a' V, s.WarmedH V.vm → w.before a' V = true) (hcode : Cond.code y bytes maxL ret ∈ ws) (hinit : (Cond.initialized y.cls).before args s = true)
    (X : Stand p l e R s m args below meth c U locs cells slots) {g : JFrame} {ig : Instr} {len : Nat} (hg : g.method = m) (hsize : g.locals.size = c.maxLocals) (hdg : decode c.code g.pc = .ok (ig, len))
    (hW : 2 * g.monitorRoom + (g.stack.map fun v => v.category).sum ≤ 8) {mk : MethodId} (hn : U.methodNamed? y = some mk) {a : Array Value} (hP : Pc a U) (hc : cells + mc ≤ R.cells) (hs : slots + ms ≤ R.slots) :
    ∃ (x : Addr) (ce : Cell) (T' : State), Stand p l e R s m args below meth c T' locs (cells + mc) (slots + ms) ∧ U.heap.size ≤ x ∧ T'.heap[x]? = some ce ∧ ce.vm = .none ∧ s.vm.findClass E = some ce.cls ∧
      U.heap.size ≤ T'.heap.size ∧ (∀ q : Nat, q < U.heap.size → T'.heap[q]? = U.heap[q]?) ∧ Steps p.tables e below (doInvoke e (U.setTop g) [] mk a).1 ((T'.setTop g).pushFrame (.throwing x)) := by
  have h1 : (allAtoms ws).before a U = true := atoms_intro fun w hw => hws w hw _ _ X.warmed
  have h2 : (Cond.code y bytes maxL ret).before a U = true := hws _ hcode _ _ X.warmed
  have h3 : (Cond.initialized y.cls).before a U = true := word_at X.warmed (Or.inl (by first | rfl | simp [Cond.onTables, Cond.keeps, Cond.steady])) hinit
  obtain ⟨methY, cY, hmY, hcY, -, hlY, -, -, -, -⟩ := Cond.code_spec hn h2
  obtain ⟨kY, hkY, -⟩ := className_of_methodNamed hn
  have hinitY : kY.init = .initialized := Cond.initialized_spec (findClass_of_methodNamed hn) hkY h3
  have h : At U g.method c below := by rw [hg]; exact X.here
  have happ : (headSpec ws rm).appliesLoose y e.platform (U.calling g mk a) = true :=
    Spec.appliesLoose_calling (g := g) h hdg hn hkY hinitY
      (X.room_calling (g := g) (R' := (headSpec ws rm).room) hsize hmY hcY hframes (by rw [hlY]; show _ + rm.locals ≤ _; omega) (by show cells + rm.cells ≤ _; rw [hrc]; exact hc) (by show slots + rm.slots ≤ _; rw [hrs]; exact hs)) h1
  obtain ⟨mid, hmid⟩ := h.above
  have hfr : (U.setTop g).frames = (.java g :: mid) ++ below := by rw [State.frames_setTop' g h.top, hmid]; rfl
  obtain ⟨o, s₂, hsteps, -, hend, hq⟩ := Steps.callFree hM p X.admits X.cas X.clock (acts := []) hfr happ (hblind _ _ _ _ hP) trivial
  rw [State.frames_setTop' g h.top, X.tail] at hend
  obtain ⟨x, ce, rfl, q1, q2, q3, q4, q5, q6⟩ := hq
  have q1' : U.heap.size ≤ x := q1
  obtain ⟨T', X', w1, w2, w3⟩ := X.outOfThrown (g := g) hg (mk := mk) (a := a) (x := x) (L := []) hend q5 q6
  rw [List.append_nil] at X'
  have hheap : T'.heap = s₂.heap := by
    rw [w3]
    exact (Stand.throwing_heap T' g x).symm
  obtain ⟨z1, z2⟩ := th_same w2
  refine ⟨x, ce, T', X', q1', by rw [hheap]; exact q2, q3, ?_, z1, z2, by rw [← w3]; exact hsteps⟩
  have q4' : U.vm.findClass E = some ce.cls := q4
  rw [X.warmed.alike.findClass] at q4'
  exact q4'
end THB
section THC
variable {e : Env} {s U : State} {args : Array Value} {f : JFrame} {a : Addr} {own E : String}
/-- what the search through a table of handlers comes to, for an object of the class E: the entries' classes cold or warm -/
def th_Hit (s : State) (args : Array Value) (own E : String) (pc hp : Nat) : List ExceptionTableEntry → Prop
  | [] => False
  | x :: t => (covers x pc = false ∧ th_Hit s args own E pc hp t) ∨ (covers x pc = true ∧ x.catchType ≠ 0 ∧ ∃ nm : String, (Cond.classLink own x.catchType nm).before args s = true ∧
      (((∃ cE cT, s.vm.findClass E = some cE ∧ s.vm.findClass nm = some cT ∧ s.vm.assignable cE cT = true) ∧ x.handlerPc = hp) ∨ (va_Nc E nm s ∧ th_Hit s args own E pc hp t)))
theorem th_search (hpl : e.platform.magicAccessors = ({} : Platform).magicAccessors) (hown : s.vm.findClass own = some f.method.cls) {cell : Cell} (hcell : U.heap[a]? = some cell) (hobj : cell.vm.isStatics = false) (hE : s.vm.findClass E = some cell.cls) {hp : Nat} :
    ∀ (es : List ExceptionTableEntry), th_Hit s args own E f.pc hp es → ∀ V : Vm, s.WarmedH V →
      ∃ V' : Vm, s.WarmedH V' ∧ ∀ (Q : Handler → Pre) (E : CtlPost) (d : Bool) (acts : List Action), wp (findHandler.go f a es) Q E e d acts (U.setVm V) ↔ Q (.found hp) d acts (U.setVm V') := by
  intro es
  induction es with
  | nil => intro h; exact h.elim
  | cons x t ih =>
    intro h V hV
    rcases h with ⟨hx, h⟩ | ⟨hx, h0, nm, hlink, h⟩
    · obtain ⟨V', h1, h2⟩ := ih h V hV
      exact ⟨V', h1, fun Q E d acts => by rw [W.findHandler_go_skip hx]; exact h2 Q E d acts⟩
    · obtain ⟨cT, hcT, hcl⟩ := Cond.classLink_spec hown hlink e.platform hpl
      obtain ⟨dk, _, _, kt, hd, _, _, _, _, hkt, _, hopen⟩ := hcl.here
      have hcl₀ := hV.classLinks hcl
      have hW' : s.WarmedH (V.noted f.method.cls x.catchType (.cls cT)) := hV.noted hd hopen (State.rightAt_cls hcl)
      have hal := hW'.alike
      obtain ⟨ha, ht⟩ := (resolveClass_links e.toSetting hcl₀).op (op := VmOp.resolveClass f.method.cls x.catchType) rfl
      obtain ⟨kE, hkE, -⟩ := Vm.findClass_spec hE
      obtain ⟨k1', hk1', -⟩ := hal.2.2 _ _ hkE
      obtain ⟨k2', hk2', -⟩ := hal.2.2 _ _ hkt
      have hx' := hx
      simp only [covers] at hx'
      have hns := VmData.ne_statics_of hobj
      have hcell' : (U.setVm V).heap[a]? = some cell := hcell
      rcases h with ⟨⟨cE, cT', e1, e2, e3⟩, rfl⟩ | ⟨⟨cE, cT', e1, e2, e3⟩, h⟩
      · cases hE.symm.trans e1
        cases hcT.symm.trans e2
        have hfit : (V.noted f.method.cls x.catchType (.cls cT)).assignable cell.cls cT = true := by rw [hal.assignable]; exact e3
        refine ⟨V.noted f.method.cls x.catchType (.cls cT), hW', fun Q E d acts => ?_⟩
        simp [findHandler.go, hx', h0, ha, ht, hcell, hns, hk1', hk2', hfit, VmOp.dirties, VmOp.acts]
        exact Iff.rfl
      · cases hE.symm.trans e1
        cases hcT.symm.trans e2
        have hfit : (V.noted f.method.cls x.catchType (.cls cT)).assignable cell.cls cT = false := by rw [hal.assignable]; exact e3
        obtain ⟨V', h1, h2⟩ := ih h _ hW'
        refine ⟨V', h1, fun Q E d acts => ?_⟩
        rw [← h2 Q E d acts]
        simp [findHandler.go, hx', h0, ha, ht, hcell, hns, hk1', hk2', hfit, VmOp.dirties, VmOp.acts]
        exact Iff.rfl
end THC
section THD
variable {p : Program} {l : Launch} {e : Env} {R : Room} {s : State} {m : MethodId} {args : Array Value} {below : List Frame} {meth : Method} {c : Code} {T : State} {H : Heap} {locs : List Loc} {cells slots : Nat} {Q : State → Prop}
/-- from the note over the caller's frame to its handler -/
theorem th_caught (X : Stand p l e R s m args below meth c T locs cells slots) {a : Addr} {g : JFrame} (hg : g.method = m) {own E : String} (hown : s.vm.findClass own = some m.cls) {cell : Cell} (hcell : T.heap[a]? = some cell) (hobj : cell.vm = .none)
    (hE : s.vm.findClass E = some cell.cls) {hp : Nat} (hit : th_Hit s args own E g.pc hp c.exceptionTable.toList) :
    ∃ vm', Stand p l e R s m args below meth c (T.setVm vm') locs cells slots ∧
      ∀ target, Steps p.tables e below ((T.setVm vm').setTop { g with pc := hp, stack := [.ref a] }) target → Steps p.tables e below ((T.setTop g).pushFrame (.throwing a)) target := by
  have hpl : e.platform.magicAccessors = ({} : Platform).magicAccessors := by rw [X.admits.platform]
  subst hg
  obtain ⟨V', hV', hfind⟩ := th_search (e := e) (s := s) (U := (T.setTop g).pushFrame (.throwing a)) (args := args) (f := g) (a := a) hpl hown (cell := cell) hcell (by rw [hobj]; rfl) hE c.exceptionTable.toList hit T.vm X.warmed
  refine ⟨V', X.noted hV', fun target hrest => ?_⟩
  obtain ⟨hgo, hw⟩ := X.here.throwing a
  refine Steps.head hgo hw ?_
  have hm' : ((T.setTop g).pushFrame (.throwing a)).vm.method? g.method = some meth := X.method'
  have hself : ((T.setTop g).pushFrame (.throwing a)).setVm T.vm = (T.setTop g).pushFrame (.throwing a) := State.setVm_self _
  have hstep : (stepThrowing e ((T.setTop g).pushFrame (.throwing a)) a (.java g :: T.frames.tail)).Is ((((T.setTop g).pushFrame (.throwing a)).setVm V').setFrames (.java { g with pc := hp, stack := [.ref a] } :: T.frames.tail)) [] := by
    simp only [stepThrowing, searchFrame, vmDo]
    generalize hr : Sem.go _ e false [] ((T.setTop g).pushFrame (.throwing a)) = res
    obtain ⟨as, rfl, ha⟩ := Sem.eq_ok_of hr (a := Handler.found hp) (s' := ((T.setTop g).pushFrame (.throwing a)).setVm V') (acts' := [])
      (by
        have h0 : ∀ (Q : Handler → Pre) (E : CtlPost) (d : Bool) (acts : List Action), wp (findHandler g a) Q E e d acts ((T.setTop g).pushFrame (.throwing a)) ↔ Q (.found hp) d acts (((T.setTop g).pushFrame (.throwing a)).setVm V') := by
          intro Q E d acts
          rw [W.findHandler_eq hm' X.code, ← hfind Q E d acts, hself]
        simp [h0 _ _ _ _])
    exact ⟨rfl, ha⟩
  rw [stepThread_throwing (frames_entered X.here.top _), hstep.1]
  obtain ⟨g₀, hg0⟩ := Option.isSome_iff_exists.mp X.here.top
  obtain ⟨r, hr⟩ := State.topJava?_eq_some.mp hg0
  have hr' : (T.setVm V').frames = .java g₀ :: r := hr
  rw [State.setTop_of_frames _ hr'] at hrest
  have hcomm : ∀ (u : State) (F G : List Frame), ((u.setFrames F).setVm V').setFrames G = (u.setVm V').setFrames G := by
    intro u F G
    have h1 : (u.setFrames F).setVm V' = (u.setVm V').setFrames F := rfl
    rw [h1, State.setFrames_setFrames]
  rw [hr, List.tail_cons, State.pushFrame, hcomm, State.setTop_of_frames _ hr, hcomm]
  exact hrest
/-- an invokevirtual that throws E, and the caller's own handler -/
theorem th_callV {y : MethodName} {bytes cc : ByteArray} {maxL nL mc ms n index : Nat} {ret : Option FieldType} {ws : List Cond} {rm : Room} {Pc : Array Value → State → Prop} {E : String} {Ts : List Cond} {own C : String} {b : Addr} {As rest : List Value}
    (S : CallFix p m c cc nL s args Ts own) (hM : th_Met l y ws rm Pc E mc ms) (cw : CallW R s args own C index y bytes maxL ret ws rm mc ms n) (hp : PreV s H C b Pc As) {pc : Nat} {ls : Array Slot} (hn : As.length = n) (hsize : ls.size = nL) {st0 : List Value} (hstack : st0 = As.reverse ++ .ref b :: rest)
    (hW : (rest.map fun v => v.category).sum ≤ 8) (hdg : decode cc pc = .ok (.invokevirtual index, 3)) (hf : cells + mc ≤ R.cells ∧ slots + ms ≤ R.slots) {hpc : Nat} (hit : th_Hit s args own E pc hpc c.exceptionTable.toList)
    (kk : ∀ (x : Nat) (H1 : Heap), H.size ≤ x → H.size ≤ H1.size → (∀ q : Nat, q < H.size → H1[q]? = H[q]?) → W p l e R s m args below meth c H1 locs (cells + mc) (slots + ms) Q (F0 m hpc ls [.ref x])) :
    W p l e R s m args below meth c H locs cells slots Q (F0 m pc ls st0) := by
  subst hstack
  obtain ⟨⟨hrc, hrs, hfr, hlo, hws, hcw, hcode, hini, hy, hlen, hl⟩, hin, hse⟩ := cw
  obtain ⟨hx, hb, hml, ho, -⟩ := S
  obtain ⟨hbl, ⟨cellB, hcB, hoB, hclB⟩, hPc⟩ := hp
  intro T hT X
  obtain ⟨mk, methM, hnamed, hmethM, hstM, habM⟩ := Cond.instanceMethod_spec hin
  obtain ⟨methM', cM, hmethM', -, -, -, -, -, -, hsigM⟩ := Cond.code_spec hnamed hcode
  cases hmethM.symm.trans hmethM'
  obtain ⟨c2, r2, m2, q1, q2, q3, q4, kP, hkP, hkPi⟩ := Cond.selects_spec hse
  cases hclB.symm.trans q1
  cases (State.methodFound?_of_named hnamed hy).symm.trans q2
  cases hnamed.symm.trans q3
  have hselP : selectMethod e.platform s.vm cellB.cls mk = .method mk := by rw [Launch.admits_selectMethod X.admits]; exact q4
  obtain ⟨vm₁, X₁, hstep₁⟩ := X.invokevirtual hx ho hl hnamed hmethM hstM hkP hkPi hy (a := b) (cell := cellB) (by rw [hT]; exact hcB)
    (fun z h => by rw [h] at hoB; cases hoB) hselP hmethM habM hkP hkPi (g := F0 m pc ls (As.reverse ++ .ref b :: rest)) rfl (argsL := As) (rest := rest) (hn.trans (hlen _ hsigM)) rfl (by rw [hb]; exact hdg)
  obtain ⟨x, ce, T', X', z1, z2, z3, z4, z5, z6, z7⟩ := th_out (bytes := bytes) (maxL := maxL) (ret := ret) hM hbl hrc hrs hfr hlo hws hcw hini X₁ (g := F0 m pc ls rest) (ig := .invokevirtual index) (len := 3) rfl (hsize.trans hml.symm) (by rw [hb]; exact hdg) (lv_room hW) (X₁.named hnamed) (a := (Value.ref b :: As).toArray) (hPc (T.setVm vm₁) hT X₁.warmed) hf.1 hf.2
  obtain ⟨vm', X2, st2⟩ := th_caught X' (a := x) (g := F0 m pc ls rest) rfl ho z2 z3 z4 hit
  have zz : (T.setVm vm₁).heap = H := hT
  rw [zz] at z1 z5 z6
  obtain ⟨t, a1, b1⟩ := kk x T'.heap z1 z5 z6 (T'.setVm vm') rfl X2
  exact ⟨t, hstep₁ _ fun acts => by rw [doInvoke_state]; exact z7.trans (st2 t a1), b1⟩
end THD
section THE
variable {l : Launch}
/-- the contract of a method that has handlers, out of a walk of its body -/
theorem th_ofWith {y : MethodName} {ws ws' : List Cond} {rm : Room} {Pc : Array Value → State → Prop} {Qc : Array Value → State → Outcome → State → Prop} {mc ms : Nat} {free : Addr → Prop} {cc : ByteArray} {maxL : Nat} {ret : Option FieldType} {hs : List (Nat × Nat × Nat × Nat)}
    (hy : plainName y.cls = true) (hw : ws = Cond.codeWith y cc maxL ret hs :: ws')
    (body : ∀ p e s m args below meth c s₁, BodyLoose p l y (headSpec ws rm) cc maxL ret e s m args below meth c s₁ → c.maxLocals = maxL → c.exceptionTable.toList.map (fun h => (h.startPc, h.endPc, h.handlerPc, h.catchType)) = hs → Pc args s →
      W p l e (headSpec ws rm).room s m args below meth c s.heap [] 0 0 (MQ below Qc args s mc ms free) (entryFrame m args maxL)) : Met l y ws rm Pc Qc mc ms free := by
  refine MetFree.of_bodyS (code := cc) (maxLocals := maxL) (ret := ret) hy ?_ ?_
  · intro args s m h hn
    obtain ⟨m', meth, c, h0, h1, h2, h3, h4, h7, h5, h6, -⟩ := Cond.codeWith_spec (atoms_spec (ws := ws) h _ (by rw [hw]; exact List.mem_cons_self))
    cases hn.symm.trans h0
    exact ⟨meth, c, h1, h2, h3, h4, h5, h6⟩
  · intro p e s m args below meth c s₁ B hml hP _
    have hh0 : s₁.heap = s.heap := by rw [B.state]; rfl
    have X := Stand.of_body B
    obtain ⟨m', meth', c', h0, h1, h2, h3, h4, h7, h5, h6, -⟩ := Cond.codeWith_spec (atoms_spec (ws := ws) B.pre _ (by rw [hw]; exact List.mem_cons_self))
    cases B.named.symm.trans h0
    cases B.method.symm.trans h1
    cases X.code.symm.trans h2
    obtain ⟨t, a1, o, b1, b2, b3⟩ := body p e s m args below meth c s₁ B hml h7 hP s₁ hh0 X
    exact ⟨t, o, a1, b1, b2, ⟨b3.1, b3.2⟩⟩
/-- an entry of a table that is known by its four numbers -/
theorem th_one {s : State} {args : Array Value} {own E : String} {pc hp : Nat} {t : List ExceptionTableEntry} {a b h k : Nat} (ht : t.map (fun h => (h.startPc, h.endPc, h.handlerPc, h.catchType)) = [(a, b, h, k)]) (hc : (decide (a ≤ pc) && decide (pc < b)) = true) (hk : k ≠ 0) (hh : h = hp)
    {nm : String} (hl : (Cond.classLink own k nm).before args s = true) (hf : (Cond.castable E nm).before args s = true) : th_Hit s args own E pc hp t := by
  obtain ⟨c1, c2, e1, e2, e3⟩ := Cond.castable_spec hf
  match t, ht with
  | [x], ht =>
    obtain ⟨x1, x2, x3, x4⟩ := x
    simp only [List.map_cons, List.map_nil, List.cons.injEq, Prod.mk.injEq, and_true] at ht
    obtain ⟨rfl, rfl, rfl, rfl⟩ := ht
    exact Or.inr ⟨hc, hk, nm, hl, Or.inl ⟨⟨c1, c2, e1, e2, e3⟩, hh⟩⟩
theorem th_first {s : State} {args : Array Value} {own E : String} {pc hp : Nat} {t : List ExceptionTableEntry} {a b h k : Nat} {r : Nat × Nat × Nat × Nat} (ht : t.map (fun h => (h.startPc, h.endPc, h.handlerPc, h.catchType)) = [(a, b, h, k), r]) (hc : (decide (a ≤ pc) && decide (pc < b)) = true) (hk : k ≠ 0) (hh : h = hp)
    {nm : String} (hl : (Cond.classLink own k nm).before args s = true) (hf : (Cond.castable E nm).before args s = true) : th_Hit s args own E pc hp t := by
  obtain ⟨c1, c2, e1, e2, e3⟩ := Cond.castable_spec hf
  match t, ht with
  | [x, _], ht =>
    obtain ⟨x1, x2, x3, x4⟩ := x
    simp only [List.map_cons, List.map_nil, List.cons.injEq, Prod.mk.injEq, and_true] at ht
    obtain ⟨⟨rfl, rfl, rfl, rfl⟩, -⟩ := ht
    exact Or.inr ⟨hc, hk, nm, hl, Or.inl ⟨⟨c1, c2, e1, e2, e3⟩, hh⟩⟩
theorem th_second {s : State} {args : Array Value} {own E : String} {pc hp : Nat} {t : List ExceptionTableEntry} {a b h k a2 b2 h2 k2 : Nat} (ht : t.map (fun h => (h.startPc, h.endPc, h.handlerPc, h.catchType)) = [(a, b, h, k), (a2, b2, h2, k2)])
    (hc : (decide (a ≤ pc) && decide (pc < b)) = true) (hk : k ≠ 0) (hc2 : (decide (a2 ≤ pc) && decide (pc < b2)) = true) (hk2 : k2 ≠ 0) (hh : h2 = hp)
    {nm nm2 : String} (hl : (Cond.classLink own k nm).before args s = true) (hno : va_Nc E nm s) (hl2 : (Cond.classLink own k2 nm2).before args s = true) (hf : (Cond.castable E nm2).before args s = true) : th_Hit s args own E pc hp t := by
  obtain ⟨c1, c2, e1, e2, e3⟩ := Cond.castable_spec hf
  match t, ht with
  | [x, y], ht =>
    obtain ⟨x1, x2, x3, x4⟩ := x
    obtain ⟨y1, y2, y3, y4⟩ := y
    simp only [List.map_cons, List.map_nil, List.cons.injEq, Prod.mk.injEq, and_true] at ht
    obtain ⟨⟨rfl, rfl, rfl, rfl⟩, rfl, rfl, rfl, rfl⟩ := ht
    exact Or.inr ⟨hc, hk, nm, hl, Or.inr ⟨hno, Or.inr ⟨hc2, hk2, nm2, hl2, Or.inl ⟨⟨c1, c2, e1, e2, e3⟩, hh⟩⟩⟩⟩
end THE
section THF
variable {p : Program} {l : Launch} {e : Env} {R : Room} {s : State} {m : MethodId} {args : Array Value} {below : List Frame} {meth : Method} {c : Code} {H : Heap} {locs : List Loc} {cells slots : Nat}
/-- a static call, in its own class, of a method that has handlers and returns -/
theorem th_runS {y : MethodName} {bytes cc : ByteArray} {maxL nL mc ms n index : Nat} {ret : Option FieldType} {hs : List (Nat × Nat × Nat × Nat)} {ws ws' : List Cond} {rm : Room} {Pc : Array Value → State → Prop} {Qc : Array Value → State → Outcome → State → Prop} {free : Addr → Prop} {Ts : List Cond} {own : String} {As rest : List Value} {pc : Nat} {ls : Array Slot} {st0 : List Value}
    (S : CallFix p m c cc nL s args Ts own) (hM : Met l y ws rm Pc Qc mc ms free) (hG : GoodIn Ts (wsS own index y ws)) (hw : ws = Cond.codeWith y bytes maxL ret hs :: ws') (hrc : rm.cells = mc) (hrs : rm.slots = ms)
    (hd : y.cls = own ∧ y.cls ≠ "java/lang/invoke/MethodHandle" ∧ y.cls ≠ "java/lang/invoke/VarHandle" ∧ (parseMethodDescriptor y.desc).map (fun d => d.parameters.length) = some n) (hR : rm.frames + 1 ≤ R.frames ∧ 8 + (maxL + 11) + rm.locals ≤ R.locals) (hp : PreS s H Pc As)
    (hn : As.length = n) (hsize : ls.size = nL) (hstack : st0 = As.reverse ++ rest) (hW : (rest.map fun v => v.category).sum ≤ 8) (hdg : decode cc pc = .ok (.invokestatic index, 3)) (hf : cells + mc ≤ R.cells ∧ slots + ms ≤ R.slots) :
    va_Run p l e R s m args below meth c H locs cells slots mc ms (F0 m pc ls st0) rest (Qc As.toArray) free := by
  subst hstack
  obtain ⟨hx, hb, hml, ho, ht⟩ := S
  obtain ⟨hC, hy1, hy2, hlen⟩ := hd
  have ok : ∀ w ∈ wsS own index y ws, w.before args s = true := fun w h => ht w (hG w h).1
  have hl : (Cond.methodLink own index y).before args s = true := ok _ (by simp [wsS])
  have hstt : (Cond.static y).before args s = true := ok _ (by simp [wsS])
  have hini : (Cond.initialized y.cls).before args s = true := by rw [hC]; exact ok _ (by simp [wsS])
  have hcw : Cond.codeWith y bytes maxL ret hs ∈ ws := by rw [hw]; exact List.mem_cons_self
  have hws : ∀ w ∈ ws, ∀ (a' : Array Value) (U : State), s.WarmedH U.vm → w.before a' U = true := pay_in ht (fun w h => hG w (by unfold wsS; exact List.mem_append_right _ h))
  have hcode : (Cond.codeWith y bytes maxL ret hs).before args s = true := ok _ (by unfold wsS; exact List.mem_append_right _ hcw)
  have hK : Back l R p e below s args y 3 8 (PreOf R mc ms Pc) (PostOf Qc mc ms free) := by
    refine Back.of_freeWith (handlers := hs) (S := headSpec ws rm) (P := Pc) (K := fun _ _ _ _ _ => True) (Q := fun a st o t => Qc a st o t ∧ ∃ L, FrameEnd st o t L mc ms ∧ ∀ q ∈ L, free q.base) (bytes := bytes) (maxL := maxL) (ret := ret)
      (E := fun a st o t L k n => k = mc ∧ n = ms ∧ ∀ q ∈ L, free q.base) hM hR.1 hR.2 ?_ ?_ (fun _ _ _ _ _ _ _ _ _ => trivial) ?_ ?_
    · intro m meth c A a X hp
      exact ⟨atoms_intro fun w hw => hws w hw _ _ X.warmed, hws _ hcw _ _ X.warmed, word_at X.warmed (Or.inl (by first | rfl | simp [Cond.onTables, Cond.keeps, Cond.steady])) hini, by rw [show (headSpec ws rm).room.cells = mc from hrc]; exact hp.1, by rw [show (headSpec ws rm).room.slots = ms from hrs]; exact hp.2.1⟩
    · intro m meth c A a g mk X hq
      exact hp.1 _ _ _ _ hq.2.2
    · intro a st o t ⟨hq, L, hF, hL⟩
      exact ⟨L, mc, ms, hF, rfl, rfl, hL⟩
    · intro m meth c A a g mk v t L k n X hp hq hF ⟨e1, e2, hL⟩
      subst e1; subst e2
      exact ⟨g, mk, t, L, rfl, rfl, hq.1, rfl, hL, rfl, rfl⟩
  intro T hT X
  obtain ⟨mk, methM, cM, hnamed, hmethM, -, -, -, -, -, -, hsigM⟩ := Cond.codeWith_spec hcode
  have hstatic : methM.isStatic = true := Cond.static_spec hnamed hmethM hstt
  obtain ⟨kP, hkP, -⟩ := className_of_methodNamed hnamed
  have hinitP : kP.init = .initialized := Cond.initialized_spec (findClass_of_methodNamed hnamed) hkP hini
  have hpn : As.length = methM.sig.parameters.length := by
    rw [hsigM] at hlen
    rw [hn]
    exact (Option.some.inj hlen).symm
  obtain ⟨vm₁, X₁, hstep₁⟩ := X.invokestatic hx ho hl hnamed hmethM hstatic hkP hinitP ⟨hy1, hy2⟩ (g := F0 m pc ls (As.reverse ++ rest)) rfl (argsL := As) (rest := rest) hpn rfl (by rw [hb]; exact hdg)
  obtain ⟨v, ⟨U', l2, c2, s2⟩, X', ⟨g', mk', t, L, e1, e2, hq, h1, hL, h2, h3⟩, hsteps⟩ := hK m meth c ⟨T.setVm vm₁, locs, cells, slots⟩ (F0 m pc ls rest) (.invokestatic index) mk As.toArray X₁ rfl (hsize.trans hml.symm) (by rw [hb]; exact hdg) (lv_room hW) (X₁.named hnamed) ⟨hf.1, hf.2, hp.2 (T.setVm vm₁) hT X₁.warmed⟩
  dsimp only [Pt.U, Pt.locs, Pt.cells, Pt.slots] at X' e1 e2 h1 h2 h3 hsteps
  subst h1; subst h2; subst h3
  exact ⟨v, (T.setVm vm₁).calling g' mk' As.toArray, t, U', L, hT, X', hL, e1, e2, hq, fun target h => hstep₁ _ fun acts => by rw [doInvoke_state]; exact hsteps.trans h⟩
end THF
end
