section
/-! Throwing and catching over the kit's W: a method's end by an exception of its own making; a call that throws, caught by the caller's own table; contracts of methods that have a table of handlers. -/
section THA
variable {p : Program} {l : Launch} {e : Env} {R : Room} {s : State} {m : MethodId} {args : Array Value} {below : List Frame} {meth : Method} {c : Code} {H : Heap} {locs : List Loc} {cells slots : Nat} {Q : State → Prop}
/-- the end by an exception: a new cell of the class E, nothing that was there has changed -/
def th_Q (E : String) (mc ms : Nat) : Array Value → State → Outcome → State → Prop := fun _ st o t =>
  ∃ (x : Addr) (ce : Cell), o = .threw x ∧ st.heap.size ≤ x ∧ t.heap[x]? = some ce ∧ ce.vm = .none ∧ st.vm.findClass E = some ce.cls ∧ st.WarmedH t.vm ∧ st.sameButNew ({ t with vm := st.vm } : State) [] mc ms
def th_Met (l : Launch) (y : MethodName) (ws : List Cond) (rm : Room) (Pc : Array Value → State → Prop) (E : String) (mc ms : Nat) : Prop :=
  MetFree l y (headSpec ws rm) Pc (fun _ _ _ _ _ => True) (th_Q E mc ms)
def th_End (below : List Frame) (E : String) (args : Array Value) (s : State) (mc ms : Nat) : State → Prop := fun t =>
  ∃ o, t.status = .running ∧ Ended t below o ∧ th_Q E mc ms args s o t
theorem th_ofW {y : MethodName} {ws ws' : List Cond} {rm : Room} {Pc : Array Value → State → Prop} {E : String} {mc ms : Nat} {cc : ByteArray} {maxL : Nat} {ret : Option FieldType}
    (hy : plainName y.cls = true) (hw : ws = Cond.code y cc maxL ret :: ws')
    (body : ∀ p e s m args below meth c s₁, BodyLoose p l y (headSpec ws rm) cc maxL ret e s m args below meth c s₁ → c.maxLocals = maxL → Pc args s →
      W p l e (headSpec ws rm).room s m args below meth c s.heap [] 0 0 (th_End below E args s mc ms) (entryFrame m args maxL)) : th_Met l y ws rm Pc E mc ms := by
  refine MetFree.of_bodyS (code := cc) (maxLocals := maxL) (ret := ret) hy ?_ ?_
  · intro args s m h hn
    obtain ⟨meth, c, h1, h2, h3, h4, h5, h6, -, -⟩ := Cond.code_spec hn (atoms_spec (ws := ws) h _ (by rw [hw]; exact List.mem_cons_self))
    exact ⟨meth, c, h1, h2, h3, h4, h5, h6⟩
  · intro p e s m args below meth c s₁ B hml hP _
    have hh0 : s₁.heap = s.heap := by rw [B.state]; rfl
    obtain ⟨t, a1, o, b1, b2, b3⟩ := body p e s m args below meth c s₁ B hml hP s₁ hh0 (Stand.of_body B)
    exact ⟨t, o, a1, b1, b2, b3⟩
/-- cells that were there, where no slot may have changed, are as they were -/
theorem th_same {st t : State} {mc ms : Nat} (h : st.sameButNew t [] mc ms) : st.heap.size ≤ t.heap.size ∧ ∀ q : Nat, q < st.heap.size → t.heap[q]? = st.heap[q]? := by
  obtain ⟨-, h2, -, -, -, h6⟩ := h
  refine ⟨h2, fun q hq => ?_⟩
  have hc : st.heap[q]? = some st.heap[q] := Array.getElem?_eq_getElem hq
  obtain ⟨c', e1, e2, e3, e4⟩ := h6 q _ hc
  have hs : c'.slots = st.heap[q].slots := by
    apply Array.ext
    · exact e3
    · intro i h1 h3
      have := e4 i (by intro h; cases h)
      rw [Array.getElem?_eq_getElem h1, Array.getElem?_eq_getElem h3] at this
      exact Option.some.inj this
  rw [e1, hc, e2, hs]
/-- an exception's class right below RuntimeException: its links, by its own tables' words -/
def th_rt : String := "java/lang/RuntimeException"
def th_up : List Cond := Bundle.chainSAtoms th_rt ["java/lang/Exception"] ++ (Bundle.throwableSAtoms ++ Bundle.throwableAtoms)
def th_own (own : String) (ic : Nat) (E : String) (ip : Nat) (bp : ByteArray) : List Cond :=
  Bundle.passSAtoms E th_rt ip bp ++ [.methodLink own ic (Bundle.initS E), .instantiable E 6, .selects E Bundle.tFill0 Bundle.tFill0, .selects E Bundle.tFill Bundle.tFill,
    .lays E Bundle.tN "cause" "Ljava/lang/Throwable;", .lays E Bundle.tN "stackTrace" Bundle.steD, .lays E Bundle.tN "suppressedExceptions" Bundle.listD, .lays E Bundle.tN "detailMessage" "Ljava/lang/String;",
    .fieldLink Bundle.tN 198 Bundle.tN "backtrace" "Ljava/lang/Object;", .lays Bundle.tN Bundle.tN "backtrace" "Ljava/lang/Object;", .lays E Bundle.tN "backtrace" "Ljava/lang/Object;"]
/-- the statics of Throwable that its constructor reads -/
def th_st (args : Array Value) (s : State) : Prop := (Cond.isRef (.static Bundle.tN "UNASSIGNED_STACK" Bundle.steD)).before args s = true ∧ (Cond.isRef (.static Bundle.tN "SUPPRESSED_SENTINEL" Bundle.listD)).before args s = true
set_option maxHeartbeats 2000000 in
/-- E.<init>(text), athrow, out of the method: from the constructor's call on -/
theorem th_made {cc : ByteArray} (hexec : p.tables.exec = Jvm.exec) (hb : c.code = cc) (hfl : l.flags = Jvm.pinnedFlags ++ [Jvm.noTraceFlag]) {own E : String} {ic ip : Nat} {bp : ByteArray}
    (hown : s.vm.findClass own = some m.cls) (hfit : Bundle.fit E = true) (b0 : decode bp 0 = .ok (.aload_n 0, 1)) (b1 : decode bp 1 = .ok (.aload_n 1, 1)) (b2 : decode bp 2 = .ok (.invokespecial ip, 3)) (b5 : decode bp 5 = .ok (.return_, 1))
    (hup : ∀ a ∈ th_up, a.before args s = true) (hw : ∀ a ∈ th_own own ic E ip bp, a.before args s = true) (hst : th_st args s)
    {cX : ClassId} {kX : Class} (hfX : s.vm.findClass E = some cX) (hkX : s.vm.classes[cX]? = some kX) {x : Addr} (hcell : H[x]? = some (freshCell cX kX)) (hle : s.heap.size ≤ x) {msg : Addr}
    {pc : Nat} {ls : Array Slot} (hsize : ls.size = c.maxLocals) (d6 : decode cc pc = .ok (.invokespecial ic, 3)) (d9 : decode cc (pc + 3) = .ok (.athrow, 1)) (hex : c.exceptionTable.isEmpty = true)
    (hRf : 6 ≤ R.frames) (hRl : 82 ≤ R.locals) (hlocks : meth.locks = false) :
    W p l e R s m args below meth c H [] cells slots (th_End below E args s cells slots) (F0 m pc ls [.ref msg, .ref x, .ref x]) := by
  intro S hS X
  have hpl : e.platform.magicAccessors = ({} : Platform).magicAccessors := by rw [X.admits.platform]
  have htr : e.platform.stackTraces = false := Launch.traces_off hfl X.admits
  have wh : ∀ a ∈ th_own own ic E ip bp, a.holds args s none s [] = true := fun a ha => hw a ha
  obtain ⟨T, Z0, L, -, Y⟩ := ThrowableC.of_atoms (args := args) (s := s) (pl := e.platform) (by rw [X.admits.platform]) (by rw [X.admits.platform]) hpl (fun a ha => hup a (by simp [th_up, ha]))
  obtain ⟨Z, M, LZ, LM, hnZ⟩ := Init0T.ofS_atoms (args := args) hpl L Y (fun a ha => hup a (by simp [th_up, ha]))
  obtain ⟨P2, P3, hlen, L2, L3, hP2, hs2, hs3⟩ := Bundle.chainS (args := args) hpl hnZ ["java/lang/Exception"] th_rt (by decide) (by decide) (fun a ha => hup a (by simp [th_up, ha]))
  obtain ⟨P1, L1, hP1, hs1⟩ := PassC.ofS_atoms (args := args) (s := s) hpl (X := E) (Y := th_rt) (Bundle.fit_spec hfit).1 (by decide) b0 b1 b2 b5 (fun a ha => hw a (by simp [th_own, ha]))
  have hchain : PassesOn (Z.m T.toThrowableT) ((P1 :: P2 :: P3).map (·.toPassT)) := ⟨Option.some.inj (hs1.symm.trans hP2), hs2, hs3⟩
  have hall : ∀ P, P ∈ P1 :: P2 :: P3 → P.LinksS e.platform s := by
    intro P hP
    rcases List.mem_cons.mp hP with rfl | hP
    · exact L1
    · rcases List.mem_cons.mp hP with rfl | hP
      · exact L2
      · exact L3 P hP
  have hfE : s.vm.findClass E = some P1.m.cls := findClass_of_methodNamed hP1
  cases hfX.symm.trans hfE
  obtain ⟨c1, k1, g1, g2, hord, -, -, hn6⟩ := Cond.instantiable_spec (wh (.instantiable E 6) (by simp [th_own]))
  cases g1.symm.trans hfX
  cases g2.symm.trans hkX
  have sel : ∀ (y : MethodName) (my : MethodId), s.methodNamed? y = some my → (y.cls ≠ "java/lang/invoke/MethodHandle" ∧ y.cls ≠ "java/lang/invoke/VarHandle") → (Cond.selects E y y).holds args s none s [] = true → selectMethod e.platform s.vm P1.m.cls my = .method my := by
    intro y my h1 h2 h3
    obtain ⟨c2, r2, m2, q1, q2, q3, q4, -⟩ := Cond.selects_spec h3
    cases q1.symm.trans hfX
    cases q2.symm.trans (State.methodFound?_of_named h1 h2)
    cases q3.symm.trans h1
    rw [Launch.admits_selectMethod X.admits]
    exact q4
  obtain ⟨cellS0, hcS0, hiss⟩ := Y.statics
  obtain ⟨u0, hu0⟩ := Cond.staticRefV Y.unassigned L.unassignedStatic L.statics hcS0 hiss hst.1
  obtain ⟨sen, hsen⟩ := Cond.staticRefV Y.sentinel L.sentinelStatic L.statics hcS0 hiss hst.2
  obtain ⟨z1, z2⟩ := th_same X.same
  have hcS : S.heap[T.aS]? = some cellS0 := (z2 T.aS (Array.getElem?_eq_some_iff.mp hcS0).1).trans hcS0
  have hneS : T.aS ≠ x := Nat.ne_of_lt (Nat.lt_of_lt_of_le (Array.getElem?_eq_some_iff.mp hcS0).1 hle)
  have hkn : cellS0.vm ≠ .unknown := fun hu => by rw [hu] at hiss; cases hiss
  obtain ⟨iM, hffM⟩ := Y.msg
  obtain ⟨ciB, iB, fB, hkB, hgB, haB, hsB, -, hnB, htB, hffB⟩ := Cond.ownField (t := .object "java/lang/Object") Y.found L.cls (by decide +kernel) (wh (.fieldLink Bundle.tN 198 Bundle.tN "backtrace" "Ljava/lang/Object;") (by simp [th_own])) (wh (.lays Bundle.tN Bundle.tN "backtrace" "Ljava/lang/Object;") (by simp [th_own])) e.platform hpl
  obtain ⟨tyC, dC, hdC, hdnC⟩ := Cond.laysAt hfX hkX Y.cause (wh (.lays E Bundle.tN "cause" "Ljava/lang/Throwable;") (by simp [th_own]))
  obtain ⟨tyS, dS, hdS, hdnS⟩ := Cond.laysAt hfX hkX Y.stack (wh (.lays E Bundle.tN "stackTrace" Bundle.steD) (by simp [th_own]))
  obtain ⟨tyP, dP, hdP, hdnP⟩ := Cond.laysAt hfX hkX Y.supp (wh (.lays E Bundle.tN "suppressedExceptions" Bundle.listD) (by simp [th_own]))
  obtain ⟨tyM, dM, hdM, hdnM⟩ := Cond.laysAt hfX hkX hffM (wh (.lays E Bundle.tN "detailMessage" "Ljava/lang/String;") (by simp [th_own]))
  obtain ⟨tyB, dB, hdB, hdnB⟩ := Cond.laysAt hfX hkX hffB (wh (.lays E Bundle.tN "backtrace" "Ljava/lang/Object;") (by simp [th_own]))
  have bC := Cond.laysApart hdB hdC hdnB hdnC (by rw [hnB, Y.causeName]; decide)
  have bS := Cond.laysApart hdB hdS hdnB hdnS (by rw [hnB, Y.stackName]; decide)
  have bP := Cond.laysApart hdB hdP hdnB hdnP (by rw [hnB, Y.suppName]; decide)
  have hskip : SkipFacts T e.platform s (fun u => u) u0 ((preparedCellV T.toThrowableT (freshCell P1.m.cls kX) x u0 sen).withEntry S.cur) := by
    refine ⟨{ ci198 := ciB, i198 := iB, fBack := fB }, ⟨hkB, hgB, haB, hsB⟩, ?_, fun _ _ => rfl⟩
    have h9 := fresh_default (c := P1.m.cls) tyB
    rw [htB] at h9
    simpa [preparedCellV, Cell.setSlot, Cell.withEntry, Array.getElem?_setIfInBounds, bC, bS, bP, bC.symm, bS.symm, bP.symm, defaultValue] using h9
  have d6' : decode c.code (F0 m pc ls [.ref msg, .ref x, .ref x]).pc = .ok (.invokespecial ic, 3) := by rw [hb]; exact d6
  obtain ⟨tm, methC, cdC, kC, vm₁, hnC, -, -, -, -, -, -, -, hW₁, st1⟩ := Steps.initColdS (tb := p.tables) (e := e) (below := below) (s := s) (U := S) X.here hexec X.warmed hpl hown (t := Bundle.initS E) rfl rfl (Bundle.fit_spec hfit).2
    (wh (.methodLink own ic (Bundle.initS E)) (by simp [th_own])) (hw (.instanceMethod (Bundle.initS E)) (by simp [th_own, Bundle.passSAtoms])) (bytes := bp) (maxL := 2) (hw (.code (Bundle.initS E) bp 2 none) (by simp [th_own, Bundle.passSAtoms]))
    (f := F0 m pc ls [.ref msg, .ref x, .ref x]) rfl (a := x) (msg := .ref msg) (rest := [.ref x]) rfl d6'
  cases hnC.symm.trans hP1
  have X₁ := X.noted hW₁
  have hcell' : (S.setVm vm₁).heap[x]? = some (freshCell P1.m.cls kX) := by
    show S.heap[x]? = _
    rw [hS]; exact hcell
  obtain ⟨vm₂, X₂, st2⟩ := X₁.ctorMessageOffV hexec (g := F0 m pc ls [.ref x]) rfl hsize T L Z LZ M LM (P1 :: P2 :: P3) hall hchain (u0 := u0) (sen := sen) (self := x) (msg := .ref msg) rfl (cell := freshCell P1.m.cls kX) (cellS := cellS0)
    hcell' (fun _ => by simp) (by simp) rfl rfl (sel _ _ Y.fill0 (by decide) (wh (.selects E Bundle.tFill0 Bundle.tFill0) (by simp [th_own]))) (sel _ _ Y.fill (by decide) (wh (.selects E Bundle.tFill Bundle.tFill) (by simp [th_own])))
    hcS hneS hkn hu0 hsen (Takes.of_laid hkX hord tyC (by rw [Y.causeType]; rfl)) (Takes.of_laid hkX hord tyS (by rw [Y.stackType]; exact fits_refV_array _ u0)) (Takes.of_laid hkX hord tyP (by rw [Y.suppType]; exact fits_refV_object _ sen))
    (Takes.of_laid hkX hord tyM (by rw [Y.msgType]; rfl)) Y.objLocals hskip htr [] d6' (by simp only [List.length_cons, hlen, List.length_nil]; omega) (by simp only [List.length_cons, hlen, List.length_nil]; show 2 * 0 + (1 + 0) + _ ≤ _; omega)
  have hout : ∀ y ∈ c.exceptionTable.toList, covers y (pc + 3) = false := by
    intro y hy
    have h0 : c.exceptionTable = #[] := by simpa using hex
    rw [h0] at hy
    cases hy
  obtain ⟨hwalk, hrun, hended, hWU, hsame⟩ := X₂.athrowLeaves hexec (g := F0 m (pc + 3) ls [.ref x]) rfl rfl rfl hout (a := x) (rest := []) rfl (by rw [hb]; exact d9) hlocks
  have hlt : x < ((S.setVm vm₁).setVm vm₂).heap.size := (Array.getElem?_eq_some_iff.mp hcell').1
  have hU := heapAt_setCell_self (s := (S.setVm vm₁).setVm vm₂) (plainBareV T.toThrowableT (freshCell P1.m.cls kX) x u0 sen (.ref msg)) hlt
  refine ⟨_, st1 _ (fun acts => ?_), .threw x, hrun, hended, x, _, rfl, hle, hU, rfl, hfX, hWU, hsame.weaken (fun y hy hl => ?_) (Nat.le_refl _) (Nat.le_refl _)⟩
  · rw [doInvoke_state]
    exact st2 _ hwalk
  · exfalso
    have hbase : y.base = x := by
      simp only [List.nil_append, List.mem_cons, List.not_mem_nil, or_false] at hy
      rcases hy with rfl | rfl | rfl | rfl | rfl <;> rfl
    rw [hbase] at hl
    exact Nat.not_lt.mpr hle hl
/-- new, dup, ldc, invokespecial <init>(String), athrow: out of the method -/
theorem th_throwNew {cc : ByteArray} (hexec : p.tables.exec = Jvm.exec) (hb : c.code = cc) (hfl : l.flags = Jvm.pinnedFlags ++ [Jvm.noTraceFlag]) {own E tx : String} {ix is ic ip q : Nat} {bp : ByteArray}
    (hown : s.vm.findClass own = some m.cls) (hfit : Bundle.fit E = true) (b0 : decode bp 0 = .ok (.aload_n 0, 1)) (b1 : decode bp 1 = .ok (.aload_n 1, 1)) (b2 : decode bp 2 = .ok (.invokespecial ip, 3)) (b5 : decode bp 5 = .ok (.return_, 1))
    (hup : ∀ a ∈ th_up, a.before args s = true) (hw : ∀ a ∈ th_own own ic E ip bp, a.before args s = true) (hst : th_st args s)
    (hclink : (Cond.classLink own ix E).before args s = true) (hini : (Cond.initialized E).before args s = true) (hZ : vk_R own is tx q s)
    {pc : Nat} {ls : Array Slot} (hsize : ls.size = c.maxLocals) (d0 : decode cc pc = .ok (.new ix, 3)) (d3 : decode cc (pc + 3) = .ok (.dup, 1)) (d4 : decode cc (pc + 4) = .ok (.ldc is, 2))
    (d6 : decode cc (pc + 6) = .ok (.invokespecial ic, 3)) (d9 : decode cc (pc + 9) = .ok (.athrow, 1)) (hex : c.exceptionTable.isEmpty = true) (hle : s.heap.size ≤ H.size)
    (hRf : 6 ≤ R.frames) (hRl : 82 ≤ R.locals) (hc : cells + 1 ≤ R.cells) (hs : slots + 6 ≤ R.slots) (hlocks : meth.locks = false) :
    W p l e R s m args below meth c H [] cells slots (th_End below E args s (cells + 1) (slots + 6)) (F0 m pc ls []) := by
  refine W.newc hexec hb hown hclink (hw (.instantiable E 6) (by simp [th_own])) hini (g := F0 m pc ls []) rfl d0 hc hs ?_
  intro cC kC hfC hkC hord hn6
  refine lv_dup (pc := pc + 3) hexec hb d3 rfl ?_
  refine va_ldcS (pc := pc + 4) hexec hb hown hZ d4 ?_
  exact th_made hexec hb hfl hown hfit b0 b1 b2 b5 hup hw hst hfC hkC (x := H.size) Array.getElem?_push_size hle hsize d6 d9 hex hRf hRl hlocks
end THA
section THB
variable {p : Program} {l : Launch} {e : Env} {R : Room} {s : State} {m : MethodId} {args : Array Value} {below : List Frame} {meth : Method} {c : Code} {U T : State} {H : Heap} {locs : List Loc} {cells slots : Nat} {Q : State → Prop}
/-- the callee throws: the caller's frame stands under the note -/
theorem th_out {y : MethodName} {ws : List Cond} {rm : Room} {Pc : Array Value → State → Prop} {E : String} {mc ms : Nat} {bytes : ByteArray} {maxL : Nat} {ret : Option FieldType}
    (hM : th_Met l y ws rm Pc E mc ms) (hblind : FrameBlind Pc) (hrc : rm.cells = mc) (hrs : rm.slots = ms) (hframes : rm.frames + 1 ≤ R.frames) (hlocals : 8 + (maxL + 11) + rm.locals ≤ R.locals)
    (hws : ∀ w ∈ ws, ∀ a' V, s.WarmedH V.vm → w.before a' V = true) (hcode : Cond.code y bytes maxL ret ∈ ws) (hinit : (Cond.initialized y.cls).before args s = true)
    (X : Stand p l e R s m args below meth c U locs cells slots) {g : JFrame} {ig : Instr} {len : Nat} (hg : g.method = m) (hsize : g.locals.size = c.maxLocals) (hdg : decode c.code g.pc = .ok (ig, len))
    (hW : 2 * g.monitorRoom + (g.stack.map fun v => v.category).sum ≤ 8) {mk : MethodId} (hn : U.methodNamed? y = some mk) {a : Array Value} (hP : Pc a U) (hc : cells + mc ≤ R.cells) (hs : slots + ms ≤ R.slots) :
    ∃ (x : Addr) (ce : Cell) (T' : State), Stand p l e R s m args below meth c T' locs (cells + mc) (slots + ms) ∧ U.heap.size ≤ x ∧ T'.heap[x]? = some ce ∧ ce.vm = .none ∧ s.vm.findClass E = some ce.cls ∧
      U.heap.size ≤ T'.heap.size ∧ (∀ q : Nat, q < U.heap.size → T'.heap[q]? = U.heap[q]?) ∧ Steps p.tables e below (doInvoke e (U.setTop g) [] mk a).1 ((T'.setTop g).pushFrame (.throwing x)) := by
  have h1 : (allAtoms ws).before a U = true := atoms_intro fun w hw => hws w hw _ _ X.warmed
  have h2 : (Cond.code y bytes maxL ret).before a U = true := hws _ hcode _ _ X.warmed
  have h3 : (Cond.initialized y.cls).before a U = true := word_at X.warmed (Or.inl (by first | rfl | simp [Cond.onTables, Cond.keeps, Cond.steady])) hinit
  obtain ⟨methY, cY, hmY, hcY, -, hlY, -, -, -, -⟩ := Cond.code_spec hn h2
  obtain ⟨kY, hkY, -⟩ := className_of_methodNamed hn
  have hinitY : kY.init = .initialized := Cond.initialized_spec (findClass_of_methodNamed hn) hkY h3
  have h : At U g.method c below := by rw [hg]; exact X.here
  have happ : (headSpec ws rm).appliesLoose y e.platform (U.calling g mk a) = true :=
    Spec.appliesLoose_calling (g := g) h hdg hn hkY hinitY
      (X.room_calling (g := g) (R' := (headSpec ws rm).room) hsize hmY hcY hframes (by rw [hlY]; show _ + rm.locals ≤ _; omega) (by show cells + rm.cells ≤ _; rw [hrc]; exact hc) (by show slots + rm.slots ≤ _; rw [hrs]; exact hs)) h1
  obtain ⟨mid, hmid⟩ := h.above
  have hfr : (U.setTop g).frames = (.java g :: mid) ++ below := by rw [State.frames_setTop' g h.top, hmid]; rfl
  obtain ⟨o, s₂, hsteps, -, hend, hq⟩ := Steps.callFree hM p X.admits X.cas X.clock (acts := []) hfr happ (hblind _ _ _ _ hP) trivial
  rw [State.frames_setTop' g h.top, X.tail] at hend
  obtain ⟨x, ce, rfl, q1, q2, q3, q4, q5, q6⟩ := hq
  have q1' : U.heap.size ≤ x := q1
  obtain ⟨T', X', w1, w2, w3⟩ := X.outOfThrown (g := g) hg (mk := mk) (a := a) (x := x) (L := []) hend q5 q6
  rw [List.append_nil] at X'
  have hheap : T'.heap = s₂.heap := by
    rw [w3]
    exact (Stand.throwing_heap T' g x).symm
  obtain ⟨z1, z2⟩ := th_same w2
  refine ⟨x, ce, T', X', q1', by rw [hheap]; exact q2, q3, ?_, z1, z2, by rw [← w3]; exact hsteps⟩
  have q4' : U.vm.findClass E = some ce.cls := q4
  rw [X.warmed.alike.findClass] at q4'
  exact q4'
end THB
section THC
variable {e : Env} {s U : State} {args : Array Value} {f : JFrame} {a : Addr} {own E : String}
/-- what the search through a table of handlers comes to, for an object of the class E: the entries' classes cold or warm -/
def th_Hit (s : State) (args : Array Value) (own E : String) (pc hp : Nat) : List ExceptionTableEntry → Prop
  | [] => False
  | x :: t => (covers x pc = false ∧ th_Hit s args own E pc hp t) ∨ (covers x pc = true ∧ x.catchType ≠ 0 ∧ ∃ nm : String, (Cond.classLink own x.catchType nm).before args s = true ∧
      (((∃ cE cT, s.vm.findClass E = some cE ∧ s.vm.findClass nm = some cT ∧ s.vm.assignable cE cT = true) ∧ x.handlerPc = hp) ∨ (va_Nc E nm s ∧ th_Hit s args own E pc hp t)))
theorem th_search (hpl : e.platform.magicAccessors = ({} : Platform).magicAccessors) (hown : s.vm.findClass own = some f.method.cls) {cell : Cell} (hcell : U.heap[a]? = some cell) (hobj : cell.vm.isStatics = false) (hE : s.vm.findClass E = some cell.cls) {hp : Nat} :
    ∀ (es : List ExceptionTableEntry), th_Hit s args own E f.pc hp es → ∀ V : Vm, s.WarmedH V →
      ∃ V' : Vm, s.WarmedH V' ∧ ∀ (Q : Handler → Pre) (E : CtlPost) (d : Bool) (acts : List Action), wp (findHandler.go f a es) Q E e d acts (U.setVm V) ↔ Q (.found hp) d acts (U.setVm V') := by
  intro es
  induction es with
  | nil => intro h; exact h.elim
  | cons x t ih =>
    intro h V hV
    rcases h with ⟨hx, h⟩ | ⟨hx, h0, nm, hlink, h⟩
    · obtain ⟨V', h1, h2⟩ := ih h V hV
      exact ⟨V', h1, fun Q E d acts => by rw [W.findHandler_go_skip hx]; exact h2 Q E d acts⟩
    · obtain ⟨cT, hcT, hcl⟩ := Cond.classLink_spec hown hlink e.platform hpl
      obtain ⟨dk, _, _, kt, hd, _, _, _, _, hkt, _, hopen⟩ := hcl.here
      have hcl₀ := hV.classLinks hcl
      have hW' : s.WarmedH (V.noted f.method.cls x.catchType (.cls cT)) := hV.noted hd hopen (State.rightAt_cls hcl)
      have hal := hW'.alike
      obtain ⟨ha, ht⟩ := (resolveClass_links e.toSetting hcl₀).op (op := VmOp.resolveClass f.method.cls x.catchType) rfl
      obtain ⟨kE, hkE, -⟩ := Vm.findClass_spec hE
      obtain ⟨k1', hk1', -⟩ := hal.2.2 _ _ hkE
      obtain ⟨k2', hk2', -⟩ := hal.2.2 _ _ hkt
      have hx' := hx
      simp only [covers] at hx'
      have hns := VmData.ne_statics_of hobj
      have hcell' : (U.setVm V).heap[a]? = some cell := hcell
      rcases h with ⟨⟨cE, cT', e1, e2, e3⟩, rfl⟩ | ⟨⟨cE, cT', e1, e2, e3⟩, h⟩
      · cases hE.symm.trans e1
        cases hcT.symm.trans e2
        have hfit : (V.noted f.method.cls x.catchType (.cls cT)).assignable cell.cls cT = true := by rw [hal.assignable]; exact e3
        refine ⟨V.noted f.method.cls x.catchType (.cls cT), hW', fun Q E d acts => ?_⟩
        simp [findHandler.go, hx', h0, ha, ht, hcell, hns, hk1', hk2', hfit, VmOp.dirties, VmOp.acts]
        exact Iff.rfl
      · cases hE.symm.trans e1
        cases hcT.symm.trans e2
        have hfit : (V.noted f.method.cls x.catchType (.cls cT)).assignable cell.cls cT = false := by rw [hal.assignable]; exact e3
        obtain ⟨V', h1, h2⟩ := ih h _ hW'
        refine ⟨V', h1, fun Q E d acts => ?_⟩
        rw [← h2 Q E d acts]
        simp [findHandler.go, hx', h0, ha, ht, hcell, hns, hk1', hk2', hfit, VmOp.dirties, VmOp.acts]
        exact Iff.rfl
end THC
section THD
variable {p : Program} {l : Launch} {e : Env} {R : Room} {s : State} {m : MethodId} {args : Array Value} {below : List Frame} {meth : Method} {c : Code} {T : State} {H : Heap} {locs : List Loc} {cells slots : Nat} {Q : State → Prop}
/-- from the note over the caller's frame to its handler -/
theorem th_caught (X : Stand p l e R s m args below meth c T locs cells slots) {a : Addr} {g : JFrame} (hg : g.method = m) {own E : String} (hown : s.vm.findClass own = some m.cls) {cell : Cell} (hcell : T.heap[a]? = some cell) (hobj : cell.vm = .none)
    (hE : s.vm.findClass E = some cell.cls) {hp : Nat} (hit : th_Hit s args own E g.pc hp c.exceptionTable.toList) :
    ∃ vm', Stand p l e R s m args below meth c (T.setVm vm') locs cells slots ∧
      ∀ target, Steps p.tables e below ((T.setVm vm').setTop { g with pc := hp, stack := [.ref a] }) target → Steps p.tables e below ((T.setTop g).pushFrame (.throwing a)) target := by
  have hpl : e.platform.magicAccessors = ({} : Platform).magicAccessors := by rw [X.admits.platform]
  subst hg
  obtain ⟨V', hV', hfind⟩ := th_search (e := e) (s := s) (U := (T.setTop g).pushFrame (.throwing a)) (args := args) (f := g) (a := a) hpl hown (cell := cell) hcell (by rw [hobj]; rfl) hE c.exceptionTable.toList hit T.vm X.warmed
  refine ⟨V', X.noted hV', fun target hrest => ?_⟩
  obtain ⟨hgo, hw⟩ := X.here.throwing a
  refine Steps.head hgo hw ?_
  have hm' : ((T.setTop g).pushFrame (.throwing a)).vm.method? g.method = some meth := X.method'
  have hself : ((T.setTop g).pushFrame (.throwing a)).setVm T.vm = (T.setTop g).pushFrame (.throwing a) := State.setVm_self _
  have hstep : (stepThrowing e ((T.setTop g).pushFrame (.throwing a)) a (.java g :: T.frames.tail)).Is ((((T.setTop g).pushFrame (.throwing a)).setVm V').setFrames (.java { g with pc := hp, stack := [.ref a] } :: T.frames.tail)) [] := by
    simp only [stepThrowing, searchFrame, vmDo]
    generalize hr : Sem.go _ e false [] ((T.setTop g).pushFrame (.throwing a)) = res
    obtain ⟨as, rfl, ha⟩ := Sem.eq_ok_of hr (a := Handler.found hp) (s' := ((T.setTop g).pushFrame (.throwing a)).setVm V') (acts' := [])
      (by
        have h0 : ∀ (Q : Handler → Pre) (E : CtlPost) (d : Bool) (acts : List Action), wp (findHandler g a) Q E e d acts ((T.setTop g).pushFrame (.throwing a)) ↔ Q (.found hp) d acts (((T.setTop g).pushFrame (.throwing a)).setVm V') := by
          intro Q E d acts
          rw [W.findHandler_eq hm' X.code, ← hfind Q E d acts, hself]
        simp [h0 _ _ _ _])
    exact ⟨rfl, ha⟩
  rw [stepThread_throwing (frames_entered X.here.top _), hstep.1]
  obtain ⟨g₀, hg0⟩ := Option.isSome_iff_exists.mp X.here.top
  obtain ⟨r, hr⟩ := State.topJava?_eq_some.mp hg0
  have hr' : (T.setVm V').frames = .java g₀ :: r := hr
  rw [State.setTop_of_frames _ hr'] at hrest
  have hcomm : ∀ (u : State) (F G : List Frame), ((u.setFrames F).setVm V').setFrames G = (u.setVm V').setFrames G := by
    intro u F G
    have h1 : (u.setFrames F).setVm V' = (u.setVm V').setFrames F := rfl
    rw [h1, State.setFrames_setFrames]
  rw [hr, List.tail_cons, State.pushFrame, hcomm, State.setTop_of_frames _ hr, hcomm]
  exact hrest
/-- an invokevirtual that throws E, and the caller's own handler -/
theorem th_callV {y : MethodName} {bytes cc : ByteArray} {maxL nL mc ms n index : Nat} {ret : Option FieldType} {ws : List Cond} {rm : Room} {Pc : Array Value → State → Prop} {E : String} {Ts : List Cond} {own C : String} {b : Addr} {As rest : List Value}
    (S : CallFix p m c cc nL s args Ts own) (hM : th_Met l y ws rm Pc E mc ms) (cw : CallW R s args own C index y bytes maxL ret ws rm mc ms n) (hp : PreV s H C b Pc As) {pc : Nat} {ls : Array Slot} (hn : As.length = n) (hsize : ls.size = nL) {st0 : List Value} (hstack : st0 = As.reverse ++ .ref b :: rest)
    (hW : (rest.map fun v => v.category).sum ≤ 8) (hdg : decode cc pc = .ok (.invokevirtual index, 3)) (hf : cells + mc ≤ R.cells ∧ slots + ms ≤ R.slots) {hpc : Nat} (hit : th_Hit s args own E pc hpc c.exceptionTable.toList)
    (kk : ∀ (x : Nat) (H1 : Heap), H.size ≤ x → H.size ≤ H1.size → (∀ q : Nat, q < H.size → H1[q]? = H[q]?) → W p l e R s m args below meth c H1 locs (cells + mc) (slots + ms) Q (F0 m hpc ls [.ref x])) :
    W p l e R s m args below meth c H locs cells slots Q (F0 m pc ls st0) := by
  subst hstack
  obtain ⟨⟨hrc, hrs, hfr, hlo, hws, hcw, hcode, hini, hy, hlen, hl⟩, hin, hse⟩ := cw
  obtain ⟨hx, hb, hml, ho, -⟩ := S
  obtain ⟨hbl, ⟨cellB, hcB, hoB, hclB⟩, hPc⟩ := hp
  intro T hT X
  obtain ⟨mk, methM, hnamed, hmethM, hstM, habM⟩ := Cond.instanceMethod_spec hin
  obtain ⟨methM', cM, hmethM', -, -, -, -, -, -, hsigM⟩ := Cond.code_spec hnamed hcode
  cases hmethM.symm.trans hmethM'
  obtain ⟨c2, r2, m2, q1, q2, q3, q4, kP, hkP, hkPi⟩ := Cond.selects_spec hse
  cases hclB.symm.trans q1
  cases (State.methodFound?_of_named hnamed hy).symm.trans q2
  cases hnamed.symm.trans q3
  have hselP : selectMethod e.platform s.vm cellB.cls mk = .method mk := by rw [Launch.admits_selectMethod X.admits]; exact q4
  obtain ⟨vm₁, X₁, hstep₁⟩ := X.invokevirtual hx ho hl hnamed hmethM hstM hkP hkPi hy (a := b) (cell := cellB) (by rw [hT]; exact hcB)
    (fun z h => by rw [h] at hoB; cases hoB) hselP hmethM habM hkP hkPi (g := F0 m pc ls (As.reverse ++ .ref b :: rest)) rfl (argsL := As) (rest := rest) (hn.trans (hlen _ hsigM)) rfl (by rw [hb]; exact hdg)
  obtain ⟨x, ce, T', X', z1, z2, z3, z4, z5, z6, z7⟩ := th_out (bytes := bytes) (maxL := maxL) (ret := ret) hM hbl hrc hrs hfr hlo hws hcw hini X₁ (g := F0 m pc ls rest) (ig := .invokevirtual index) (len := 3) rfl (hsize.trans hml.symm) (by rw [hb]; exact hdg) (lv_room hW) (X₁.named hnamed) (a := (Value.ref b :: As).toArray) (hPc (T.setVm vm₁) hT X₁.warmed) hf.1 hf.2
  obtain ⟨vm', X2, st2⟩ := th_caught X' (a := x) (g := F0 m pc ls rest) rfl ho z2 z3 z4 hit
  have zz : (T.setVm vm₁).heap = H := hT
  rw [zz] at z1 z5 z6
  obtain ⟨t, a1, b1⟩ := kk x T'.heap z1 z5 z6 (T'.setVm vm') rfl X2
  exact ⟨t, hstep₁ _ fun acts => by rw [doInvoke_state]; exact z7.trans (st2 t a1), b1⟩
end THD
section THE
variable {l : Launch}
/-- the contract of a method that has handlers, out of a walk of its body -/
theorem th_ofWith {y : MethodName} {ws ws' : List Cond} {rm : Room} {Pc : Array Value → State → Prop} {Qc : Array Value → State → Outcome → State → Prop} {mc ms : Nat} {free : Addr → Prop} {cc : ByteArray} {maxL : Nat} {ret : Option FieldType} {hs : List (Nat × Nat × Nat × Nat)}
    (hy : plainName y.cls = true) (hw : ws = Cond.codeWith y cc maxL ret hs :: ws')
    (body : ∀ p e s m args below meth c s₁, BodyLoose p l y (headSpec ws rm) cc maxL ret e s m args below meth c s₁ → c.maxLocals = maxL → c.exceptionTable.toList.map (fun h => (h.startPc, h.endPc, h.handlerPc, h.catchType)) = hs → Pc args s →
      W p l e (headSpec ws rm).room s m args below meth c s.heap [] 0 0 (MQ below Qc args s mc ms free) (entryFrame m args maxL)) : Met l y ws rm Pc Qc mc ms free := by
  refine MetFree.of_bodyS (code := cc) (maxLocals := maxL) (ret := ret) hy ?_ ?_
  · intro args s m h hn
    obtain ⟨m', meth, c, h0, h1, h2, h3, h4, h7, h5, h6, -⟩ := Cond.codeWith_spec (atoms_spec (ws := ws) h _ (by rw [hw]; exact List.mem_cons_self))
    cases hn.symm.trans h0
    exact ⟨meth, c, h1, h2, h3, h4, h5, h6⟩
  · intro p e s m args below meth c s₁ B hml hP _
    have hh0 : s₁.heap = s.heap := by rw [B.state]; rfl
    have X := Stand.of_body B
    obtain ⟨m', meth', c', h0, h1, h2, h3, h4, h7, h5, h6, -⟩ := Cond.codeWith_spec (atoms_spec (ws := ws) B.pre _ (by rw [hw]; exact List.mem_cons_self))
    cases B.named.symm.trans h0
    cases B.method.symm.trans h1
    cases X.code.symm.trans h2
    obtain ⟨t, a1, o, b1, b2, b3⟩ := body p e s m args below meth c s₁ B hml h7 hP s₁ hh0 X
    exact ⟨t, o, a1, b1, b2, ⟨b3.1, b3.2⟩⟩
/-- an entry of a table that is known by its four numbers -/
theorem th_one {s : State} {args : Array Value} {own E : String} {pc hp : Nat} {t : List ExceptionTableEntry} {a b h k : Nat} (ht : t.map (fun h => (h.startPc, h.endPc, h.handlerPc, h.catchType)) = [(a, b, h, k)]) (hc : (decide (a ≤ pc) && decide (pc < b)) = true) (hk : k ≠ 0) (hh : h = hp)
    {nm : String} (hl : (Cond.classLink own k nm).before args s = true) (hf : (Cond.castable E nm).before args s = true) : th_Hit s args own E pc hp t := by
  obtain ⟨c1, c2, e1, e2, e3⟩ := Cond.castable_spec hf
  match t, ht with
  | [x], ht =>
    obtain ⟨x1, x2, x3, x4⟩ := x
    simp only [List.map_cons, List.map_nil, List.cons.injEq, Prod.mk.injEq, and_true] at ht
    obtain ⟨rfl, rfl, rfl, rfl⟩ := ht
    exact Or.inr ⟨hc, hk, nm, hl, Or.inl ⟨⟨c1, c2, e1, e2, e3⟩, hh⟩⟩
theorem th_first {s : State} {args : Array Value} {own E : String} {pc hp : Nat} {t : List ExceptionTableEntry} {a b h k : Nat} {r : Nat × Nat × Nat × Nat} (ht : t.map (fun h => (h.startPc, h.endPc, h.handlerPc, h.catchType)) = [(a, b, h, k), r]) (hc : (decide (a ≤ pc) && decide (pc < b)) = true) (hk : k ≠ 0) (hh : h = hp)
    {nm : String} (hl : (Cond.classLink own k nm).before args s = true) (hf : (Cond.castable E nm).before args s = true) : th_Hit s args own E pc hp t := by
  obtain ⟨c1, c2, e1, e2, e3⟩ := Cond.castable_spec hf
  match t, ht with
  | [x, _], ht =>
    obtain ⟨x1, x2, x3, x4⟩ := x
    simp only [List.map_cons, List.map_nil, List.cons.injEq, Prod.mk.injEq, and_true] at ht
    obtain ⟨⟨rfl, rfl, rfl, rfl⟩, -⟩ := ht
    exact Or.inr ⟨hc, hk, nm, hl, Or.inl ⟨⟨c1, c2, e1, e2, e3⟩, hh⟩⟩
theorem th_second {s : State} {args : Array Value} {own E : String} {pc hp : Nat} {t : List ExceptionTableEntry} {a b h k a2 b2 h2 k2 : Nat} (ht : t.map (fun h => (h.startPc, h.endPc, h.handlerPc, h.catchType)) = [(a, b, h, k), (a2, b2, h2, k2)])
    (hc : (decide (a ≤ pc) && decide (pc < b)) = true) (hk : k ≠ 0) (hc2 : (decide (a2 ≤ pc) && decide (pc < b2)) = true) (hk2 : k2 ≠ 0) (hh : h2 = hp)
    {nm nm2 : String} (hl : (Cond.classLink own k nm).before args s = true) (hno : va_Nc E nm s) (hl2 : (Cond.classLink own k2 nm2).before args s = true) (hf : (Cond.castable E nm2).before args s = true) : th_Hit s args own E pc hp t := by
  obtain ⟨c1, c2, e1, e2, e3⟩ := Cond.castable_spec hf
  match t, ht with
  | [x, y], ht =>
    obtain ⟨x1, x2, x3, x4⟩ := x
    obtain ⟨y1, y2, y3, y4⟩ := y
    simp only [List.map_cons, List.map_nil, List.cons.injEq, Prod.mk.injEq, and_true] at ht
    obtain ⟨⟨rfl, rfl, rfl, rfl⟩, rfl, rfl, rfl, rfl⟩ := ht
    exact Or.inr ⟨hc, hk, nm, hl, Or.inr ⟨hno, Or.inr ⟨hc2, hk2, nm2, hl2, Or.inl ⟨⟨c1, c2, e1, e2, e3⟩, hh⟩⟩⟩⟩
end THE
section THF
variable {p : Program} {l : Launch} {e : Env} {R : Room} {s : State} {m : MethodId} {args : Array Value} {below : List Frame} {meth : Method} {c : Code} {H : Heap} {locs : List Loc} {cells slots : Nat}
/-- a static call, in its own class, of a method that has handlers and returns -/
theorem th_runS {y : MethodName} {bytes cc : ByteArray} {maxL nL mc ms n index : Nat} {ret : Option FieldType} {hs : List (Nat × Nat × Nat × Nat)} {ws ws' : List Cond} {rm : Room} {Pc : Array Value → State → Prop} {Qc : Array Value → State → Outcome → State → Prop} {free : Addr → Prop} {Ts : List Cond} {own : String} {As rest : List Value} {pc : Nat} {ls : Array Slot} {st0 : List Value}
    (S : CallFix p m c cc nL s args Ts own) (hM : Met l y ws rm Pc Qc mc ms free) (hG : GoodIn Ts (wsS own index y ws)) (hw : ws = Cond.codeWith y bytes maxL ret hs :: ws') (hrc : rm.cells = mc) (hrs : rm.slots = ms)
    (hd : y.cls = own ∧ y.cls ≠ "java/lang/invoke/MethodHandle" ∧ y.cls ≠ "java/lang/invoke/VarHandle" ∧ (parseMethodDescriptor y.desc).map (fun d => d.parameters.length) = some n) (hR : rm.frames + 1 ≤ R.frames ∧ 8 + (maxL + 11) + rm.locals ≤ R.locals) (hp : PreS s H Pc As)
    (hn : As.length = n) (hsize : ls.size = nL) (hstack : st0 = As.reverse ++ rest) (hW : (rest.map fun v => v.category).sum ≤ 8) (hdg : decode cc pc = .ok (.invokestatic index, 3)) (hf : cells + mc ≤ R.cells ∧ slots + ms ≤ R.slots) :
    va_Run p l e R s m args below meth c H locs cells slots mc ms (F0 m pc ls st0) rest (Qc As.toArray) free := by
  subst hstack
  obtain ⟨hx, hb, hml, ho, ht⟩ := S
  obtain ⟨hC, hy1, hy2, hlen⟩ := hd
  have ok : ∀ w ∈ wsS own index y ws, w.before args s = true := fun w h => ht w (hG w h).1
  have hl : (Cond.methodLink own index y).before args s = true := ok _ (by simp [wsS])
  have hstt : (Cond.static y).before args s = true := ok _ (by simp [wsS])
  have hini : (Cond.initialized y.cls).before args s = true := by rw [hC]; exact ok _ (by simp [wsS])
  have hcw : Cond.codeWith y bytes maxL ret hs ∈ ws := by rw [hw]; exact List.mem_cons_self
  have hws : ∀ w ∈ ws, ∀ (a' : Array Value) (U : State), s.WarmedH U.vm → w.before a' U = true := pay_in ht (fun w h => hG w (by unfold wsS; exact List.mem_append_right _ h))
  have hcode : (Cond.codeWith y bytes maxL ret hs).before args s = true := ok _ (by unfold wsS; exact List.mem_append_right _ hcw)
  have hK : Back l R p e below s args y 3 8 (PreOf R mc ms Pc) (PostOf Qc mc ms free) := by
    refine Back.of_freeWith (handlers := hs) (S := headSpec ws rm) (P := Pc) (K := fun _ _ _ _ _ => True) (Q := fun a st o t => Qc a st o t ∧ ∃ L, FrameEnd st o t L mc ms ∧ ∀ q ∈ L, free q.base) (bytes := bytes) (maxL := maxL) (ret := ret)
      (E := fun a st o t L k n => k = mc ∧ n = ms ∧ ∀ q ∈ L, free q.base) hM hR.1 hR.2 ?_ ?_ (fun _ _ _ _ _ _ _ _ _ => trivial) ?_ ?_
    · intro m meth c A a X hp
      exact ⟨atoms_intro fun w hw => hws w hw _ _ X.warmed, hws _ hcw _ _ X.warmed, word_at X.warmed (Or.inl (by first | rfl | simp [Cond.onTables, Cond.keeps, Cond.steady])) hini, by rw [show (headSpec ws rm).room.cells = mc from hrc]; exact hp.1, by rw [show (headSpec ws rm).room.slots = ms from hrs]; exact hp.2.1⟩
    · intro m meth c A a g mk X hq
      exact hp.1 _ _ _ _ hq.2.2
    · intro a st o t ⟨hq, L, hF, hL⟩
      exact ⟨L, mc, ms, hF, rfl, rfl, hL⟩
    · intro m meth c A a g mk v t L k n X hp hq hF ⟨e1, e2, hL⟩
      subst e1; subst e2
      exact ⟨g, mk, t, L, rfl, rfl, hq.1, rfl, hL, rfl, rfl⟩
  intro T hT X
  obtain ⟨mk, methM, cM, hnamed, hmethM, -, -, -, -, -, -, hsigM⟩ := Cond.codeWith_spec hcode
  have hstatic : methM.isStatic = true := Cond.static_spec hnamed hmethM hstt
  obtain ⟨kP, hkP, -⟩ := className_of_methodNamed hnamed
  have hinitP : kP.init = .initialized := Cond.initialized_spec (findClass_of_methodNamed hnamed) hkP hini
  have hpn : As.length = methM.sig.parameters.length := by
    rw [hsigM] at hlen
    rw [hn]
    exact (Option.some.inj hlen).symm
  obtain ⟨vm₁, X₁, hstep₁⟩ := X.invokestatic hx ho hl hnamed hmethM hstatic hkP hinitP ⟨hy1, hy2⟩ (g := F0 m pc ls (As.reverse ++ rest)) rfl (argsL := As) (rest := rest) hpn rfl (by rw [hb]; exact hdg)
  obtain ⟨v, ⟨U', l2, c2, s2⟩, X', ⟨g', mk', t, L, e1, e2, hq, h1, hL, h2, h3⟩, hsteps⟩ := hK m meth c ⟨T.setVm vm₁, locs, cells, slots⟩ (F0 m pc ls rest) (.invokestatic index) mk As.toArray X₁ rfl (hsize.trans hml.symm) (by rw [hb]; exact hdg) (lv_room hW) (X₁.named hnamed) ⟨hf.1, hf.2, hp.2 (T.setVm vm₁) hT X₁.warmed⟩
  dsimp only [Pt.U, Pt.locs, Pt.cells, Pt.slots] at X' e1 e2 h1 h2 h3 hsteps
  subst h1; subst h2; subst h3
  exact ⟨v, (T.setVm vm₁).calling g' mk' As.toArray, t, U', L, hT, X', hL, e1, e2, hq, fun target h => hstep₁ _ fun acts => by rw [doInvoke_state]; exact hsteps.trans h⟩
end THF
end
section
/-- a private method of a class that the tables say can be made, by its rows of tables_1 -/
def lw_okq (q : MethodName × Nat) : Prop := (q.1.cls ≠ "java/lang/invoke/MethodHandle" ∧ q.1.cls ≠ "java/lang/invoke/VarHandle") ∧ Cond.instantiable q.1.cls q.2 ∈ tables_1 ∧ Cond.privateMethod q.1 ∈ tables_1 ∧ Cond.instanceMethod q.1 ∈ tables_1
/-! names, words, decode rows: written by a program out of the Statement's tables and javap's listing -/
abbrev R_FG : String := "FilterGuard"
abbrev R_Pr : String := "FilterGuard$Program"
abbrev R_Ma : String := "FilterGuard$Maps"
abbrev R_Me : String := "FilterGuard$Memory"
abbrev R_Fo : String := "FilterGuard$Foretold"
abbrev R_Ch : String := "FilterGuard$Checker"
abbrev R_St : String := "FilterGuard$State"
abbrev R_Ra : String := "FilterGuard$Range"
abbrev R_Ru : String := "FilterGuard$Runner"
abbrev R_Mo : String := "FilterGuardModel"
abbrev R_La : String := "FilterGuardLaw"
abbrev R_Ar : String := "java/util/Arrays"
abbrev E_IAE : String := "java/lang/IllegalArgumentException"
abbrev E_ISE : String := "java/lang/IllegalStateException"
abbrev E_IOE : String := "java/lang/IndexOutOfBoundsException"
abbrev E_NSE : String := "java/util/NoSuchElementException"
def F_FG : u_T := fun k => match k with
  | 0 => (R_FG, "program", "LFilterGuard$Program;", true)
  | 1 => (R_FG, "maps", "LFilterGuard$Maps;", true)
  | 2 => (R_FG, "memory", "LFilterGuard$Memory;", true)
  | 3 => (R_FG, "foretold", "LFilterGuard$Foretold;", true)
  | 4 => (R_FG, "checker", "LFilterGuard$Checker;", true)
  | 5 => (R_FG, "runner", "LFilterGuard$Runner;", true)
  | _ => (R_FG, "passed", "Z", false)
def t_FG : Nat → FieldType := fun k => match k with
  | 0 => (.object R_Pr)
  | 1 => (.object R_Ma)
  | 2 => (.object R_Me)
  | 3 => (.object R_Fo)
  | 4 => (.object R_Ch)
  | 5 => (.object R_Ru)
  | _ => .boolean
set_option maxRecDepth 100000 in
theorem n_FG : ∀ a, a < 7 → ∀ b, b < 7 → a ≠ b → (F_FG a).2.1 ≠ (F_FG b).2.1 := by decide +kernel
set_option maxRecDepth 100000 in
theorem t_FG_ok : ∀ k, k < 7 → parseFieldDescriptor (F_FG k).2.2.1 = some (t_FG k) := by decide +kernel
set_option maxRecDepth 100000 in
theorem zz_df_FG : ∀ j, j < 7 → defaultValue (t_FG j) = vp_V [.null, .null, .null, .null, .null, .null, .int 0] j := by decide +kernel
def F_Pr : u_T := fun k => match k with
  | 0 => (R_Pr, "sort", "[I", true)
  | 1 => (R_Pr, "dst", "[I", true)
  | 2 => (R_Pr, "src", "[I", true)
  | 3 => (R_Pr, "off", "[I", true)
  | 4 => (R_Pr, "imm", "[I", true)
  | _ => (R_Pr, "size", "I", false)
def t_Pr : Nat → FieldType := fun k => match k with
  | 0 => (.array .int)
  | 1 => (.array .int)
  | 2 => (.array .int)
  | 3 => (.array .int)
  | 4 => (.array .int)
  | _ => .int
set_option maxRecDepth 100000 in
theorem n_Pr : ∀ a, a < 6 → ∀ b, b < 6 → a ≠ b → (F_Pr a).2.1 ≠ (F_Pr b).2.1 := by decide +kernel
set_option maxRecDepth 100000 in
theorem t_Pr_ok : ∀ k, k < 6 → parseFieldDescriptor (F_Pr k).2.2.1 = some (t_Pr k) := by decide +kernel
set_option maxRecDepth 100000 in
theorem zz_df_Pr : ∀ j, j < 6 → defaultValue (t_Pr j) = vp_V [.null, .null, .null, .null, .null, .int 0] j := by decide +kernel
def F_Ma : u_T := fun k => match k with
  | 0 => (R_Ma, "keyBytes", "[I", true)
  | 1 => (R_Ma, "valueBytes", "[I", true)
  | 2 => (R_Ma, "values", "[B", true)
  | 3 => (R_Ma, "sought", "[B", true)
  | 4 => (R_Ma, "places", "[I", true)
  | 5 => (R_Ma, "taken", "[Z", true)
  | 6 => (R_Ma, "keys", "[B", true)
  | _ => (R_Ma, "size", "I", false)
def t_Ma : Nat → FieldType := fun k => match k with
  | 0 => (.array .int)
  | 1 => (.array .int)
  | 2 => (.array .byte)
  | 3 => (.array .byte)
  | 4 => (.array .int)
  | 5 => (.array .boolean)
  | 6 => (.array .byte)
  | _ => .int
set_option maxRecDepth 100000 in
theorem n_Ma : ∀ a, a < 8 → ∀ b, b < 8 → a ≠ b → (F_Ma a).2.1 ≠ (F_Ma b).2.1 := by decide +kernel
set_option maxRecDepth 100000 in
theorem t_Ma_ok : ∀ k, k < 8 → parseFieldDescriptor (F_Ma k).2.2.1 = some (t_Ma k) := by decide +kernel
set_option maxRecDepth 100000 in
theorem zz_df_Ma : ∀ j, j < 8 → defaultValue (t_Ma j) = vp_V [.null, .null, .null, .null, .null, .null, .null, .int 0] j := by decide +kernel
def F_Me : u_T := fun k => match k with
  | 0 => (R_Me, "maps", "LFilterGuard$Maps;", true)
  | 1 => (R_Me, "packet", "[B", true)
  | 2 => (R_Me, "stack", "[B", true)
  | 3 => (R_Me, "packetLength", "I", false)
  | _ => (R_Me, "strays", "I", false)
def t_Me : Nat → FieldType := fun k => match k with
  | 0 => (.object R_Ma)
  | 1 => (.array .byte)
  | 2 => (.array .byte)
  | 3 => .int
  | _ => .int
set_option maxRecDepth 100000 in
theorem n_Me : ∀ a, a < 5 → ∀ b, b < 5 → a ≠ b → (F_Me a).2.1 ≠ (F_Me b).2.1 := by decide +kernel
set_option maxRecDepth 100000 in
theorem t_Me_ok : ∀ k, k < 5 → parseFieldDescriptor (F_Me k).2.2.1 = some (t_Me k) := by decide +kernel
set_option maxRecDepth 100000 in
theorem zz_df_Me : ∀ j, j < 5 → defaultValue (t_Me j) = vp_V [.null, .null, .null, .int 0, .int 0] j := by decide +kernel
def F_Fo : u_T := fun k => match k with
  | 0 => (R_Fo, "gone", "[I", true)
  | 1 => (R_Fo, "number", "[Z", true)
  | 2 => (R_Fo, "low", "[J", true)
  | _ => (R_Fo, "high", "[J", true)
def t_Fo : Nat → FieldType := fun k => match k with
  | 0 => (.array .int)
  | 1 => (.array .boolean)
  | 2 => (.array .long)
  | _ => (.array .long)
set_option maxRecDepth 100000 in
theorem n_Fo : ∀ a, a < 4 → ∀ b, b < 4 → a ≠ b → (F_Fo a).2.1 ≠ (F_Fo b).2.1 := by decide +kernel
set_option maxRecDepth 100000 in
theorem t_Fo_ok : ∀ k, k < 4 → parseFieldDescriptor (F_Fo k).2.2.1 = some (t_Fo k) := by decide +kernel
set_option maxRecDepth 100000 in
theorem zz_df_Fo : ∀ j, j < 4 → defaultValue (t_Fo j) = vp_V [.null, .null, .null, .null] j := by decide +kernel
def F_Ch : u_T := fun k => match k with
  | 0 => (R_Ch, "program", "LFilterGuard$Program;", true)
  | 1 => (R_Ch, "maps", "LFilterGuard$Maps;", true)
  | 2 => (R_Ch, "foretold", "LFilterGuard$Foretold;", true)
  | 3 => (R_Ch, "now", "LFilterGuard$State;", true)
  | 4 => (R_Ch, "other", "LFilterGuard$State;", true)
  | 5 => (R_Ch, "waiting", "[LFilterGuard$State;", true)
  | 6 => (R_Ch, "x", "LFilterGuard$Range;", true)
  | 7 => (R_Ch, "y", "LFilterGuard$Range;", true)
  | 8 => (R_Ch, "z", "LFilterGuard$Range;", true)
  | 9 => (R_Ch, "waits", "I", false)
  | 10 => (R_Ch, "tags", "I", false)
  | 11 => (R_Ch, "gone", "I", false)
  | 12 => (R_Ch, "fault", "I", false)
  | _ => (R_Ch, "faultAt", "I", false)
def t_Ch : Nat → FieldType := fun k => match k with
  | 0 => (.object R_Pr)
  | 1 => (.object R_Ma)
  | 2 => (.object R_Fo)
  | 3 => (.object R_St)
  | 4 => (.object R_St)
  | 5 => (.array (.object R_St))
  | 6 => (.object R_Ra)
  | 7 => (.object R_Ra)
  | 8 => (.object R_Ra)
  | 9 => .int
  | 10 => .int
  | 11 => .int
  | 12 => .int
  | _ => .int
set_option maxRecDepth 100000 in
theorem n_Ch : ∀ a, a < 14 → ∀ b, b < 14 → a ≠ b → (F_Ch a).2.1 ≠ (F_Ch b).2.1 := by decide +kernel
set_option maxRecDepth 100000 in
theorem t_Ch_ok : ∀ k, k < 14 → parseFieldDescriptor (F_Ch k).2.2.1 = some (t_Ch k) := by decide +kernel
set_option maxRecDepth 100000 in
theorem zz_df_Ch : ∀ j, j < 14 → defaultValue (t_Ch j) = vp_V [.null, .null, .null, .null, .null, .null, .null, .null, .null, .int 0, .int 0, .int 0, .int 0, .int 0] j := by decide +kernel
def F_St : u_T := fun k => match k with
  | 0 => (R_St, "kind", "[I", true)
  | 1 => (R_St, "map", "[I", true)
  | 2 => (R_St, "tag", "[I", true)
  | 3 => (R_St, "low", "[J", true)
  | 4 => (R_St, "high", "[J", true)
  | 5 => (R_St, "data", "[I", true)
  | 6 => (R_St, "length", "I", false)
  | _ => (R_St, "at", "I", false)
def t_St : Nat → FieldType := fun k => match k with
  | 0 => (.array .int)
  | 1 => (.array .int)
  | 2 => (.array .int)
  | 3 => (.array .long)
  | 4 => (.array .long)
  | 5 => (.array .int)
  | 6 => .int
  | _ => .int
set_option maxRecDepth 100000 in
theorem n_St : ∀ a, a < 8 → ∀ b, b < 8 → a ≠ b → (F_St a).2.1 ≠ (F_St b).2.1 := by decide +kernel
set_option maxRecDepth 100000 in
theorem t_St_ok : ∀ k, k < 8 → parseFieldDescriptor (F_St k).2.2.1 = some (t_St k) := by decide +kernel
set_option maxRecDepth 100000 in
theorem zz_df_St : ∀ j, j < 8 → defaultValue (t_St j) = vp_V [.null, .null, .null, .null, .null, .null, .int 0, .int 0] j := by decide +kernel
def F_Ra : u_T := fun k => match k with
  | 0 => (R_Ra, "low", "J", false)
  | _ => (R_Ra, "high", "J", false)
def t_Ra : Nat → FieldType := fun k => match k with
  | 0 => .long
  | _ => .long
set_option maxRecDepth 100000 in
theorem n_Ra : ∀ a, a < 2 → ∀ b, b < 2 → a ≠ b → (F_Ra a).2.1 ≠ (F_Ra b).2.1 := by decide +kernel
set_option maxRecDepth 100000 in
theorem t_Ra_ok : ∀ k, k < 2 → parseFieldDescriptor (F_Ra k).2.2.1 = some (t_Ra k) := by decide +kernel
set_option maxRecDepth 100000 in
theorem zz_df_Ra : ∀ j, j < 2 → defaultValue (t_Ra j) = vp_V [.long 0, .long 0] j := by decide +kernel
def F_Ru : u_T := fun k => match k with
  | 0 => (R_Ru, "program", "LFilterGuard$Program;", true)
  | 1 => (R_Ru, "foretold", "LFilterGuard$Foretold;", true)
  | 2 => (R_Ru, "memory", "LFilterGuard$Memory;", true)
  | 3 => (R_Ru, "register", "[J", true)
  | 4 => (R_Ru, "kind", "[I", true)
  | 5 => (R_Ru, "log", "[J", true)
  | 6 => (R_Ru, "logged", "I", false)
  | 7 => (R_Ru, "done", "I", false)
  | 8 => (R_Ru, "chance", "J", false)
  | 9 => (R_Ru, "at", "I", false)
  | 10 => (R_Ru, "looks", "I", false)
  | _ => (R_Ru, "unforetold", "I", false)
def t_Ru : Nat → FieldType := fun k => match k with
  | 0 => (.object R_Pr)
  | 1 => (.object R_Fo)
  | 2 => (.object R_Me)
  | 3 => (.array .long)
  | 4 => (.array .int)
  | 5 => (.array .long)
  | 6 => .int
  | 7 => .int
  | 8 => .long
  | 9 => .int
  | 10 => .int
  | _ => .int
set_option maxRecDepth 100000 in
theorem n_Ru : ∀ a, a < 12 → ∀ b, b < 12 → a ≠ b → (F_Ru a).2.1 ≠ (F_Ru b).2.1 := by decide +kernel
set_option maxRecDepth 100000 in
theorem t_Ru_ok : ∀ k, k < 12 → parseFieldDescriptor (F_Ru k).2.2.1 = some (t_Ru k) := by decide +kernel
set_option maxRecDepth 100000 in
theorem zz_df_Ru : ∀ j, j < 12 → defaultValue (t_Ru j) = vp_V [.null, .null, .null, .null, .null, .null, .int 0, .int 0, .long 0, .int 0, .int 0, .int 0] j := by decide +kernel
def F_Mo : u_T := fun k => match k with
  | 0 => (R_Mo, "thrown", "I", false)
  | 1 => (R_Mo, "sort", "[I", true)
  | 2 => (R_Mo, "dst", "[I", true)
  | 3 => (R_Mo, "src", "[I", true)
  | 4 => (R_Mo, "off", "[I", true)
  | 5 => (R_Mo, "imm", "[I", true)
  | 6 => (R_Mo, "many", "I", false)
  | 7 => (R_Mo, "passed", "Z", false)
  | 8 => (R_Mo, "keyBytes", "[I", true)
  | 9 => (R_Mo, "valueBytes", "[I", true)
  | 10 => (R_Mo, "places", "[I", true)
  | 11 => (R_Mo, "maps", "I", false)
  | 12 => (R_Mo, "fault", "I", false)
  | 13 => (R_Mo, "faultAt", "I", false)
  | 14 => (R_Mo, "gone", "I", false)
  | 15 => (R_Mo, "kind", "[I", true)
  | 16 => (R_Mo, "mapOf", "[I", true)
  | 17 => (R_Mo, "tag", "[I", true)
  | 18 => (R_Mo, "low", "[J", true)
  | 19 => (R_Mo, "high", "[J", true)
  | 20 => (R_Mo, "stack", "[I", true)
  | 21 => (R_Mo, "length", "[I", true)
  | 22 => (R_Mo, "goesTo", "[I", true)
  | 23 => (R_Mo, "sides", "I", false)
  | 24 => (R_Mo, "tags", "I", false)
  | 25 => (R_Mo, "times", "[I", true)
  | 26 => (R_Mo, "seen", "[I", true)
  | 27 => (R_Mo, "leastLow", "[J", true)
  | 28 => (R_Mo, "mostHigh", "[J", true)
  | 29 => (R_Mo, "a", "J", false)
  | 30 => (R_Mo, "b", "J", false)
  | 31 => (R_Mo, "fits", "Z", false)
  | 32 => (R_Mo, "xl", "J", false)
  | 33 => (R_Mo, "xh", "J", false)
  | 34 => (R_Mo, "yl", "J", false)
  | 35 => (R_Mo, "yh", "J", false)
  | 36 => (R_Mo, "next", "Z", false)
  | 37 => (R_Mo, "other", "Z", false)
  | 38 => (R_Mo, "waits", "I", false)
  | 39 => (R_Mo, "to", "I", false)
  | 40 => (R_Mo, "packet", "[B", true)
  | 41 => (R_Mo, "packetEnd", "I", false)
  | 42 => (R_Mo, "data", "[B", true)
  | 43 => (R_Mo, "full", "[Z", true)
  | 44 => (R_Mo, "seed", "J", false)
  | 45 => (R_Mo, "log", "[J", true)
  | 46 => (R_Mo, "logged", "I", false)
  | 47 => (R_Mo, "done", "I", false)
  | 48 => (R_Mo, "wrong", "I", false)
  | 49 => (R_Mo, "is", "[I", true)
  | 50 => (R_Mo, "ofMap", "[I", true)
  | 51 => (R_Mo, "ofPlace", "[I", true)
  | 52 => (R_Mo, "ofTag", "[I", true)
  | 53 => (R_Mo, "is64", "[J", true)
  | 54 => (R_Mo, "own", "[B", true)
  | _ => (R_Mo, "runTags", "I", false)
def t_Mo : Nat → FieldType := fun k => match k with
  | 0 => .int
  | 1 => (.array .int)
  | 2 => (.array .int)
  | 3 => (.array .int)
  | 4 => (.array .int)
  | 5 => (.array .int)
  | 6 => .int
  | 7 => .boolean
  | 8 => (.array .int)
  | 9 => (.array .int)
  | 10 => (.array .int)
  | 11 => .int
  | 12 => .int
  | 13 => .int
  | 14 => .int
  | 15 => (.array .int)
  | 16 => (.array .int)
  | 17 => (.array .int)
  | 18 => (.array .long)
  | 19 => (.array .long)
  | 20 => (.array .int)
  | 21 => (.array .int)
  | 22 => (.array .int)
  | 23 => .int
  | 24 => .int
  | 25 => (.array .int)
  | 26 => (.array .int)
  | 27 => (.array .long)
  | 28 => (.array .long)
  | 29 => .long
  | 30 => .long
  | 31 => .boolean
  | 32 => .long
  | 33 => .long
  | 34 => .long
  | 35 => .long
  | 36 => .boolean
  | 37 => .boolean
  | 38 => .int
  | 39 => .int
  | 40 => (.array .byte)
  | 41 => .int
  | 42 => (.array .byte)
  | 43 => (.array .boolean)
  | 44 => .long
  | 45 => (.array .long)
  | 46 => .int
  | 47 => .int
  | 48 => .int
  | 49 => (.array .int)
  | 50 => (.array .int)
  | 51 => (.array .int)
  | 52 => (.array .int)
  | 53 => (.array .long)
  | 54 => (.array .byte)
  | _ => .int
set_option maxRecDepth 100000 in
theorem n_Mo : ∀ a, a < 56 → ∀ b, b < 56 → a ≠ b → (F_Mo a).2.1 ≠ (F_Mo b).2.1 := by decide +kernel
set_option maxRecDepth 100000 in
theorem t_Mo_ok : ∀ k, k < 56 → parseFieldDescriptor (F_Mo k).2.2.1 = some (t_Mo k) := by decide +kernel
set_option maxRecDepth 100000 in
theorem zz_df_Mo : ∀ j, j < 56 → defaultValue (t_Mo j) = vp_V [.int 0, .null, .null, .null, .null, .null, .int 0, .int 0, .null, .null, .null, .int 0, .int 0, .int 0, .int 0, .null, .null, .null, .null, .null, .null, .null, .null, .int 0, .int 0, .null, .null, .null, .null, .long 0, .long 0, .int 0, .long 0, .long 0, .long 0, .long 0, .int 0, .int 0, .int 0, .int 0, .null, .int 0, .null, .null, .long 0, .null, .int 0, .int 0, .int 0, .null, .null, .null, .null, .null, .null, .int 0] j := by decide +kernel
abbrev classes : List vw_C := [(R_FG, F_FG, 7), (R_Pr, F_Pr, 6), (R_Ma, F_Ma, 8), (R_Me, F_Me, 5), (R_Fo, F_Fo, 4), (R_Ch, F_Ch, 14), (R_St, F_St, 8), (R_Ra, F_Ra, 2), (R_Ru, F_Ru, 12), (R_Mo, F_Mo, 56)]
abbrev y_FG_within : MethodName := ⟨R_FG, "within", "(III)Z"⟩
abbrev y_Ra_init : MethodName := ⟨R_Ra, "<init>", "()V"⟩
abbrev y_St_init : MethodName := ⟨R_St, "<init>", "()V"⟩
abbrev y_Pr_init : MethodName := ⟨R_Pr, "<init>", "()V"⟩
abbrev y_Ma_init : MethodName := ⟨R_Ma, "<init>", "()V"⟩
abbrev y_Me_init : MethodName := ⟨R_Me, "<init>", "(LFilterGuard$Maps;)V"⟩
abbrev y_Fo_init : MethodName := ⟨R_Fo, "<init>", "()V"⟩
abbrev y_Ru_init : MethodName := ⟨R_Ru, "<init>", "(LFilterGuard$Program;LFilterGuard$Foretold;LFilterGuard$Memory;)V"⟩
abbrev y_Ch_init : MethodName := ⟨R_Ch, "<init>", "(LFilterGuard$Program;LFilterGuard$Maps;LFilterGuard$Foretold;)V"⟩
abbrev y_FG_init : MethodName := ⟨R_FG, "<init>", "()V"⟩
abbrev y_Mo_init : MethodName := ⟨R_Mo, "<init>", "()V"⟩
abbrev y_Mo_no : MethodName := ⟨R_Mo, "no", "(I)I"⟩
set_option maxRecDepth 1000000 in
theorem lw_p0 : lw_okq (y_Mo_no, 56) := ⟨⟨by decide +kernel, by decide +kernel⟩, List.mem_of_getElem? (i := 1092) rfl, List.mem_of_getElem? (i := 1275) rfl, List.mem_of_getElem? (i := 1276) rfl⟩
def lw_privs : List (MethodName × Nat) := [(y_Mo_no, 56)]
theorem lw_privs_ok : ∀ q ∈ lw_privs, lw_okq q := by
  intro q hq
  simp only [lw_privs, List.mem_cons, List.not_mem_nil, or_false] at hq
  rcases hq with rfl
  exact lw_p0
def lw_tbl : List Cond := k2_sels lw_privs ++ tables_1
/-- the words that every contract takes along -/
def zz_W1 : List Cond := [.initialized R_Pr, .initialized R_Ma, .initialized R_Me, .initialized R_Fo, .initialized R_Ch, .initialized R_St, .initialized R_Ra, .initialized R_Ru, .initialized "java/lang/Throwable", .initialized "java/lang/Exception", .initialized "java/lang/RuntimeException", .initialized "java/lang/IllegalArgumentException", .initialized "java/lang/IllegalStateException", .initialized "java/lang/IndexOutOfBoundsException", .initialized "java/util/NoSuchElementException", .code y_FG_init prog_1_method_1_code 1 none, .methodLink R_FG 3 (⟨"java/lang/Object", "<init>", "()V"⟩ : MethodName), .instanceMethod (⟨"java/lang/Object", "<init>", "()V"⟩ : MethodName), .code (⟨"java/lang/Object", "<init>", "()V"⟩ : MethodName) object_method_1_code 1 none, .classLink R_FG 9 R_Pr, .instantiable R_Pr 6, .instanceMethod y_Pr_init, .code y_Pr_init prog_7_method_1_code 1 none, .methodLink R_Pr 3 (⟨"java/lang/Object", "<init>", "()V"⟩ : MethodName), .fieldLink R_Pr 9 R_Pr "sort" "[I", .fieldLink R_Pr 15 R_Pr "dst" "[I", .fieldLink R_Pr 18 R_Pr "src" "[I", .fieldLink R_Pr 21 R_Pr "off" "[I", .fieldLink R_Pr 24 R_Pr "imm" "[I", .laysFinal R_Pr R_Pr "sort" "[I", .laysFinal R_Pr R_Pr "dst" "[I", .laysFinal R_Pr R_Pr "src" "[I", .laysFinal R_Pr R_Pr "off" "[I", .laysFinal R_Pr R_Pr "imm" "[I", .lays R_Pr R_Pr "size" "I", .arrayClass .int, .classLink R_FG 16 R_Ma, .instantiable R_Ma 8, .instanceMethod y_Ma_init, .code y_Ma_init prog_5_method_1_code 1 none, .methodLink R_Ma 3 (⟨"java/lang/Object", "<init>", "()V"⟩ : MethodName), .fieldLink R_Ma 9 R_Ma "keyBytes" "[I", .fieldLink R_Ma 15 R_Ma "valueBytes" "[I", .fieldLink R_Ma 18 R_Ma "values" "[B", .fieldLink R_Ma 22 R_Ma "sought" "[B", .fieldLink R_Ma 25 R_Ma "places" "[I", .fieldLink R_Ma 28 R_Ma "taken" "[Z", .fieldLink R_Ma 32 R_Ma "keys" "[B", .laysFinal R_Ma R_Ma "keyBytes" "[I", .laysFinal R_Ma R_Ma "valueBytes" "[I", .laysFinal R_Ma R_Ma "values" "[B", .laysFinal R_Ma R_Ma "sought" "[B", .laysFinal R_Ma R_Ma "places" "[I", .laysFinal R_Ma R_Ma "taken" "[Z", .laysFinal R_Ma R_Ma "keys" "[B", .lays R_Ma R_Ma "size" "I", .arrayClass .byte, .arrayClass .boolean, .classLink R_FG 23 R_Me, .instantiable R_Me 5, .methodLink R_FG 25 y_Me_init, .instanceMethod y_Me_init, .code y_Me_init prog_6_method_1_code 2 none, .methodLink R_Me 3 (⟨"java/lang/Object", "<init>", "()V"⟩ : MethodName), .fieldLink R_Me 18 R_Me "maps" "LFilterGuard$Maps;", .fieldLink R_Me 9 R_Me "packet" "[B", .fieldLink R_Me 15 R_Me "stack" "[B", .laysFinal R_Me R_Me "maps" "LFilterGuard$Maps;", .laysFinal R_Me R_Me "packet" "[B", .laysFinal R_Me R_Me "stack" "[B", .lays R_Me R_Me "packetLength" "I", .lays R_Me R_Me "strays" "I", .classLink R_FG 32 R_Fo, .instantiable R_Fo 4, .instanceMethod y_Fo_init, .code y_Fo_init prog_4_method_1_code 1 none, .methodLink R_Fo 3 (⟨"java/lang/Object", "<init>", "()V"⟩ : MethodName), .fieldLink R_Fo 9 R_Fo "gone" "[I", .fieldLink R_Fo 15 R_Fo "number" "[Z", .fieldLink R_Fo 19 R_Fo "low" "[J", .fieldLink R_Fo 23 R_Fo "high" "[J", .laysFinal R_Fo R_Fo "gone" "[I", .laysFinal R_Fo R_Fo "number" "[Z", .laysFinal R_Fo R_Fo "low" "[J", .laysFinal R_Fo R_Fo "high" "[J", .arrayClass .long, .classLink R_FG 39 R_Ch, .instantiable R_Ch 14, .methodLink R_FG 41 y_Ch_init, .instanceMethod y_Ch_init, .code y_Ch_init prog_3_method_1_code 5 none, .methodLink R_Ch 3 (⟨"java/lang/Object", "<init>", "()V"⟩ : MethodName), .classLink R_Ch 9 R_St, .instantiable R_St 8, .instanceMethod y_St_init, .code y_St_init prog_12_method_1_code 1 none, .methodLink R_St 3 (⟨"java/lang/Object", "<init>", "()V"⟩ : MethodName), .fieldLink R_St 9 R_St "kind" "[I", .fieldLink R_St 15 R_St "map" "[I", .fieldLink R_St 18 R_St "tag" "[I", .fieldLink R_St 21 R_St "low" "[J", .fieldLink R_St 25 R_St "high" "[J", .fieldLink R_St 28 R_St "data" "[I", .laysFinal R_St R_St "kind" "[I", .laysFinal R_St R_St "map" "[I", .laysFinal R_St R_St "tag" "[I", .laysFinal R_St R_St "low" "[J", .laysFinal R_St R_St "high" "[J", .laysFinal R_St R_St "data" "[I", .lays R_St R_St "length" "I", .lays R_St R_St "at" "I", .classLink R_Ch 25 R_Ra, .instantiable R_Ra 2, .instanceMethod y_Ra_init, .code y_Ra_init prog_8_method_1_code 1 none, .methodLink R_Ra 3 (⟨"java/lang/Object", "<init>", "()V"⟩ : MethodName), .lays R_Ra R_Ra "low" "J", .lays R_Ra R_Ra "high" "J", .fieldLink R_Ch 38 R_Ch "program" "LFilterGuard$Program;", .fieldLink R_Ch 42 R_Ch "maps" "LFilterGuard$Maps;", .fieldLink R_Ch 46 R_Ch "foretold" "LFilterGuard$Foretold;", .fieldLink R_Ch 12 R_Ch "now" "LFilterGuard$State;", .fieldLink R_Ch 18 R_Ch "other" "LFilterGuard$State;", .fieldLink R_Ch 21 R_Ch "waiting" "[LFilterGuard$State;", .fieldLink R_Ch 28 R_Ch "x" "LFilterGuard$Range;", .fieldLink R_Ch 32 R_Ch "y" "LFilterGuard$Range;", .fieldLink R_Ch 35 R_Ch "z" "LFilterGuard$Range;", .fieldLink R_Ch 50 R_Ch "faultAt" "I", .laysFinal R_Ch R_Ch "program" "LFilterGuard$Program;", .laysFinal R_Ch R_Ch "maps" "LFilterGuard$Maps;", .laysFinal R_Ch R_Ch "foretold" "LFilterGuard$Foretold;", .laysFinal R_Ch R_Ch "now" "LFilterGuard$State;", .laysFinal R_Ch R_Ch "other" "LFilterGuard$State;", .laysFinal R_Ch R_Ch "waiting" "[LFilterGuard$State;", .laysFinal R_Ch R_Ch "x" "LFilterGuard$Range;", .laysFinal R_Ch R_Ch "y" "LFilterGuard$Range;", .laysFinal R_Ch R_Ch "z" "LFilterGuard$Range;", .lays R_Ch R_Ch "waits" "I", .lays R_Ch R_Ch "tags" "I", .lays R_Ch R_Ch "gone" "I", .lays R_Ch R_Ch "fault" "I", .lays R_Ch R_Ch "faultAt" "I", .classLink R_FG 48 R_Ru, .instantiable R_Ru 12, .methodLink R_FG 50 y_Ru_init, .instanceMethod y_Ru_init, .code y_Ru_init prog_10_method_1_code 4 none, .methodLink R_Ru 3 (⟨"java/lang/Object", "<init>", "()V"⟩ : MethodName), .fieldLink R_Ru 22 R_Ru "program" "LFilterGuard$Program;", .fieldLink R_Ru 26 R_Ru "foretold" "LFilterGuard$Foretold;", .fieldLink R_Ru 30 R_Ru "memory" "LFilterGuard$Memory;", .fieldLink R_Ru 9 R_Ru "register" "[J", .fieldLink R_Ru 15 R_Ru "kind" "[I", .fieldLink R_Ru 19 R_Ru "log" "[J", .laysFinal R_Ru R_Ru "program" "LFilterGuard$Program;", .laysFinal R_Ru R_Ru "foretold" "LFilterGuard$Foretold;", .laysFinal R_Ru R_Ru "memory" "LFilterGuard$Memory;", .laysFinal R_Ru R_Ru "register" "[J", .laysFinal R_Ru R_Ru "kind" "[I", .laysFinal R_Ru R_Ru "log" "[J", .lays R_Ru R_Ru "logged" "I", .lays R_Ru R_Ru "done" "I", .lays R_Ru R_Ru "chance" "J", .lays R_Ru R_Ru "at" "I", .lays R_Ru R_Ru "looks" "I", .lays R_Ru R_Ru "unforetold" "I", .fieldLink R_FG 12 R_FG "program" "LFilterGuard$Program;", .fieldLink R_FG 19 R_FG "maps" "LFilterGuard$Maps;", .fieldLink R_FG 28 R_FG "memory" "LFilterGuard$Memory;", .fieldLink R_FG 35 R_FG "foretold" "LFilterGuard$Foretold;", .fieldLink R_FG 44 R_FG "checker" "LFilterGuard$Checker;", .fieldLink R_FG 53 R_FG "runner" "LFilterGuard$Runner;", .fieldLink R_FG 57 R_FG "passed" "Z", .laysFinal R_FG R_FG "program" "LFilterGuard$Program;", .laysFinal R_FG R_FG "maps" "LFilterGuard$Maps;", .laysFinal R_FG R_FG "memory" "LFilterGuard$Memory;", .laysFinal R_FG R_FG "foretold" "LFilterGuard$Foretold;", .laysFinal R_FG R_FG "checker" "LFilterGuard$Checker;", .laysFinal R_FG R_FG "runner" "LFilterGuard$Runner;", .lays R_FG R_FG "passed" "Z", .classLink R_La 13 "java/lang/IllegalArgumentException", .classLink R_La 15 "java/lang/IllegalStateException", .code y_FG_within prog_1_method_15_code 3 (some .boolean), .classLink R_FG 65 "java/lang/IllegalArgumentException", .instantiable "java/lang/IllegalArgumentException" 6, .selects "java/lang/IllegalArgumentException" (⟨"java/lang/Throwable", "fillInStackTrace", "(I)Ljava/lang/Throwable;"⟩ : MethodName) (⟨"java/lang/Throwable", "fillInStackTrace", "(I)Ljava/lang/Throwable;"⟩ : MethodName), .selects "java/lang/IllegalArgumentException" (⟨"java/lang/Throwable", "fillInStackTrace", "()Ljava/lang/Throwable;"⟩ : MethodName) (⟨"java/lang/Throwable", "fillInStackTrace", "()Ljava/lang/Throwable;"⟩ : MethodName), .lays "java/lang/IllegalArgumentException" "java/lang/Throwable" "cause" "Ljava/lang/Throwable;", .lays "java/lang/Throwable" "java/lang/Throwable" "cause" "Ljava/lang/Throwable;", .lays "java/lang/IllegalArgumentException" "java/lang/Throwable" "stackTrace" "[Ljava/lang/StackTraceElement;", .lays "java/lang/Throwable" "java/lang/Throwable" "stackTrace" "[Ljava/lang/StackTraceElement;", .lays "java/lang/IllegalArgumentException" "java/lang/Throwable" "suppressedExceptions" "Ljava/util/List;", .lays "java/lang/Throwable" "java/lang/Throwable" "suppressedExceptions" "Ljava/util/List;", .lays "java/lang/IllegalArgumentException" "java/lang/Throwable" "detailMessage" "Ljava/lang/String;", .lays "java/lang/Throwable" "java/lang/Throwable" "detailMessage" "Ljava/lang/String;", .lays "java/lang/IllegalArgumentException" "java/lang/Throwable" "backtrace" "Ljava/lang/Object;", .lays "java/lang/Throwable" "java/lang/Throwable" "backtrace" "Ljava/lang/Object;", .fieldLink "java/lang/Throwable" 198 "java/lang/Throwable" "backtrace" "Ljava/lang/Object;", .superclass "java/lang/Throwable" "java/lang/Object", .instanceMethod (⟨"java/lang/Throwable", "<init>", "()V"⟩ : MethodName), .code (⟨"java/lang/Throwable", "<init>", "()V"⟩ : MethodName) prog_26_method_1_code 1 none, .methodLink "java/lang/Throwable" 1 (⟨"java/lang/Object", "<init>", "()V"⟩ : MethodName), .fieldLink "java/lang/Throwable" 13 "java/lang/Throwable" "UNASSIGNED_STACK" "[Ljava/lang/StackTraceElement;", .fieldLink "java/lang/Throwable" 20 "java/lang/Throwable" "SUPPRESSED_SENTINEL" "Ljava/util/List;", .methodLink "java/lang/Throwable" 27 (⟨"java/lang/Throwable", "fillInStackTrace", "()Ljava/lang/Throwable;"⟩ : MethodName), .instanceMethod (⟨"java/lang/Throwable", "fillInStackTrace", "()Ljava/lang/Throwable;"⟩ : MethodName), .selects "java/lang/IllegalStateException" (⟨"java/lang/Throwable", "fillInStackTrace", "()Ljava/lang/Throwable;"⟩ : MethodName) (⟨"java/lang/Throwable", "fillInStackTrace", "()Ljava/lang/Throwable;"⟩ : MethodName), .selects "java/lang/IndexOutOfBoundsException" (⟨"java/lang/Throwable", "fillInStackTrace", "()Ljava/lang/Throwable;"⟩ : MethodName) (⟨"java/lang/Throwable", "fillInStackTrace", "()Ljava/lang/Throwable;"⟩ : MethodName), .selects "java/util/NoSuchElementException" (⟨"java/lang/Throwable", "fillInStackTrace", "()Ljava/lang/Throwable;"⟩ : MethodName) (⟨"java/lang/Throwable", "fillInStackTrace", "()Ljava/lang/Throwable;"⟩ : MethodName), .codeSync (⟨"java/lang/Throwable", "fillInStackTrace", "()Ljava/lang/Throwable;"⟩ : MethodName) prog_26_method_18_code 1 (some (.object "java/lang/Throwable")), .methodLink "java/lang/Throwable" 202 (⟨"java/lang/Throwable", "fillInStackTrace", "(I)Ljava/lang/Throwable;"⟩ : MethodName), .instanceMethod (⟨"java/lang/Throwable", "fillInStackTrace", "(I)Ljava/lang/Throwable;"⟩ : MethodName), .instantiable "java/lang/Throwable" 6, .native (⟨"java/lang/Throwable", "fillInStackTrace", "(I)Ljava/lang/Throwable;"⟩ : MethodName), .methodLink R_FG 69 (⟨"java/lang/IllegalArgumentException", "<init>", "(Ljava/lang/String;)V"⟩ : MethodName), .instanceMethod (⟨"java/lang/IllegalArgumentException", "<init>", "(Ljava/lang/String;)V"⟩ : MethodName), .code (⟨"java/lang/IllegalArgumentException", "<init>", "(Ljava/lang/String;)V"⟩ : MethodName) prog_17_method_2_code 2 none, .methodLink "java/lang/IllegalArgumentException" 7 (⟨"java/lang/RuntimeException", "<init>", "(Ljava/lang/String;)V"⟩ : MethodName), .instanceMethod (⟨"java/lang/RuntimeException", "<init>", "(Ljava/lang/String;)V"⟩ : MethodName), .code (⟨"java/lang/RuntimeException", "<init>", "(Ljava/lang/String;)V"⟩ : MethodName) prog_23_method_2_code 2 none, .methodLink "java/lang/RuntimeException" 7 (⟨"java/lang/Exception", "<init>", "(Ljava/lang/String;)V"⟩ : MethodName), .instanceMethod (⟨"java/lang/Exception", "<init>", "(Ljava/lang/String;)V"⟩ : MethodName), .code (⟨"java/lang/Exception", "<init>", "(Ljava/lang/String;)V"⟩ : MethodName) prog_16_method_2_code 2 none, .methodLink "java/lang/Exception" 7 (⟨"java/lang/Throwable", "<init>", "(Ljava/lang/String;)V"⟩ : MethodName), .instanceMethod (⟨"java/lang/Throwable", "<init>", "(Ljava/lang/String;)V"⟩ : MethodName), .code (⟨"java/lang/Throwable", "<init>", "(Ljava/lang/String;)V"⟩ : MethodName) prog_26_method_2_code 2 none, .fieldLink "java/lang/Throwable" 198 "java/lang/Throwable" "backtrace" "Ljava/lang/Object;", .fieldLink "java/lang/Throwable" 31 "java/lang/Throwable" "detailMessage" "Ljava/lang/String;", .fieldLink "java/lang/Throwable" 7 "java/lang/Throwable" "cause" "Ljava/lang/Throwable;", .fieldLink "java/lang/Throwable" 17 "java/lang/Throwable" "stackTrace" "[Ljava/lang/StackTraceElement;", .fieldLink "java/lang/Throwable" 24 "java/lang/Throwable" "suppressedExceptions" "Ljava/util/List;", .superclass "java/lang/IllegalArgumentException" "java/lang/RuntimeException", .classLink R_FG 76 "java/lang/IllegalStateException", .instantiable "java/lang/IllegalStateException" 6, .selects "java/lang/IllegalStateException" (⟨"java/lang/Throwable", "fillInStackTrace", "(I)Ljava/lang/Throwable;"⟩ : MethodName) (⟨"java/lang/Throwable", "fillInStackTrace", "(I)Ljava/lang/Throwable;"⟩ : MethodName), .lays "java/lang/IllegalStateException" "java/lang/Throwable" "cause" "Ljava/lang/Throwable;", .lays "java/lang/IllegalStateException" "java/lang/Throwable" "stackTrace" "[Ljava/lang/StackTraceElement;", .lays "java/lang/IllegalStateException" "java/lang/Throwable" "suppressedExceptions" "Ljava/util/List;", .lays "java/lang/IllegalStateException" "java/lang/Throwable" "detailMessage" "Ljava/lang/String;", .lays "java/lang/IllegalStateException" "java/lang/Throwable" "backtrace" "Ljava/lang/Object;", .methodLink R_FG 80 (⟨"java/lang/IllegalStateException", "<init>", "(Ljava/lang/String;)V"⟩ : MethodName), .instanceMethod (⟨"java/lang/IllegalStateException", "<init>", "(Ljava/lang/String;)V"⟩ : MethodName), .code (⟨"java/lang/IllegalStateException", "<init>", "(Ljava/lang/String;)V"⟩ : MethodName) prog_18_method_2_code 2 none, .methodLink "java/lang/IllegalStateException" 7 (⟨"java/lang/RuntimeException", "<init>", "(Ljava/lang/String;)V"⟩ : MethodName), .superclass "java/lang/IllegalStateException" "java/lang/RuntimeException", .classLink R_La 28 "java/lang/IndexOutOfBoundsException", .classLink R_FG 105 "java/lang/IndexOutOfBoundsException", .instantiable "java/lang/IndexOutOfBoundsException" 6, .selects "java/lang/IndexOutOfBoundsException" (⟨"java/lang/Throwable", "fillInStackTrace", "(I)Ljava/lang/Throwable;"⟩ : MethodName) (⟨"java/lang/Throwable", "fillInStackTrace", "(I)Ljava/lang/Throwable;"⟩ : MethodName), .lays "java/lang/IndexOutOfBoundsException" "java/lang/Throwable" "cause" "Ljava/lang/Throwable;", .lays "java/lang/IndexOutOfBoundsException" "java/lang/Throwable" "stackTrace" "[Ljava/lang/StackTraceElement;", .lays "java/lang/IndexOutOfBoundsException" "java/lang/Throwable" "suppressedExceptions" "Ljava/util/List;", .lays "java/lang/IndexOutOfBoundsException" "java/lang/Throwable" "detailMessage" "Ljava/lang/String;", .lays "java/lang/IndexOutOfBoundsException" "java/lang/Throwable" "backtrace" "Ljava/lang/Object;", .methodLink R_FG 109 (⟨"java/lang/IndexOutOfBoundsException", "<init>", "(Ljava/lang/String;)V"⟩ : MethodName), .instanceMethod (⟨"java/lang/IndexOutOfBoundsException", "<init>", "(Ljava/lang/String;)V"⟩ : MethodName), .code (⟨"java/lang/IndexOutOfBoundsException", "<init>", "(Ljava/lang/String;)V"⟩ : MethodName) prog_19_method_2_code 2 none, .methodLink "java/lang/IndexOutOfBoundsException" 7 (⟨"java/lang/RuntimeException", "<init>", "(Ljava/lang/String;)V"⟩ : MethodName), .superclass "java/lang/IndexOutOfBoundsException" "java/lang/RuntimeException", .classLink R_La 41 "java/util/NoSuchElementException", .classLink R_FG 126 "java/util/NoSuchElementException", .instantiable "java/util/NoSuchElementException" 6, .selects "java/util/NoSuchElementException" (⟨"java/lang/Throwable", "fillInStackTrace", "(I)Ljava/lang/Throwable;"⟩ : MethodName) (⟨"java/lang/Throwable", "fillInStackTrace", "(I)Ljava/lang/Throwable;"⟩ : MethodName), .lays "java/util/NoSuchElementException" "java/lang/Throwable" "cause" "Ljava/lang/Throwable;", .lays "java/util/NoSuchElementException" "java/lang/Throwable" "stackTrace" "[Ljava/lang/StackTraceElement;", .lays "java/util/NoSuchElementException" "java/lang/Throwable" "suppressedExceptions" "Ljava/util/List;", .lays "java/util/NoSuchElementException" "java/lang/Throwable" "detailMessage" "Ljava/lang/String;", .lays "java/util/NoSuchElementException" "java/lang/Throwable" "backtrace" "Ljava/lang/Object;", .methodLink R_FG 130 (⟨"java/util/NoSuchElementException", "<init>", "(Ljava/lang/String;)V"⟩ : MethodName), .instanceMethod (⟨"java/util/NoSuchElementException", "<init>", "(Ljava/lang/String;)V"⟩ : MethodName), .code (⟨"java/util/NoSuchElementException", "<init>", "(Ljava/lang/String;)V"⟩ : MethodName) prog_28_method_4_code 2 none, .methodLink "java/util/NoSuchElementException" 13 (⟨"java/lang/RuntimeException", "<init>", "(Ljava/lang/String;)V"⟩ : MethodName), .superclass "java/util/NoSuchElementException" "java/lang/RuntimeException", .code y_Mo_init prog_14_method_1_code 1 none, .methodLink R_Mo 5 (⟨"java/lang/Object", "<init>", "()V"⟩ : MethodName), .fieldLink R_Mo 11 R_Mo "sort" "[I", .fieldLink R_Mo 15 R_Mo "dst" "[I", .fieldLink R_Mo 18 R_Mo "src" "[I", .fieldLink R_Mo 21 R_Mo "off" "[I", .fieldLink R_Mo 24 R_Mo "imm" "[I", .fieldLink R_Mo 27 R_Mo "keyBytes" "[I", .fieldLink R_Mo 30 R_Mo "valueBytes" "[I", .fieldLink R_Mo 33 R_Mo "places" "[I", .fieldLink R_Mo 36 R_Mo "faultAt" "I", .fieldLink R_Mo 40 R_Mo "kind" "[I", .fieldLink R_Mo 43 R_Mo "mapOf" "[I", .fieldLink R_Mo 46 R_Mo "tag" "[I", .fieldLink R_Mo 49 R_Mo "low" "[J", .fieldLink R_Mo 53 R_Mo "high" "[J", .fieldLink R_Mo 56 R_Mo "stack" "[I", .fieldLink R_Mo 59 R_Mo "length" "[I", .fieldLink R_Mo 62 R_Mo "goesTo" "[I", .fieldLink R_Mo 65 R_Mo "times" "[I", .fieldLink R_Mo 68 R_Mo "seen" "[I", .fieldLink R_Mo 71 R_Mo "leastLow" "[J", .fieldLink R_Mo 74 R_Mo "mostHigh" "[J", .fieldLink R_Mo 77 R_Mo "packet" "[B", .fieldLink R_Mo 81 R_Mo "data" "[B", .fieldLink R_Mo 84 R_Mo "full" "[Z", .fieldLink R_Mo 88 R_Mo "log" "[J", .fieldLink R_Mo 91 R_Mo "is" "[I", .fieldLink R_Mo 94 R_Mo "ofMap" "[I", .fieldLink R_Mo 97 R_Mo "ofPlace" "[I", .fieldLink R_Mo 100 R_Mo "ofTag" "[I", .fieldLink R_Mo 103 R_Mo "is64" "[J", .fieldLink R_Mo 106 R_Mo "own" "[B", .lays R_Mo R_Mo "thrown" "I", .laysFinal R_Mo R_Mo "sort" "[I", .laysFinal R_Mo R_Mo "dst" "[I", .laysFinal R_Mo R_Mo "src" "[I", .laysFinal R_Mo R_Mo "off" "[I", .laysFinal R_Mo R_Mo "imm" "[I", .lays R_Mo R_Mo "many" "I", .lays R_Mo R_Mo "passed" "Z", .laysFinal R_Mo R_Mo "keyBytes" "[I", .laysFinal R_Mo R_Mo "valueBytes" "[I", .laysFinal R_Mo R_Mo "places" "[I", .lays R_Mo R_Mo "maps" "I", .lays R_Mo R_Mo "fault" "I", .lays R_Mo R_Mo "faultAt" "I", .lays R_Mo R_Mo "gone" "I", .laysFinal R_Mo R_Mo "kind" "[I", .laysFinal R_Mo R_Mo "mapOf" "[I", .laysFinal R_Mo R_Mo "tag" "[I", .laysFinal R_Mo R_Mo "low" "[J", .laysFinal R_Mo R_Mo "high" "[J", .laysFinal R_Mo R_Mo "stack" "[I", .laysFinal R_Mo R_Mo "length" "[I", .laysFinal R_Mo R_Mo "goesTo" "[I", .lays R_Mo R_Mo "sides" "I", .lays R_Mo R_Mo "tags" "I", .laysFinal R_Mo R_Mo "times" "[I", .laysFinal R_Mo R_Mo "seen" "[I", .laysFinal R_Mo R_Mo "leastLow" "[J", .laysFinal R_Mo R_Mo "mostHigh" "[J", .lays R_Mo R_Mo "a" "J", .lays R_Mo R_Mo "b" "J", .lays R_Mo R_Mo "fits" "Z", .lays R_Mo R_Mo "xl" "J", .lays R_Mo R_Mo "xh" "J", .lays R_Mo R_Mo "yl" "J", .lays R_Mo R_Mo "yh" "J", .lays R_Mo R_Mo "next" "Z", .lays R_Mo R_Mo "other" "Z", .lays R_Mo R_Mo "waits" "I", .lays R_Mo R_Mo "to" "I", .laysFinal R_Mo R_Mo "packet" "[B", .lays R_Mo R_Mo "packetEnd" "I", .laysFinal R_Mo R_Mo "data" "[B", .laysFinal R_Mo R_Mo "full" "[Z", .lays R_Mo R_Mo "seed" "J", .laysFinal R_Mo R_Mo "log" "[J", .lays R_Mo R_Mo "logged" "I", .lays R_Mo R_Mo "done" "I", .lays R_Mo R_Mo "wrong" "I", .laysFinal R_Mo R_Mo "is" "[I", .laysFinal R_Mo R_Mo "ofMap" "[I", .laysFinal R_Mo R_Mo "ofPlace" "[I", .laysFinal R_Mo R_Mo "ofTag" "[I", .laysFinal R_Mo R_Mo "is64" "[J", .laysFinal R_Mo R_Mo "own" "[B", .lays R_Mo R_Mo "runTags" "I"]
def zz_W : List Cond := [.selects R_Mo y_Mo_no y_Mo_no] ++ zz_W1
def zz_NT : List Cond := [.methodLinkNest R_FG 11 y_Pr_init R_FG, .methodLinkNest R_FG 18 y_Ma_init R_FG, .methodLinkNest R_FG 34 y_Fo_init R_FG, .methodLinkNest R_Ch 11 y_St_init R_FG, .methodLinkNest R_Ch 27 y_Ra_init R_FG, .castable "java/lang/IllegalArgumentException" "java/lang/IllegalArgumentException", .declares (⟨"java/lang/RuntimeException", "<init>", "(Ljava/lang/String;)V"⟩ : MethodName), .declares (⟨"java/lang/Exception", "<init>", "(Ljava/lang/String;)V"⟩ : MethodName), .declares (⟨"java/lang/Throwable", "<init>", "(Ljava/lang/String;)V"⟩ : MethodName), .castable "java/lang/IllegalStateException" "java/lang/IllegalStateException", .castable "java/lang/IndexOutOfBoundsException" "java/lang/IndexOutOfBoundsException", .castable "java/util/NoSuchElementException" "java/util/NoSuchElementException"]
set_option maxRecDepth 1000000 in
theorem zz_W1_eq : zz_W1 = ([2, 3, 4, 5, 6, 7, 8, 9, 11, 12, 13, 14, 15, 25, 26, 31, 32, 33, 34, 35, 36, 38, 39, 40, 41, 44, 47, 50, 53, 60, 62, 64, 66, 68, 70, 73, 74, 75, 77, 78, 79, 80, 84, 88, 91, 93, 94, 95, 100, 102, 104, 106, 108, 110, 112, 114, 117, 118, 119, 120, 121, 122, 123, 124, 125, 127, 129, 135, 137, 139, 141, 143, 146, 147, 149, 150, 151, 152, 153, 154, 155, 156, 158, 160, 162, 165, 166, 167, 168, 169, 170, 171, 172, 173, 175, 176, 177, 178, 180, 182, 184, 187, 190, 195, 197, 199, 201, 203, 205, 207, 209, 213, 214, 216, 217, 218, 225, 227, 230, 231, 232, 233, 234, 235, 236, 237, 238, 245, 247, 249, 251, 253, 255, 257, 259, 261, 263, 265, 267, 269, 271, 273, 276, 277, 278, 279, 280, 281, 282, 283, 284, 285, 286, 287, 298, 300, 302, 304, 306, 308, 310, 312, 314, 316, 318, 320, 323, 324, 325, 326, 327, 328, 329, 330, 332, 334, 336, 338, 340, 342, 379, 380, 387, 388, 389, 397, 398, 399, 400, 401, 402, 403, 404, 405, 406, 407, 408, 409, 410, 411, 412, 413, 414, 416, 418, 419, 422, 423, 424, 425, 426, 428, 429, 430, 432, 433, 434, 435, 436, 437, 438, 439, 440, 441, 442, 443, 444, 445, 446, 447, 448, 456, 457, 458, 460, 461, 462, 463, 464, 465, 467, 468, 469, 470, 472, 837, 842, 843, 845, 846, 847, 848, 849, 850, 852, 853, 854, 855, 857, 1031, 1036, 1037, 1039, 1040, 1041, 1042, 1043, 1044, 1046, 1047, 1048, 1049, 1051, 1095, 1096, 1098, 1099, 1100, 1101, 1102, 1105, 1106, 1107, 1110, 1112, 1113, 1114, 1115, 1116, 1117, 1118, 1119, 1122, 1123, 1124, 1125, 1137, 1139, 1140, 1142, 1146, 1147, 1148, 1149, 1150, 1151, 1153, 1155, 1157, 1159, 1161, 1163, 1165, 1167, 1169, 1171, 1173, 1175, 1177, 1179, 1181, 1183, 1185, 1187, 1189, 1191, 1193, 1195, 1197, 1199, 1201, 1203, 1205, 1207, 1209, 1211, 1213, 1215, 1217, 1219, 1221, 1223, 1225, 1227, 1229, 1231, 1233, 1235, 1237, 1239, 1241, 1243, 1245, 1247, 1249, 1251, 1253, 1255, 1257, 1259, 1261, 1263] : List Nat).filterMap (fun i => tables_1[i]?) := by rfl
theorem zz_W_in : ∀ w ∈ zz_W, w ∈ lw_tbl := by
  intro w hw
  rcases List.mem_append.mp hw with h | h
  · exact List.mem_append_left _ h
  · rw [zz_W1_eq] at h
    obtain ⟨i, -, hi⟩ := List.mem_filterMap.mp h
    exact List.mem_append_right _ (List.mem_of_getElem? hi)
set_option maxRecDepth 1000000 in
theorem zz_NT_eq : zz_NT = ([37, 76, 148, 174, 215, 390, 392, 394, 396, 459, 844, 1038] : List Nat).filterMap (fun i => tables_1[i]?) := by rfl
theorem zz_NT_in : ∀ w ∈ zz_NT, w ∈ lw_tbl := by
  intro w h
  rw [zz_NT_eq] at h
  obtain ⟨i, -, hi⟩ := List.mem_filterMap.mp h
  exact List.mem_append_right _ (List.mem_of_getElem? hi)
set_option maxRecDepth 1000000 in
theorem zz_W_good : zz_W.all goodWord = true := by decide +kernel
theorem zz_NT_tab : ∀ w ∈ zz_NT, w.onTables = true := by decide +kernel
theorem mw_2 : Cond.initialized R_Pr ∈ zz_W := List.mem_append_right _ (List.mem_of_getElem? (i := 0) rfl)
theorem mw_3 : Cond.initialized R_Ma ∈ zz_W := List.mem_append_right _ (List.mem_of_getElem? (i := 1) rfl)
theorem mw_4 : Cond.initialized R_Me ∈ zz_W := List.mem_append_right _ (List.mem_of_getElem? (i := 2) rfl)
theorem mw_5 : Cond.initialized R_Fo ∈ zz_W := List.mem_append_right _ (List.mem_of_getElem? (i := 3) rfl)
theorem mw_6 : Cond.initialized R_Ch ∈ zz_W := List.mem_append_right _ (List.mem_of_getElem? (i := 4) rfl)
theorem mw_7 : Cond.initialized R_St ∈ zz_W := List.mem_append_right _ (List.mem_of_getElem? (i := 5) rfl)
theorem mw_8 : Cond.initialized R_Ra ∈ zz_W := List.mem_append_right _ (List.mem_of_getElem? (i := 6) rfl)
theorem mw_9 : Cond.initialized R_Ru ∈ zz_W := List.mem_append_right _ (List.mem_of_getElem? (i := 7) rfl)
theorem mw_11 : Cond.initialized "java/lang/Throwable" ∈ zz_W := List.mem_append_right _ (List.mem_of_getElem? (i := 8) rfl)
theorem mw_12 : Cond.initialized "java/lang/Exception" ∈ zz_W := List.mem_append_right _ (List.mem_of_getElem? (i := 9) rfl)
theorem mw_13 : Cond.initialized "java/lang/RuntimeException" ∈ zz_W := List.mem_append_right _ (List.mem_of_getElem? (i := 10) rfl)
theorem mw_14 : Cond.initialized "java/lang/IllegalArgumentException" ∈ zz_W := List.mem_append_right _ (List.mem_of_getElem? (i := 11) rfl)
theorem mw_15 : Cond.initialized "java/lang/IllegalStateException" ∈ zz_W := List.mem_append_right _ (List.mem_of_getElem? (i := 12) rfl)
theorem mw_25 : Cond.initialized "java/lang/IndexOutOfBoundsException" ∈ zz_W := List.mem_append_right _ (List.mem_of_getElem? (i := 13) rfl)
theorem mw_26 : Cond.initialized "java/util/NoSuchElementException" ∈ zz_W := List.mem_append_right _ (List.mem_of_getElem? (i := 14) rfl)
theorem mw_31 : Cond.code y_FG_init prog_1_method_1_code 1 none ∈ zz_W := List.mem_append_right _ (List.mem_of_getElem? (i := 15) rfl)
theorem mw_32 : Cond.methodLink R_FG 3 (⟨"java/lang/Object", "<init>", "()V"⟩ : MethodName) ∈ zz_W := List.mem_append_right _ (List.mem_of_getElem? (i := 16) rfl)
theorem mw_33 : Cond.instanceMethod (⟨"java/lang/Object", "<init>", "()V"⟩ : MethodName) ∈ zz_W := List.mem_append_right _ (List.mem_of_getElem? (i := 17) rfl)
theorem mw_34 : Cond.code (⟨"java/lang/Object", "<init>", "()V"⟩ : MethodName) object_method_1_code 1 none ∈ zz_W := List.mem_append_right _ (List.mem_of_getElem? (i := 18) rfl)
theorem mw_35 : Cond.classLink R_FG 9 R_Pr ∈ zz_W := List.mem_append_right _ (List.mem_of_getElem? (i := 19) rfl)
theorem mw_36 : Cond.instantiable R_Pr 6 ∈ zz_W := List.mem_append_right _ (List.mem_of_getElem? (i := 20) rfl)
theorem mw_38 : Cond.instanceMethod y_Pr_init ∈ zz_W := List.mem_append_right _ (List.mem_of_getElem? (i := 21) rfl)
theorem mw_39 : Cond.code y_Pr_init prog_7_method_1_code 1 none ∈ zz_W := List.mem_append_right _ (List.mem_of_getElem? (i := 22) rfl)
theorem mw_40 : Cond.methodLink R_Pr 3 (⟨"java/lang/Object", "<init>", "()V"⟩ : MethodName) ∈ zz_W := List.mem_append_right _ (List.mem_of_getElem? (i := 23) rfl)
theorem mw_41 : Cond.fieldLink R_Pr 9 R_Pr "sort" "[I" ∈ zz_W := List.mem_append_right _ (List.mem_of_getElem? (i := 24) rfl)
theorem mw_44 : Cond.fieldLink R_Pr 15 R_Pr "dst" "[I" ∈ zz_W := List.mem_append_right _ (List.mem_of_getElem? (i := 25) rfl)
theorem mw_47 : Cond.fieldLink R_Pr 18 R_Pr "src" "[I" ∈ zz_W := List.mem_append_right _ (List.mem_of_getElem? (i := 26) rfl)
theorem mw_50 : Cond.fieldLink R_Pr 21 R_Pr "off" "[I" ∈ zz_W := List.mem_append_right _ (List.mem_of_getElem? (i := 27) rfl)
theorem mw_53 : Cond.fieldLink R_Pr 24 R_Pr "imm" "[I" ∈ zz_W := List.mem_append_right _ (List.mem_of_getElem? (i := 28) rfl)
theorem mw_60 : Cond.laysFinal R_Pr R_Pr "sort" "[I" ∈ zz_W := List.mem_append_right _ (List.mem_of_getElem? (i := 29) rfl)
theorem mw_62 : Cond.laysFinal R_Pr R_Pr "dst" "[I" ∈ zz_W := List.mem_append_right _ (List.mem_of_getElem? (i := 30) rfl)
theorem mw_64 : Cond.laysFinal R_Pr R_Pr "src" "[I" ∈ zz_W := List.mem_append_right _ (List.mem_of_getElem? (i := 31) rfl)
theorem mw_66 : Cond.laysFinal R_Pr R_Pr "off" "[I" ∈ zz_W := List.mem_append_right _ (List.mem_of_getElem? (i := 32) rfl)
theorem mw_68 : Cond.laysFinal R_Pr R_Pr "imm" "[I" ∈ zz_W := List.mem_append_right _ (List.mem_of_getElem? (i := 33) rfl)
theorem mw_70 : Cond.lays R_Pr R_Pr "size" "I" ∈ zz_W := List.mem_append_right _ (List.mem_of_getElem? (i := 34) rfl)
theorem mw_73 : Cond.arrayClass .int ∈ zz_W := List.mem_append_right _ (List.mem_of_getElem? (i := 35) rfl)
theorem mw_74 : Cond.classLink R_FG 16 R_Ma ∈ zz_W := List.mem_append_right _ (List.mem_of_getElem? (i := 36) rfl)
theorem mw_75 : Cond.instantiable R_Ma 8 ∈ zz_W := List.mem_append_right _ (List.mem_of_getElem? (i := 37) rfl)
theorem mw_77 : Cond.instanceMethod y_Ma_init ∈ zz_W := List.mem_append_right _ (List.mem_of_getElem? (i := 38) rfl)
theorem mw_78 : Cond.code y_Ma_init prog_5_method_1_code 1 none ∈ zz_W := List.mem_append_right _ (List.mem_of_getElem? (i := 39) rfl)
theorem mw_79 : Cond.methodLink R_Ma 3 (⟨"java/lang/Object", "<init>", "()V"⟩ : MethodName) ∈ zz_W := List.mem_append_right _ (List.mem_of_getElem? (i := 40) rfl)
theorem mw_80 : Cond.fieldLink R_Ma 9 R_Ma "keyBytes" "[I" ∈ zz_W := List.mem_append_right _ (List.mem_of_getElem? (i := 41) rfl)
theorem mw_84 : Cond.fieldLink R_Ma 15 R_Ma "valueBytes" "[I" ∈ zz_W := List.mem_append_right _ (List.mem_of_getElem? (i := 42) rfl)
theorem mw_88 : Cond.fieldLink R_Ma 18 R_Ma "values" "[B" ∈ zz_W := List.mem_append_right _ (List.mem_of_getElem? (i := 43) rfl)
theorem mw_91 : Cond.fieldLink R_Ma 22 R_Ma "sought" "[B" ∈ zz_W := List.mem_append_right _ (List.mem_of_getElem? (i := 44) rfl)
theorem mw_93 : Cond.fieldLink R_Ma 25 R_Ma "places" "[I" ∈ zz_W := List.mem_append_right _ (List.mem_of_getElem? (i := 45) rfl)
theorem mw_94 : Cond.fieldLink R_Ma 28 R_Ma "taken" "[Z" ∈ zz_W := List.mem_append_right _ (List.mem_of_getElem? (i := 46) rfl)
theorem mw_95 : Cond.fieldLink R_Ma 32 R_Ma "keys" "[B" ∈ zz_W := List.mem_append_right _ (List.mem_of_getElem? (i := 47) rfl)
theorem mw_100 : Cond.laysFinal R_Ma R_Ma "keyBytes" "[I" ∈ zz_W := List.mem_append_right _ (List.mem_of_getElem? (i := 48) rfl)
theorem mw_102 : Cond.laysFinal R_Ma R_Ma "valueBytes" "[I" ∈ zz_W := List.mem_append_right _ (List.mem_of_getElem? (i := 49) rfl)
theorem mw_104 : Cond.laysFinal R_Ma R_Ma "values" "[B" ∈ zz_W := List.mem_append_right _ (List.mem_of_getElem? (i := 50) rfl)
theorem mw_106 : Cond.laysFinal R_Ma R_Ma "sought" "[B" ∈ zz_W := List.mem_append_right _ (List.mem_of_getElem? (i := 51) rfl)
theorem mw_108 : Cond.laysFinal R_Ma R_Ma "places" "[I" ∈ zz_W := List.mem_append_right _ (List.mem_of_getElem? (i := 52) rfl)
theorem mw_110 : Cond.laysFinal R_Ma R_Ma "taken" "[Z" ∈ zz_W := List.mem_append_right _ (List.mem_of_getElem? (i := 53) rfl)
theorem mw_112 : Cond.laysFinal R_Ma R_Ma "keys" "[B" ∈ zz_W := List.mem_append_right _ (List.mem_of_getElem? (i := 54) rfl)
theorem mw_114 : Cond.lays R_Ma R_Ma "size" "I" ∈ zz_W := List.mem_append_right _ (List.mem_of_getElem? (i := 55) rfl)
theorem mw_117 : Cond.arrayClass .byte ∈ zz_W := List.mem_append_right _ (List.mem_of_getElem? (i := 56) rfl)
theorem mw_118 : Cond.arrayClass .boolean ∈ zz_W := List.mem_append_right _ (List.mem_of_getElem? (i := 57) rfl)
theorem mw_119 : Cond.classLink R_FG 23 R_Me ∈ zz_W := List.mem_append_right _ (List.mem_of_getElem? (i := 58) rfl)
theorem mw_120 : Cond.instantiable R_Me 5 ∈ zz_W := List.mem_append_right _ (List.mem_of_getElem? (i := 59) rfl)
theorem mw_121 : Cond.methodLink R_FG 25 y_Me_init ∈ zz_W := List.mem_append_right _ (List.mem_of_getElem? (i := 60) rfl)
theorem mw_122 : Cond.instanceMethod y_Me_init ∈ zz_W := List.mem_append_right _ (List.mem_of_getElem? (i := 61) rfl)
theorem mw_123 : Cond.code y_Me_init prog_6_method_1_code 2 none ∈ zz_W := List.mem_append_right _ (List.mem_of_getElem? (i := 62) rfl)
theorem mw_124 : Cond.methodLink R_Me 3 (⟨"java/lang/Object", "<init>", "()V"⟩ : MethodName) ∈ zz_W := List.mem_append_right _ (List.mem_of_getElem? (i := 63) rfl)
theorem mw_125 : Cond.fieldLink R_Me 18 R_Me "maps" "LFilterGuard$Maps;" ∈ zz_W := List.mem_append_right _ (List.mem_of_getElem? (i := 64) rfl)
theorem mw_127 : Cond.fieldLink R_Me 9 R_Me "packet" "[B" ∈ zz_W := List.mem_append_right _ (List.mem_of_getElem? (i := 65) rfl)
theorem mw_129 : Cond.fieldLink R_Me 15 R_Me "stack" "[B" ∈ zz_W := List.mem_append_right _ (List.mem_of_getElem? (i := 66) rfl)
theorem mw_135 : Cond.laysFinal R_Me R_Me "maps" "LFilterGuard$Maps;" ∈ zz_W := List.mem_append_right _ (List.mem_of_getElem? (i := 67) rfl)
theorem mw_137 : Cond.laysFinal R_Me R_Me "packet" "[B" ∈ zz_W := List.mem_append_right _ (List.mem_of_getElem? (i := 68) rfl)
theorem mw_139 : Cond.laysFinal R_Me R_Me "stack" "[B" ∈ zz_W := List.mem_append_right _ (List.mem_of_getElem? (i := 69) rfl)
theorem mw_141 : Cond.lays R_Me R_Me "packetLength" "I" ∈ zz_W := List.mem_append_right _ (List.mem_of_getElem? (i := 70) rfl)
theorem mw_143 : Cond.lays R_Me R_Me "strays" "I" ∈ zz_W := List.mem_append_right _ (List.mem_of_getElem? (i := 71) rfl)
theorem mw_146 : Cond.classLink R_FG 32 R_Fo ∈ zz_W := List.mem_append_right _ (List.mem_of_getElem? (i := 72) rfl)
theorem mw_147 : Cond.instantiable R_Fo 4 ∈ zz_W := List.mem_append_right _ (List.mem_of_getElem? (i := 73) rfl)
theorem mw_149 : Cond.instanceMethod y_Fo_init ∈ zz_W := List.mem_append_right _ (List.mem_of_getElem? (i := 74) rfl)
theorem mw_150 : Cond.code y_Fo_init prog_4_method_1_code 1 none ∈ zz_W := List.mem_append_right _ (List.mem_of_getElem? (i := 75) rfl)
theorem mw_151 : Cond.methodLink R_Fo 3 (⟨"java/lang/Object", "<init>", "()V"⟩ : MethodName) ∈ zz_W := List.mem_append_right _ (List.mem_of_getElem? (i := 76) rfl)
theorem mw_152 : Cond.fieldLink R_Fo 9 R_Fo "gone" "[I" ∈ zz_W := List.mem_append_right _ (List.mem_of_getElem? (i := 77) rfl)
theorem mw_153 : Cond.fieldLink R_Fo 15 R_Fo "number" "[Z" ∈ zz_W := List.mem_append_right _ (List.mem_of_getElem? (i := 78) rfl)
theorem mw_154 : Cond.fieldLink R_Fo 19 R_Fo "low" "[J" ∈ zz_W := List.mem_append_right _ (List.mem_of_getElem? (i := 79) rfl)
theorem mw_155 : Cond.fieldLink R_Fo 23 R_Fo "high" "[J" ∈ zz_W := List.mem_append_right _ (List.mem_of_getElem? (i := 80) rfl)
theorem mw_156 : Cond.laysFinal R_Fo R_Fo "gone" "[I" ∈ zz_W := List.mem_append_right _ (List.mem_of_getElem? (i := 81) rfl)
theorem mw_158 : Cond.laysFinal R_Fo R_Fo "number" "[Z" ∈ zz_W := List.mem_append_right _ (List.mem_of_getElem? (i := 82) rfl)
theorem mw_160 : Cond.laysFinal R_Fo R_Fo "low" "[J" ∈ zz_W := List.mem_append_right _ (List.mem_of_getElem? (i := 83) rfl)
theorem mw_162 : Cond.laysFinal R_Fo R_Fo "high" "[J" ∈ zz_W := List.mem_append_right _ (List.mem_of_getElem? (i := 84) rfl)
theorem mw_165 : Cond.arrayClass .long ∈ zz_W := List.mem_append_right _ (List.mem_of_getElem? (i := 85) rfl)
theorem mw_166 : Cond.classLink R_FG 39 R_Ch ∈ zz_W := List.mem_append_right _ (List.mem_of_getElem? (i := 86) rfl)
theorem mw_167 : Cond.instantiable R_Ch 14 ∈ zz_W := List.mem_append_right _ (List.mem_of_getElem? (i := 87) rfl)
theorem mw_168 : Cond.methodLink R_FG 41 y_Ch_init ∈ zz_W := List.mem_append_right _ (List.mem_of_getElem? (i := 88) rfl)
theorem mw_169 : Cond.instanceMethod y_Ch_init ∈ zz_W := List.mem_append_right _ (List.mem_of_getElem? (i := 89) rfl)
theorem mw_170 : Cond.code y_Ch_init prog_3_method_1_code 5 none ∈ zz_W := List.mem_append_right _ (List.mem_of_getElem? (i := 90) rfl)
theorem mw_171 : Cond.methodLink R_Ch 3 (⟨"java/lang/Object", "<init>", "()V"⟩ : MethodName) ∈ zz_W := List.mem_append_right _ (List.mem_of_getElem? (i := 91) rfl)
theorem mw_172 : Cond.classLink R_Ch 9 R_St ∈ zz_W := List.mem_append_right _ (List.mem_of_getElem? (i := 92) rfl)
theorem mw_173 : Cond.instantiable R_St 8 ∈ zz_W := List.mem_append_right _ (List.mem_of_getElem? (i := 93) rfl)
theorem mw_175 : Cond.instanceMethod y_St_init ∈ zz_W := List.mem_append_right _ (List.mem_of_getElem? (i := 94) rfl)
theorem mw_176 : Cond.code y_St_init prog_12_method_1_code 1 none ∈ zz_W := List.mem_append_right _ (List.mem_of_getElem? (i := 95) rfl)
theorem mw_177 : Cond.methodLink R_St 3 (⟨"java/lang/Object", "<init>", "()V"⟩ : MethodName) ∈ zz_W := List.mem_append_right _ (List.mem_of_getElem? (i := 96) rfl)
theorem mw_178 : Cond.fieldLink R_St 9 R_St "kind" "[I" ∈ zz_W := List.mem_append_right _ (List.mem_of_getElem? (i := 97) rfl)
theorem mw_180 : Cond.fieldLink R_St 15 R_St "map" "[I" ∈ zz_W := List.mem_append_right _ (List.mem_of_getElem? (i := 98) rfl)
theorem mw_182 : Cond.fieldLink R_St 18 R_St "tag" "[I" ∈ zz_W := List.mem_append_right _ (List.mem_of_getElem? (i := 99) rfl)
theorem mw_184 : Cond.fieldLink R_St 21 R_St "low" "[J" ∈ zz_W := List.mem_append_right _ (List.mem_of_getElem? (i := 100) rfl)
theorem mw_187 : Cond.fieldLink R_St 25 R_St "high" "[J" ∈ zz_W := List.mem_append_right _ (List.mem_of_getElem? (i := 101) rfl)
theorem mw_190 : Cond.fieldLink R_St 28 R_St "data" "[I" ∈ zz_W := List.mem_append_right _ (List.mem_of_getElem? (i := 102) rfl)
theorem mw_195 : Cond.laysFinal R_St R_St "kind" "[I" ∈ zz_W := List.mem_append_right _ (List.mem_of_getElem? (i := 103) rfl)
theorem mw_197 : Cond.laysFinal R_St R_St "map" "[I" ∈ zz_W := List.mem_append_right _ (List.mem_of_getElem? (i := 104) rfl)
theorem mw_199 : Cond.laysFinal R_St R_St "tag" "[I" ∈ zz_W := List.mem_append_right _ (List.mem_of_getElem? (i := 105) rfl)
theorem mw_201 : Cond.laysFinal R_St R_St "low" "[J" ∈ zz_W := List.mem_append_right _ (List.mem_of_getElem? (i := 106) rfl)
theorem mw_203 : Cond.laysFinal R_St R_St "high" "[J" ∈ zz_W := List.mem_append_right _ (List.mem_of_getElem? (i := 107) rfl)
theorem mw_205 : Cond.laysFinal R_St R_St "data" "[I" ∈ zz_W := List.mem_append_right _ (List.mem_of_getElem? (i := 108) rfl)
theorem mw_207 : Cond.lays R_St R_St "length" "I" ∈ zz_W := List.mem_append_right _ (List.mem_of_getElem? (i := 109) rfl)
theorem mw_209 : Cond.lays R_St R_St "at" "I" ∈ zz_W := List.mem_append_right _ (List.mem_of_getElem? (i := 110) rfl)
theorem mw_213 : Cond.classLink R_Ch 25 R_Ra ∈ zz_W := List.mem_append_right _ (List.mem_of_getElem? (i := 111) rfl)
theorem mw_214 : Cond.instantiable R_Ra 2 ∈ zz_W := List.mem_append_right _ (List.mem_of_getElem? (i := 112) rfl)
theorem mw_216 : Cond.instanceMethod y_Ra_init ∈ zz_W := List.mem_append_right _ (List.mem_of_getElem? (i := 113) rfl)
theorem mw_217 : Cond.code y_Ra_init prog_8_method_1_code 1 none ∈ zz_W := List.mem_append_right _ (List.mem_of_getElem? (i := 114) rfl)
theorem mw_218 : Cond.methodLink R_Ra 3 (⟨"java/lang/Object", "<init>", "()V"⟩ : MethodName) ∈ zz_W := List.mem_append_right _ (List.mem_of_getElem? (i := 115) rfl)
theorem mw_225 : Cond.lays R_Ra R_Ra "low" "J" ∈ zz_W := List.mem_append_right _ (List.mem_of_getElem? (i := 116) rfl)
theorem mw_227 : Cond.lays R_Ra R_Ra "high" "J" ∈ zz_W := List.mem_append_right _ (List.mem_of_getElem? (i := 117) rfl)
theorem mw_230 : Cond.fieldLink R_Ch 38 R_Ch "program" "LFilterGuard$Program;" ∈ zz_W := List.mem_append_right _ (List.mem_of_getElem? (i := 118) rfl)
theorem mw_231 : Cond.fieldLink R_Ch 42 R_Ch "maps" "LFilterGuard$Maps;" ∈ zz_W := List.mem_append_right _ (List.mem_of_getElem? (i := 119) rfl)
theorem mw_232 : Cond.fieldLink R_Ch 46 R_Ch "foretold" "LFilterGuard$Foretold;" ∈ zz_W := List.mem_append_right _ (List.mem_of_getElem? (i := 120) rfl)
theorem mw_233 : Cond.fieldLink R_Ch 12 R_Ch "now" "LFilterGuard$State;" ∈ zz_W := List.mem_append_right _ (List.mem_of_getElem? (i := 121) rfl)
theorem mw_234 : Cond.fieldLink R_Ch 18 R_Ch "other" "LFilterGuard$State;" ∈ zz_W := List.mem_append_right _ (List.mem_of_getElem? (i := 122) rfl)
theorem mw_235 : Cond.fieldLink R_Ch 21 R_Ch "waiting" "[LFilterGuard$State;" ∈ zz_W := List.mem_append_right _ (List.mem_of_getElem? (i := 123) rfl)
theorem mw_236 : Cond.fieldLink R_Ch 28 R_Ch "x" "LFilterGuard$Range;" ∈ zz_W := List.mem_append_right _ (List.mem_of_getElem? (i := 124) rfl)
theorem mw_237 : Cond.fieldLink R_Ch 32 R_Ch "y" "LFilterGuard$Range;" ∈ zz_W := List.mem_append_right _ (List.mem_of_getElem? (i := 125) rfl)
theorem mw_238 : Cond.fieldLink R_Ch 35 R_Ch "z" "LFilterGuard$Range;" ∈ zz_W := List.mem_append_right _ (List.mem_of_getElem? (i := 126) rfl)
theorem mw_245 : Cond.fieldLink R_Ch 50 R_Ch "faultAt" "I" ∈ zz_W := List.mem_append_right _ (List.mem_of_getElem? (i := 127) rfl)
theorem mw_247 : Cond.laysFinal R_Ch R_Ch "program" "LFilterGuard$Program;" ∈ zz_W := List.mem_append_right _ (List.mem_of_getElem? (i := 128) rfl)
theorem mw_249 : Cond.laysFinal R_Ch R_Ch "maps" "LFilterGuard$Maps;" ∈ zz_W := List.mem_append_right _ (List.mem_of_getElem? (i := 129) rfl)
theorem mw_251 : Cond.laysFinal R_Ch R_Ch "foretold" "LFilterGuard$Foretold;" ∈ zz_W := List.mem_append_right _ (List.mem_of_getElem? (i := 130) rfl)
theorem mw_253 : Cond.laysFinal R_Ch R_Ch "now" "LFilterGuard$State;" ∈ zz_W := List.mem_append_right _ (List.mem_of_getElem? (i := 131) rfl)
theorem mw_255 : Cond.laysFinal R_Ch R_Ch "other" "LFilterGuard$State;" ∈ zz_W := List.mem_append_right _ (List.mem_of_getElem? (i := 132) rfl)
theorem mw_257 : Cond.laysFinal R_Ch R_Ch "waiting" "[LFilterGuard$State;" ∈ zz_W := List.mem_append_right _ (List.mem_of_getElem? (i := 133) rfl)
theorem mw_259 : Cond.laysFinal R_Ch R_Ch "x" "LFilterGuard$Range;" ∈ zz_W := List.mem_append_right _ (List.mem_of_getElem? (i := 134) rfl)
theorem mw_261 : Cond.laysFinal R_Ch R_Ch "y" "LFilterGuard$Range;" ∈ zz_W := List.mem_append_right _ (List.mem_of_getElem? (i := 135) rfl)
theorem mw_263 : Cond.laysFinal R_Ch R_Ch "z" "LFilterGuard$Range;" ∈ zz_W := List.mem_append_right _ (List.mem_of_getElem? (i := 136) rfl)
theorem mw_265 : Cond.lays R_Ch R_Ch "waits" "I" ∈ zz_W := List.mem_append_right _ (List.mem_of_getElem? (i := 137) rfl)
theorem mw_267 : Cond.lays R_Ch R_Ch "tags" "I" ∈ zz_W := List.mem_append_right _ (List.mem_of_getElem? (i := 138) rfl)
theorem mw_269 : Cond.lays R_Ch R_Ch "gone" "I" ∈ zz_W := List.mem_append_right _ (List.mem_of_getElem? (i := 139) rfl)
theorem mw_271 : Cond.lays R_Ch R_Ch "fault" "I" ∈ zz_W := List.mem_append_right _ (List.mem_of_getElem? (i := 140) rfl)
theorem mw_273 : Cond.lays R_Ch R_Ch "faultAt" "I" ∈ zz_W := List.mem_append_right _ (List.mem_of_getElem? (i := 141) rfl)
theorem mw_276 : Cond.classLink R_FG 48 R_Ru ∈ zz_W := List.mem_append_right _ (List.mem_of_getElem? (i := 142) rfl)
theorem mw_277 : Cond.instantiable R_Ru 12 ∈ zz_W := List.mem_append_right _ (List.mem_of_getElem? (i := 143) rfl)
theorem mw_278 : Cond.methodLink R_FG 50 y_Ru_init ∈ zz_W := List.mem_append_right _ (List.mem_of_getElem? (i := 144) rfl)
theorem mw_279 : Cond.instanceMethod y_Ru_init ∈ zz_W := List.mem_append_right _ (List.mem_of_getElem? (i := 145) rfl)
theorem mw_280 : Cond.code y_Ru_init prog_10_method_1_code 4 none ∈ zz_W := List.mem_append_right _ (List.mem_of_getElem? (i := 146) rfl)
theorem mw_281 : Cond.methodLink R_Ru 3 (⟨"java/lang/Object", "<init>", "()V"⟩ : MethodName) ∈ zz_W := List.mem_append_right _ (List.mem_of_getElem? (i := 147) rfl)
theorem mw_282 : Cond.fieldLink R_Ru 22 R_Ru "program" "LFilterGuard$Program;" ∈ zz_W := List.mem_append_right _ (List.mem_of_getElem? (i := 148) rfl)
theorem mw_283 : Cond.fieldLink R_Ru 26 R_Ru "foretold" "LFilterGuard$Foretold;" ∈ zz_W := List.mem_append_right _ (List.mem_of_getElem? (i := 149) rfl)
theorem mw_284 : Cond.fieldLink R_Ru 30 R_Ru "memory" "LFilterGuard$Memory;" ∈ zz_W := List.mem_append_right _ (List.mem_of_getElem? (i := 150) rfl)
theorem mw_285 : Cond.fieldLink R_Ru 9 R_Ru "register" "[J" ∈ zz_W := List.mem_append_right _ (List.mem_of_getElem? (i := 151) rfl)
theorem mw_286 : Cond.fieldLink R_Ru 15 R_Ru "kind" "[I" ∈ zz_W := List.mem_append_right _ (List.mem_of_getElem? (i := 152) rfl)
theorem mw_287 : Cond.fieldLink R_Ru 19 R_Ru "log" "[J" ∈ zz_W := List.mem_append_right _ (List.mem_of_getElem? (i := 153) rfl)
theorem mw_298 : Cond.laysFinal R_Ru R_Ru "program" "LFilterGuard$Program;" ∈ zz_W := List.mem_append_right _ (List.mem_of_getElem? (i := 154) rfl)
theorem mw_300 : Cond.laysFinal R_Ru R_Ru "foretold" "LFilterGuard$Foretold;" ∈ zz_W := List.mem_append_right _ (List.mem_of_getElem? (i := 155) rfl)
theorem mw_302 : Cond.laysFinal R_Ru R_Ru "memory" "LFilterGuard$Memory;" ∈ zz_W := List.mem_append_right _ (List.mem_of_getElem? (i := 156) rfl)
theorem mw_304 : Cond.laysFinal R_Ru R_Ru "register" "[J" ∈ zz_W := List.mem_append_right _ (List.mem_of_getElem? (i := 157) rfl)
theorem mw_306 : Cond.laysFinal R_Ru R_Ru "kind" "[I" ∈ zz_W := List.mem_append_right _ (List.mem_of_getElem? (i := 158) rfl)
theorem mw_308 : Cond.laysFinal R_Ru R_Ru "log" "[J" ∈ zz_W := List.mem_append_right _ (List.mem_of_getElem? (i := 159) rfl)
theorem mw_310 : Cond.lays R_Ru R_Ru "logged" "I" ∈ zz_W := List.mem_append_right _ (List.mem_of_getElem? (i := 160) rfl)
theorem mw_312 : Cond.lays R_Ru R_Ru "done" "I" ∈ zz_W := List.mem_append_right _ (List.mem_of_getElem? (i := 161) rfl)
theorem mw_314 : Cond.lays R_Ru R_Ru "chance" "J" ∈ zz_W := List.mem_append_right _ (List.mem_of_getElem? (i := 162) rfl)
theorem mw_316 : Cond.lays R_Ru R_Ru "at" "I" ∈ zz_W := List.mem_append_right _ (List.mem_of_getElem? (i := 163) rfl)
theorem mw_318 : Cond.lays R_Ru R_Ru "looks" "I" ∈ zz_W := List.mem_append_right _ (List.mem_of_getElem? (i := 164) rfl)
theorem mw_320 : Cond.lays R_Ru R_Ru "unforetold" "I" ∈ zz_W := List.mem_append_right _ (List.mem_of_getElem? (i := 165) rfl)
theorem mw_323 : Cond.fieldLink R_FG 12 R_FG "program" "LFilterGuard$Program;" ∈ zz_W := List.mem_append_right _ (List.mem_of_getElem? (i := 166) rfl)
theorem mw_324 : Cond.fieldLink R_FG 19 R_FG "maps" "LFilterGuard$Maps;" ∈ zz_W := List.mem_append_right _ (List.mem_of_getElem? (i := 167) rfl)
theorem mw_325 : Cond.fieldLink R_FG 28 R_FG "memory" "LFilterGuard$Memory;" ∈ zz_W := List.mem_append_right _ (List.mem_of_getElem? (i := 168) rfl)
theorem mw_326 : Cond.fieldLink R_FG 35 R_FG "foretold" "LFilterGuard$Foretold;" ∈ zz_W := List.mem_append_right _ (List.mem_of_getElem? (i := 169) rfl)
theorem mw_327 : Cond.fieldLink R_FG 44 R_FG "checker" "LFilterGuard$Checker;" ∈ zz_W := List.mem_append_right _ (List.mem_of_getElem? (i := 170) rfl)
theorem mw_328 : Cond.fieldLink R_FG 53 R_FG "runner" "LFilterGuard$Runner;" ∈ zz_W := List.mem_append_right _ (List.mem_of_getElem? (i := 171) rfl)
theorem mw_329 : Cond.fieldLink R_FG 57 R_FG "passed" "Z" ∈ zz_W := List.mem_append_right _ (List.mem_of_getElem? (i := 172) rfl)
theorem mw_330 : Cond.laysFinal R_FG R_FG "program" "LFilterGuard$Program;" ∈ zz_W := List.mem_append_right _ (List.mem_of_getElem? (i := 173) rfl)
theorem mw_332 : Cond.laysFinal R_FG R_FG "maps" "LFilterGuard$Maps;" ∈ zz_W := List.mem_append_right _ (List.mem_of_getElem? (i := 174) rfl)
theorem mw_334 : Cond.laysFinal R_FG R_FG "memory" "LFilterGuard$Memory;" ∈ zz_W := List.mem_append_right _ (List.mem_of_getElem? (i := 175) rfl)
theorem mw_336 : Cond.laysFinal R_FG R_FG "foretold" "LFilterGuard$Foretold;" ∈ zz_W := List.mem_append_right _ (List.mem_of_getElem? (i := 176) rfl)
theorem mw_338 : Cond.laysFinal R_FG R_FG "checker" "LFilterGuard$Checker;" ∈ zz_W := List.mem_append_right _ (List.mem_of_getElem? (i := 177) rfl)
theorem mw_340 : Cond.laysFinal R_FG R_FG "runner" "LFilterGuard$Runner;" ∈ zz_W := List.mem_append_right _ (List.mem_of_getElem? (i := 178) rfl)
theorem mw_342 : Cond.lays R_FG R_FG "passed" "Z" ∈ zz_W := List.mem_append_right _ (List.mem_of_getElem? (i := 179) rfl)
theorem mw_379 : Cond.classLink R_La 13 "java/lang/IllegalArgumentException" ∈ zz_W := List.mem_append_right _ (List.mem_of_getElem? (i := 180) rfl)
theorem mw_380 : Cond.classLink R_La 15 "java/lang/IllegalStateException" ∈ zz_W := List.mem_append_right _ (List.mem_of_getElem? (i := 181) rfl)
theorem mw_387 : Cond.code y_FG_within prog_1_method_15_code 3 (some .boolean) ∈ zz_W := List.mem_append_right _ (List.mem_of_getElem? (i := 182) rfl)
theorem mw_388 : Cond.classLink R_FG 65 "java/lang/IllegalArgumentException" ∈ zz_W := List.mem_append_right _ (List.mem_of_getElem? (i := 183) rfl)
theorem mw_389 : Cond.instantiable "java/lang/IllegalArgumentException" 6 ∈ zz_W := List.mem_append_right _ (List.mem_of_getElem? (i := 184) rfl)
theorem mw_397 : Cond.selects "java/lang/IllegalArgumentException" (⟨"java/lang/Throwable", "fillInStackTrace", "(I)Ljava/lang/Throwable;"⟩ : MethodName) (⟨"java/lang/Throwable", "fillInStackTrace", "(I)Ljava/lang/Throwable;"⟩ : MethodName) ∈ zz_W := List.mem_append_right _ (List.mem_of_getElem? (i := 185) rfl)
theorem mw_398 : Cond.selects "java/lang/IllegalArgumentException" (⟨"java/lang/Throwable", "fillInStackTrace", "()Ljava/lang/Throwable;"⟩ : MethodName) (⟨"java/lang/Throwable", "fillInStackTrace", "()Ljava/lang/Throwable;"⟩ : MethodName) ∈ zz_W := List.mem_append_right _ (List.mem_of_getElem? (i := 186) rfl)
theorem mw_399 : Cond.lays "java/lang/IllegalArgumentException" "java/lang/Throwable" "cause" "Ljava/lang/Throwable;" ∈ zz_W := List.mem_append_right _ (List.mem_of_getElem? (i := 187) rfl)
theorem mw_400 : Cond.lays "java/lang/Throwable" "java/lang/Throwable" "cause" "Ljava/lang/Throwable;" ∈ zz_W := List.mem_append_right _ (List.mem_of_getElem? (i := 188) rfl)
theorem mw_401 : Cond.lays "java/lang/IllegalArgumentException" "java/lang/Throwable" "stackTrace" "[Ljava/lang/StackTraceElement;" ∈ zz_W := List.mem_append_right _ (List.mem_of_getElem? (i := 189) rfl)
theorem mw_402 : Cond.lays "java/lang/Throwable" "java/lang/Throwable" "stackTrace" "[Ljava/lang/StackTraceElement;" ∈ zz_W := List.mem_append_right _ (List.mem_of_getElem? (i := 190) rfl)
theorem mw_403 : Cond.lays "java/lang/IllegalArgumentException" "java/lang/Throwable" "suppressedExceptions" "Ljava/util/List;" ∈ zz_W := List.mem_append_right _ (List.mem_of_getElem? (i := 191) rfl)
theorem mw_404 : Cond.lays "java/lang/Throwable" "java/lang/Throwable" "suppressedExceptions" "Ljava/util/List;" ∈ zz_W := List.mem_append_right _ (List.mem_of_getElem? (i := 192) rfl)
theorem mw_405 : Cond.lays "java/lang/IllegalArgumentException" "java/lang/Throwable" "detailMessage" "Ljava/lang/String;" ∈ zz_W := List.mem_append_right _ (List.mem_of_getElem? (i := 193) rfl)
theorem mw_406 : Cond.lays "java/lang/Throwable" "java/lang/Throwable" "detailMessage" "Ljava/lang/String;" ∈ zz_W := List.mem_append_right _ (List.mem_of_getElem? (i := 194) rfl)
theorem mw_407 : Cond.lays "java/lang/IllegalArgumentException" "java/lang/Throwable" "backtrace" "Ljava/lang/Object;" ∈ zz_W := List.mem_append_right _ (List.mem_of_getElem? (i := 195) rfl)
theorem mw_408 : Cond.lays "java/lang/Throwable" "java/lang/Throwable" "backtrace" "Ljava/lang/Object;" ∈ zz_W := List.mem_append_right _ (List.mem_of_getElem? (i := 196) rfl)
theorem mw_409 : Cond.fieldLink "java/lang/Throwable" 198 "java/lang/Throwable" "backtrace" "Ljava/lang/Object;" ∈ zz_W := List.mem_append_right _ (List.mem_of_getElem? (i := 197) rfl)
theorem mw_410 : Cond.superclass "java/lang/Throwable" "java/lang/Object" ∈ zz_W := List.mem_append_right _ (List.mem_of_getElem? (i := 198) rfl)
theorem mw_411 : Cond.instanceMethod (⟨"java/lang/Throwable", "<init>", "()V"⟩ : MethodName) ∈ zz_W := List.mem_append_right _ (List.mem_of_getElem? (i := 199) rfl)
theorem mw_412 : Cond.code (⟨"java/lang/Throwable", "<init>", "()V"⟩ : MethodName) prog_26_method_1_code 1 none ∈ zz_W := List.mem_append_right _ (List.mem_of_getElem? (i := 200) rfl)
theorem mw_413 : Cond.methodLink "java/lang/Throwable" 1 (⟨"java/lang/Object", "<init>", "()V"⟩ : MethodName) ∈ zz_W := List.mem_append_right _ (List.mem_of_getElem? (i := 201) rfl)
theorem mw_414 : Cond.fieldLink "java/lang/Throwable" 13 "java/lang/Throwable" "UNASSIGNED_STACK" "[Ljava/lang/StackTraceElement;" ∈ zz_W := List.mem_append_right _ (List.mem_of_getElem? (i := 202) rfl)
theorem mw_416 : Cond.fieldLink "java/lang/Throwable" 20 "java/lang/Throwable" "SUPPRESSED_SENTINEL" "Ljava/util/List;" ∈ zz_W := List.mem_append_right _ (List.mem_of_getElem? (i := 203) rfl)
theorem mw_418 : Cond.methodLink "java/lang/Throwable" 27 (⟨"java/lang/Throwable", "fillInStackTrace", "()Ljava/lang/Throwable;"⟩ : MethodName) ∈ zz_W := List.mem_append_right _ (List.mem_of_getElem? (i := 204) rfl)
theorem mw_419 : Cond.instanceMethod (⟨"java/lang/Throwable", "fillInStackTrace", "()Ljava/lang/Throwable;"⟩ : MethodName) ∈ zz_W := List.mem_append_right _ (List.mem_of_getElem? (i := 205) rfl)
theorem mw_422 : Cond.selects "java/lang/IllegalStateException" (⟨"java/lang/Throwable", "fillInStackTrace", "()Ljava/lang/Throwable;"⟩ : MethodName) (⟨"java/lang/Throwable", "fillInStackTrace", "()Ljava/lang/Throwable;"⟩ : MethodName) ∈ zz_W := List.mem_append_right _ (List.mem_of_getElem? (i := 206) rfl)
theorem mw_423 : Cond.selects "java/lang/IndexOutOfBoundsException" (⟨"java/lang/Throwable", "fillInStackTrace", "()Ljava/lang/Throwable;"⟩ : MethodName) (⟨"java/lang/Throwable", "fillInStackTrace", "()Ljava/lang/Throwable;"⟩ : MethodName) ∈ zz_W := List.mem_append_right _ (List.mem_of_getElem? (i := 207) rfl)
theorem mw_424 : Cond.selects "java/util/NoSuchElementException" (⟨"java/lang/Throwable", "fillInStackTrace", "()Ljava/lang/Throwable;"⟩ : MethodName) (⟨"java/lang/Throwable", "fillInStackTrace", "()Ljava/lang/Throwable;"⟩ : MethodName) ∈ zz_W := List.mem_append_right _ (List.mem_of_getElem? (i := 208) rfl)
theorem mw_425 : Cond.codeSync (⟨"java/lang/Throwable", "fillInStackTrace", "()Ljava/lang/Throwable;"⟩ : MethodName) prog_26_method_18_code 1 (some (.object "java/lang/Throwable")) ∈ zz_W := List.mem_append_right _ (List.mem_of_getElem? (i := 209) rfl)
theorem mw_426 : Cond.methodLink "java/lang/Throwable" 202 (⟨"java/lang/Throwable", "fillInStackTrace", "(I)Ljava/lang/Throwable;"⟩ : MethodName) ∈ zz_W := List.mem_append_right _ (List.mem_of_getElem? (i := 210) rfl)
theorem mw_428 : Cond.instanceMethod (⟨"java/lang/Throwable", "fillInStackTrace", "(I)Ljava/lang/Throwable;"⟩ : MethodName) ∈ zz_W := List.mem_append_right _ (List.mem_of_getElem? (i := 211) rfl)
theorem mw_429 : Cond.instantiable "java/lang/Throwable" 6 ∈ zz_W := List.mem_append_right _ (List.mem_of_getElem? (i := 212) rfl)
theorem mw_430 : Cond.native (⟨"java/lang/Throwable", "fillInStackTrace", "(I)Ljava/lang/Throwable;"⟩ : MethodName) ∈ zz_W := List.mem_append_right _ (List.mem_of_getElem? (i := 213) rfl)
theorem mw_432 : Cond.methodLink R_FG 69 (⟨"java/lang/IllegalArgumentException", "<init>", "(Ljava/lang/String;)V"⟩ : MethodName) ∈ zz_W := List.mem_append_right _ (List.mem_of_getElem? (i := 214) rfl)
theorem mw_433 : Cond.instanceMethod (⟨"java/lang/IllegalArgumentException", "<init>", "(Ljava/lang/String;)V"⟩ : MethodName) ∈ zz_W := List.mem_append_right _ (List.mem_of_getElem? (i := 215) rfl)
theorem mw_434 : Cond.code (⟨"java/lang/IllegalArgumentException", "<init>", "(Ljava/lang/String;)V"⟩ : MethodName) prog_17_method_2_code 2 none ∈ zz_W := List.mem_append_right _ (List.mem_of_getElem? (i := 216) rfl)
theorem mw_435 : Cond.methodLink "java/lang/IllegalArgumentException" 7 (⟨"java/lang/RuntimeException", "<init>", "(Ljava/lang/String;)V"⟩ : MethodName) ∈ zz_W := List.mem_append_right _ (List.mem_of_getElem? (i := 217) rfl)
theorem mw_436 : Cond.instanceMethod (⟨"java/lang/RuntimeException", "<init>", "(Ljava/lang/String;)V"⟩ : MethodName) ∈ zz_W := List.mem_append_right _ (List.mem_of_getElem? (i := 218) rfl)
theorem mw_437 : Cond.code (⟨"java/lang/RuntimeException", "<init>", "(Ljava/lang/String;)V"⟩ : MethodName) prog_23_method_2_code 2 none ∈ zz_W := List.mem_append_right _ (List.mem_of_getElem? (i := 219) rfl)
theorem mw_438 : Cond.methodLink "java/lang/RuntimeException" 7 (⟨"java/lang/Exception", "<init>", "(Ljava/lang/String;)V"⟩ : MethodName) ∈ zz_W := List.mem_append_right _ (List.mem_of_getElem? (i := 220) rfl)
theorem mw_439 : Cond.instanceMethod (⟨"java/lang/Exception", "<init>", "(Ljava/lang/String;)V"⟩ : MethodName) ∈ zz_W := List.mem_append_right _ (List.mem_of_getElem? (i := 221) rfl)
theorem mw_440 : Cond.code (⟨"java/lang/Exception", "<init>", "(Ljava/lang/String;)V"⟩ : MethodName) prog_16_method_2_code 2 none ∈ zz_W := List.mem_append_right _ (List.mem_of_getElem? (i := 222) rfl)
theorem mw_441 : Cond.methodLink "java/lang/Exception" 7 (⟨"java/lang/Throwable", "<init>", "(Ljava/lang/String;)V"⟩ : MethodName) ∈ zz_W := List.mem_append_right _ (List.mem_of_getElem? (i := 223) rfl)
theorem mw_442 : Cond.instanceMethod (⟨"java/lang/Throwable", "<init>", "(Ljava/lang/String;)V"⟩ : MethodName) ∈ zz_W := List.mem_append_right _ (List.mem_of_getElem? (i := 224) rfl)
theorem mw_443 : Cond.code (⟨"java/lang/Throwable", "<init>", "(Ljava/lang/String;)V"⟩ : MethodName) prog_26_method_2_code 2 none ∈ zz_W := List.mem_append_right _ (List.mem_of_getElem? (i := 225) rfl)
theorem mw_444 : Cond.fieldLink "java/lang/Throwable" 198 "java/lang/Throwable" "backtrace" "Ljava/lang/Object;" ∈ zz_W := List.mem_append_right _ (List.mem_of_getElem? (i := 226) rfl)
theorem mw_445 : Cond.fieldLink "java/lang/Throwable" 31 "java/lang/Throwable" "detailMessage" "Ljava/lang/String;" ∈ zz_W := List.mem_append_right _ (List.mem_of_getElem? (i := 227) rfl)
theorem mw_446 : Cond.fieldLink "java/lang/Throwable" 7 "java/lang/Throwable" "cause" "Ljava/lang/Throwable;" ∈ zz_W := List.mem_append_right _ (List.mem_of_getElem? (i := 228) rfl)
theorem mw_447 : Cond.fieldLink "java/lang/Throwable" 17 "java/lang/Throwable" "stackTrace" "[Ljava/lang/StackTraceElement;" ∈ zz_W := List.mem_append_right _ (List.mem_of_getElem? (i := 229) rfl)
theorem mw_448 : Cond.fieldLink "java/lang/Throwable" 24 "java/lang/Throwable" "suppressedExceptions" "Ljava/util/List;" ∈ zz_W := List.mem_append_right _ (List.mem_of_getElem? (i := 230) rfl)
theorem mw_456 : Cond.superclass "java/lang/IllegalArgumentException" "java/lang/RuntimeException" ∈ zz_W := List.mem_append_right _ (List.mem_of_getElem? (i := 231) rfl)
theorem mw_457 : Cond.classLink R_FG 76 "java/lang/IllegalStateException" ∈ zz_W := List.mem_append_right _ (List.mem_of_getElem? (i := 232) rfl)
theorem mw_458 : Cond.instantiable "java/lang/IllegalStateException" 6 ∈ zz_W := List.mem_append_right _ (List.mem_of_getElem? (i := 233) rfl)
theorem mw_460 : Cond.selects "java/lang/IllegalStateException" (⟨"java/lang/Throwable", "fillInStackTrace", "(I)Ljava/lang/Throwable;"⟩ : MethodName) (⟨"java/lang/Throwable", "fillInStackTrace", "(I)Ljava/lang/Throwable;"⟩ : MethodName) ∈ zz_W := List.mem_append_right _ (List.mem_of_getElem? (i := 234) rfl)
theorem mw_461 : Cond.lays "java/lang/IllegalStateException" "java/lang/Throwable" "cause" "Ljava/lang/Throwable;" ∈ zz_W := List.mem_append_right _ (List.mem_of_getElem? (i := 235) rfl)
theorem mw_462 : Cond.lays "java/lang/IllegalStateException" "java/lang/Throwable" "stackTrace" "[Ljava/lang/StackTraceElement;" ∈ zz_W := List.mem_append_right _ (List.mem_of_getElem? (i := 236) rfl)
theorem mw_463 : Cond.lays "java/lang/IllegalStateException" "java/lang/Throwable" "suppressedExceptions" "Ljava/util/List;" ∈ zz_W := List.mem_append_right _ (List.mem_of_getElem? (i := 237) rfl)
theorem mw_464 : Cond.lays "java/lang/IllegalStateException" "java/lang/Throwable" "detailMessage" "Ljava/lang/String;" ∈ zz_W := List.mem_append_right _ (List.mem_of_getElem? (i := 238) rfl)
theorem mw_465 : Cond.lays "java/lang/IllegalStateException" "java/lang/Throwable" "backtrace" "Ljava/lang/Object;" ∈ zz_W := List.mem_append_right _ (List.mem_of_getElem? (i := 239) rfl)
theorem mw_467 : Cond.methodLink R_FG 80 (⟨"java/lang/IllegalStateException", "<init>", "(Ljava/lang/String;)V"⟩ : MethodName) ∈ zz_W := List.mem_append_right _ (List.mem_of_getElem? (i := 240) rfl)
theorem mw_468 : Cond.instanceMethod (⟨"java/lang/IllegalStateException", "<init>", "(Ljava/lang/String;)V"⟩ : MethodName) ∈ zz_W := List.mem_append_right _ (List.mem_of_getElem? (i := 241) rfl)
theorem mw_469 : Cond.code (⟨"java/lang/IllegalStateException", "<init>", "(Ljava/lang/String;)V"⟩ : MethodName) prog_18_method_2_code 2 none ∈ zz_W := List.mem_append_right _ (List.mem_of_getElem? (i := 242) rfl)
theorem mw_470 : Cond.methodLink "java/lang/IllegalStateException" 7 (⟨"java/lang/RuntimeException", "<init>", "(Ljava/lang/String;)V"⟩ : MethodName) ∈ zz_W := List.mem_append_right _ (List.mem_of_getElem? (i := 243) rfl)
theorem mw_472 : Cond.superclass "java/lang/IllegalStateException" "java/lang/RuntimeException" ∈ zz_W := List.mem_append_right _ (List.mem_of_getElem? (i := 244) rfl)
theorem mw_837 : Cond.classLink R_La 28 "java/lang/IndexOutOfBoundsException" ∈ zz_W := List.mem_append_right _ (List.mem_of_getElem? (i := 245) rfl)
theorem mw_842 : Cond.classLink R_FG 105 "java/lang/IndexOutOfBoundsException" ∈ zz_W := List.mem_append_right _ (List.mem_of_getElem? (i := 246) rfl)
theorem mw_843 : Cond.instantiable "java/lang/IndexOutOfBoundsException" 6 ∈ zz_W := List.mem_append_right _ (List.mem_of_getElem? (i := 247) rfl)
theorem mw_845 : Cond.selects "java/lang/IndexOutOfBoundsException" (⟨"java/lang/Throwable", "fillInStackTrace", "(I)Ljava/lang/Throwable;"⟩ : MethodName) (⟨"java/lang/Throwable", "fillInStackTrace", "(I)Ljava/lang/Throwable;"⟩ : MethodName) ∈ zz_W := List.mem_append_right _ (List.mem_of_getElem? (i := 248) rfl)
theorem mw_846 : Cond.lays "java/lang/IndexOutOfBoundsException" "java/lang/Throwable" "cause" "Ljava/lang/Throwable;" ∈ zz_W := List.mem_append_right _ (List.mem_of_getElem? (i := 249) rfl)
theorem mw_847 : Cond.lays "java/lang/IndexOutOfBoundsException" "java/lang/Throwable" "stackTrace" "[Ljava/lang/StackTraceElement;" ∈ zz_W := List.mem_append_right _ (List.mem_of_getElem? (i := 250) rfl)
theorem mw_848 : Cond.lays "java/lang/IndexOutOfBoundsException" "java/lang/Throwable" "suppressedExceptions" "Ljava/util/List;" ∈ zz_W := List.mem_append_right _ (List.mem_of_getElem? (i := 251) rfl)
theorem mw_849 : Cond.lays "java/lang/IndexOutOfBoundsException" "java/lang/Throwable" "detailMessage" "Ljava/lang/String;" ∈ zz_W := List.mem_append_right _ (List.mem_of_getElem? (i := 252) rfl)
theorem mw_850 : Cond.lays "java/lang/IndexOutOfBoundsException" "java/lang/Throwable" "backtrace" "Ljava/lang/Object;" ∈ zz_W := List.mem_append_right _ (List.mem_of_getElem? (i := 253) rfl)
theorem mw_852 : Cond.methodLink R_FG 109 (⟨"java/lang/IndexOutOfBoundsException", "<init>", "(Ljava/lang/String;)V"⟩ : MethodName) ∈ zz_W := List.mem_append_right _ (List.mem_of_getElem? (i := 254) rfl)
theorem mw_853 : Cond.instanceMethod (⟨"java/lang/IndexOutOfBoundsException", "<init>", "(Ljava/lang/String;)V"⟩ : MethodName) ∈ zz_W := List.mem_append_right _ (List.mem_of_getElem? (i := 255) rfl)
theorem mw_854 : Cond.code (⟨"java/lang/IndexOutOfBoundsException", "<init>", "(Ljava/lang/String;)V"⟩ : MethodName) prog_19_method_2_code 2 none ∈ zz_W := List.mem_append_right _ (List.mem_of_getElem? (i := 256) rfl)
theorem mw_855 : Cond.methodLink "java/lang/IndexOutOfBoundsException" 7 (⟨"java/lang/RuntimeException", "<init>", "(Ljava/lang/String;)V"⟩ : MethodName) ∈ zz_W := List.mem_append_right _ (List.mem_of_getElem? (i := 257) rfl)
theorem mw_857 : Cond.superclass "java/lang/IndexOutOfBoundsException" "java/lang/RuntimeException" ∈ zz_W := List.mem_append_right _ (List.mem_of_getElem? (i := 258) rfl)
theorem mw_1031 : Cond.classLink R_La 41 "java/util/NoSuchElementException" ∈ zz_W := List.mem_append_right _ (List.mem_of_getElem? (i := 259) rfl)
theorem mw_1036 : Cond.classLink R_FG 126 "java/util/NoSuchElementException" ∈ zz_W := List.mem_append_right _ (List.mem_of_getElem? (i := 260) rfl)
theorem mw_1037 : Cond.instantiable "java/util/NoSuchElementException" 6 ∈ zz_W := List.mem_append_right _ (List.mem_of_getElem? (i := 261) rfl)
theorem mw_1039 : Cond.selects "java/util/NoSuchElementException" (⟨"java/lang/Throwable", "fillInStackTrace", "(I)Ljava/lang/Throwable;"⟩ : MethodName) (⟨"java/lang/Throwable", "fillInStackTrace", "(I)Ljava/lang/Throwable;"⟩ : MethodName) ∈ zz_W := List.mem_append_right _ (List.mem_of_getElem? (i := 262) rfl)
theorem mw_1040 : Cond.lays "java/util/NoSuchElementException" "java/lang/Throwable" "cause" "Ljava/lang/Throwable;" ∈ zz_W := List.mem_append_right _ (List.mem_of_getElem? (i := 263) rfl)
theorem mw_1041 : Cond.lays "java/util/NoSuchElementException" "java/lang/Throwable" "stackTrace" "[Ljava/lang/StackTraceElement;" ∈ zz_W := List.mem_append_right _ (List.mem_of_getElem? (i := 264) rfl)
theorem mw_1042 : Cond.lays "java/util/NoSuchElementException" "java/lang/Throwable" "suppressedExceptions" "Ljava/util/List;" ∈ zz_W := List.mem_append_right _ (List.mem_of_getElem? (i := 265) rfl)
theorem mw_1043 : Cond.lays "java/util/NoSuchElementException" "java/lang/Throwable" "detailMessage" "Ljava/lang/String;" ∈ zz_W := List.mem_append_right _ (List.mem_of_getElem? (i := 266) rfl)
theorem mw_1044 : Cond.lays "java/util/NoSuchElementException" "java/lang/Throwable" "backtrace" "Ljava/lang/Object;" ∈ zz_W := List.mem_append_right _ (List.mem_of_getElem? (i := 267) rfl)
theorem mw_1046 : Cond.methodLink R_FG 130 (⟨"java/util/NoSuchElementException", "<init>", "(Ljava/lang/String;)V"⟩ : MethodName) ∈ zz_W := List.mem_append_right _ (List.mem_of_getElem? (i := 268) rfl)
theorem mw_1047 : Cond.instanceMethod (⟨"java/util/NoSuchElementException", "<init>", "(Ljava/lang/String;)V"⟩ : MethodName) ∈ zz_W := List.mem_append_right _ (List.mem_of_getElem? (i := 269) rfl)
theorem mw_1048 : Cond.code (⟨"java/util/NoSuchElementException", "<init>", "(Ljava/lang/String;)V"⟩ : MethodName) prog_28_method_4_code 2 none ∈ zz_W := List.mem_append_right _ (List.mem_of_getElem? (i := 270) rfl)
theorem mw_1049 : Cond.methodLink "java/util/NoSuchElementException" 13 (⟨"java/lang/RuntimeException", "<init>", "(Ljava/lang/String;)V"⟩ : MethodName) ∈ zz_W := List.mem_append_right _ (List.mem_of_getElem? (i := 271) rfl)
theorem mw_1051 : Cond.superclass "java/util/NoSuchElementException" "java/lang/RuntimeException" ∈ zz_W := List.mem_append_right _ (List.mem_of_getElem? (i := 272) rfl)
theorem mw_1095 : Cond.code y_Mo_init prog_14_method_1_code 1 none ∈ zz_W := List.mem_append_right _ (List.mem_of_getElem? (i := 273) rfl)
theorem mw_1096 : Cond.methodLink R_Mo 5 (⟨"java/lang/Object", "<init>", "()V"⟩ : MethodName) ∈ zz_W := List.mem_append_right _ (List.mem_of_getElem? (i := 274) rfl)
theorem mw_1098 : Cond.fieldLink R_Mo 11 R_Mo "sort" "[I" ∈ zz_W := List.mem_append_right _ (List.mem_of_getElem? (i := 275) rfl)
theorem mw_1099 : Cond.fieldLink R_Mo 15 R_Mo "dst" "[I" ∈ zz_W := List.mem_append_right _ (List.mem_of_getElem? (i := 276) rfl)
theorem mw_1100 : Cond.fieldLink R_Mo 18 R_Mo "src" "[I" ∈ zz_W := List.mem_append_right _ (List.mem_of_getElem? (i := 277) rfl)
theorem mw_1101 : Cond.fieldLink R_Mo 21 R_Mo "off" "[I" ∈ zz_W := List.mem_append_right _ (List.mem_of_getElem? (i := 278) rfl)
theorem mw_1102 : Cond.fieldLink R_Mo 24 R_Mo "imm" "[I" ∈ zz_W := List.mem_append_right _ (List.mem_of_getElem? (i := 279) rfl)
theorem mw_1105 : Cond.fieldLink R_Mo 27 R_Mo "keyBytes" "[I" ∈ zz_W := List.mem_append_right _ (List.mem_of_getElem? (i := 280) rfl)
theorem mw_1106 : Cond.fieldLink R_Mo 30 R_Mo "valueBytes" "[I" ∈ zz_W := List.mem_append_right _ (List.mem_of_getElem? (i := 281) rfl)
theorem mw_1107 : Cond.fieldLink R_Mo 33 R_Mo "places" "[I" ∈ zz_W := List.mem_append_right _ (List.mem_of_getElem? (i := 282) rfl)
theorem mw_1110 : Cond.fieldLink R_Mo 36 R_Mo "faultAt" "I" ∈ zz_W := List.mem_append_right _ (List.mem_of_getElem? (i := 283) rfl)
theorem mw_1112 : Cond.fieldLink R_Mo 40 R_Mo "kind" "[I" ∈ zz_W := List.mem_append_right _ (List.mem_of_getElem? (i := 284) rfl)
theorem mw_1113 : Cond.fieldLink R_Mo 43 R_Mo "mapOf" "[I" ∈ zz_W := List.mem_append_right _ (List.mem_of_getElem? (i := 285) rfl)
theorem mw_1114 : Cond.fieldLink R_Mo 46 R_Mo "tag" "[I" ∈ zz_W := List.mem_append_right _ (List.mem_of_getElem? (i := 286) rfl)
theorem mw_1115 : Cond.fieldLink R_Mo 49 R_Mo "low" "[J" ∈ zz_W := List.mem_append_right _ (List.mem_of_getElem? (i := 287) rfl)
theorem mw_1116 : Cond.fieldLink R_Mo 53 R_Mo "high" "[J" ∈ zz_W := List.mem_append_right _ (List.mem_of_getElem? (i := 288) rfl)
theorem mw_1117 : Cond.fieldLink R_Mo 56 R_Mo "stack" "[I" ∈ zz_W := List.mem_append_right _ (List.mem_of_getElem? (i := 289) rfl)
theorem mw_1118 : Cond.fieldLink R_Mo 59 R_Mo "length" "[I" ∈ zz_W := List.mem_append_right _ (List.mem_of_getElem? (i := 290) rfl)
theorem mw_1119 : Cond.fieldLink R_Mo 62 R_Mo "goesTo" "[I" ∈ zz_W := List.mem_append_right _ (List.mem_of_getElem? (i := 291) rfl)
theorem mw_1122 : Cond.fieldLink R_Mo 65 R_Mo "times" "[I" ∈ zz_W := List.mem_append_right _ (List.mem_of_getElem? (i := 292) rfl)
theorem mw_1123 : Cond.fieldLink R_Mo 68 R_Mo "seen" "[I" ∈ zz_W := List.mem_append_right _ (List.mem_of_getElem? (i := 293) rfl)
theorem mw_1124 : Cond.fieldLink R_Mo 71 R_Mo "leastLow" "[J" ∈ zz_W := List.mem_append_right _ (List.mem_of_getElem? (i := 294) rfl)
theorem mw_1125 : Cond.fieldLink R_Mo 74 R_Mo "mostHigh" "[J" ∈ zz_W := List.mem_append_right _ (List.mem_of_getElem? (i := 295) rfl)
theorem mw_1137 : Cond.fieldLink R_Mo 77 R_Mo "packet" "[B" ∈ zz_W := List.mem_append_right _ (List.mem_of_getElem? (i := 296) rfl)
theorem mw_1139 : Cond.fieldLink R_Mo 81 R_Mo "data" "[B" ∈ zz_W := List.mem_append_right _ (List.mem_of_getElem? (i := 297) rfl)
theorem mw_1140 : Cond.fieldLink R_Mo 84 R_Mo "full" "[Z" ∈ zz_W := List.mem_append_right _ (List.mem_of_getElem? (i := 298) rfl)
theorem mw_1142 : Cond.fieldLink R_Mo 88 R_Mo "log" "[J" ∈ zz_W := List.mem_append_right _ (List.mem_of_getElem? (i := 299) rfl)
theorem mw_1146 : Cond.fieldLink R_Mo 91 R_Mo "is" "[I" ∈ zz_W := List.mem_append_right _ (List.mem_of_getElem? (i := 300) rfl)
theorem mw_1147 : Cond.fieldLink R_Mo 94 R_Mo "ofMap" "[I" ∈ zz_W := List.mem_append_right _ (List.mem_of_getElem? (i := 301) rfl)
theorem mw_1148 : Cond.fieldLink R_Mo 97 R_Mo "ofPlace" "[I" ∈ zz_W := List.mem_append_right _ (List.mem_of_getElem? (i := 302) rfl)
theorem mw_1149 : Cond.fieldLink R_Mo 100 R_Mo "ofTag" "[I" ∈ zz_W := List.mem_append_right _ (List.mem_of_getElem? (i := 303) rfl)
theorem mw_1150 : Cond.fieldLink R_Mo 103 R_Mo "is64" "[J" ∈ zz_W := List.mem_append_right _ (List.mem_of_getElem? (i := 304) rfl)
theorem mw_1151 : Cond.fieldLink R_Mo 106 R_Mo "own" "[B" ∈ zz_W := List.mem_append_right _ (List.mem_of_getElem? (i := 305) rfl)
theorem mw_1153 : Cond.lays R_Mo R_Mo "thrown" "I" ∈ zz_W := List.mem_append_right _ (List.mem_of_getElem? (i := 306) rfl)
theorem mw_1155 : Cond.laysFinal R_Mo R_Mo "sort" "[I" ∈ zz_W := List.mem_append_right _ (List.mem_of_getElem? (i := 307) rfl)
theorem mw_1157 : Cond.laysFinal R_Mo R_Mo "dst" "[I" ∈ zz_W := List.mem_append_right _ (List.mem_of_getElem? (i := 308) rfl)
theorem mw_1159 : Cond.laysFinal R_Mo R_Mo "src" "[I" ∈ zz_W := List.mem_append_right _ (List.mem_of_getElem? (i := 309) rfl)
theorem mw_1161 : Cond.laysFinal R_Mo R_Mo "off" "[I" ∈ zz_W := List.mem_append_right _ (List.mem_of_getElem? (i := 310) rfl)
theorem mw_1163 : Cond.laysFinal R_Mo R_Mo "imm" "[I" ∈ zz_W := List.mem_append_right _ (List.mem_of_getElem? (i := 311) rfl)
theorem mw_1165 : Cond.lays R_Mo R_Mo "many" "I" ∈ zz_W := List.mem_append_right _ (List.mem_of_getElem? (i := 312) rfl)
theorem mw_1167 : Cond.lays R_Mo R_Mo "passed" "Z" ∈ zz_W := List.mem_append_right _ (List.mem_of_getElem? (i := 313) rfl)
theorem mw_1169 : Cond.laysFinal R_Mo R_Mo "keyBytes" "[I" ∈ zz_W := List.mem_append_right _ (List.mem_of_getElem? (i := 314) rfl)
theorem mw_1171 : Cond.laysFinal R_Mo R_Mo "valueBytes" "[I" ∈ zz_W := List.mem_append_right _ (List.mem_of_getElem? (i := 315) rfl)
theorem mw_1173 : Cond.laysFinal R_Mo R_Mo "places" "[I" ∈ zz_W := List.mem_append_right _ (List.mem_of_getElem? (i := 316) rfl)
theorem mw_1175 : Cond.lays R_Mo R_Mo "maps" "I" ∈ zz_W := List.mem_append_right _ (List.mem_of_getElem? (i := 317) rfl)
theorem mw_1177 : Cond.lays R_Mo R_Mo "fault" "I" ∈ zz_W := List.mem_append_right _ (List.mem_of_getElem? (i := 318) rfl)
theorem mw_1179 : Cond.lays R_Mo R_Mo "faultAt" "I" ∈ zz_W := List.mem_append_right _ (List.mem_of_getElem? (i := 319) rfl)
theorem mw_1181 : Cond.lays R_Mo R_Mo "gone" "I" ∈ zz_W := List.mem_append_right _ (List.mem_of_getElem? (i := 320) rfl)
theorem mw_1183 : Cond.laysFinal R_Mo R_Mo "kind" "[I" ∈ zz_W := List.mem_append_right _ (List.mem_of_getElem? (i := 321) rfl)
theorem mw_1185 : Cond.laysFinal R_Mo R_Mo "mapOf" "[I" ∈ zz_W := List.mem_append_right _ (List.mem_of_getElem? (i := 322) rfl)
theorem mw_1187 : Cond.laysFinal R_Mo R_Mo "tag" "[I" ∈ zz_W := List.mem_append_right _ (List.mem_of_getElem? (i := 323) rfl)
theorem mw_1189 : Cond.laysFinal R_Mo R_Mo "low" "[J" ∈ zz_W := List.mem_append_right _ (List.mem_of_getElem? (i := 324) rfl)
theorem mw_1191 : Cond.laysFinal R_Mo R_Mo "high" "[J" ∈ zz_W := List.mem_append_right _ (List.mem_of_getElem? (i := 325) rfl)
theorem mw_1193 : Cond.laysFinal R_Mo R_Mo "stack" "[I" ∈ zz_W := List.mem_append_right _ (List.mem_of_getElem? (i := 326) rfl)
theorem mw_1195 : Cond.laysFinal R_Mo R_Mo "length" "[I" ∈ zz_W := List.mem_append_right _ (List.mem_of_getElem? (i := 327) rfl)
theorem mw_1197 : Cond.laysFinal R_Mo R_Mo "goesTo" "[I" ∈ zz_W := List.mem_append_right _ (List.mem_of_getElem? (i := 328) rfl)
theorem mw_1199 : Cond.lays R_Mo R_Mo "sides" "I" ∈ zz_W := List.mem_append_right _ (List.mem_of_getElem? (i := 329) rfl)
theorem mw_1201 : Cond.lays R_Mo R_Mo "tags" "I" ∈ zz_W := List.mem_append_right _ (List.mem_of_getElem? (i := 330) rfl)
theorem mw_1203 : Cond.laysFinal R_Mo R_Mo "times" "[I" ∈ zz_W := List.mem_append_right _ (List.mem_of_getElem? (i := 331) rfl)
theorem mw_1205 : Cond.laysFinal R_Mo R_Mo "seen" "[I" ∈ zz_W := List.mem_append_right _ (List.mem_of_getElem? (i := 332) rfl)
theorem mw_1207 : Cond.laysFinal R_Mo R_Mo "leastLow" "[J" ∈ zz_W := List.mem_append_right _ (List.mem_of_getElem? (i := 333) rfl)
theorem mw_1209 : Cond.laysFinal R_Mo R_Mo "mostHigh" "[J" ∈ zz_W := List.mem_append_right _ (List.mem_of_getElem? (i := 334) rfl)
theorem mw_1211 : Cond.lays R_Mo R_Mo "a" "J" ∈ zz_W := List.mem_append_right _ (List.mem_of_getElem? (i := 335) rfl)
theorem mw_1213 : Cond.lays R_Mo R_Mo "b" "J" ∈ zz_W := List.mem_append_right _ (List.mem_of_getElem? (i := 336) rfl)
theorem mw_1215 : Cond.lays R_Mo R_Mo "fits" "Z" ∈ zz_W := List.mem_append_right _ (List.mem_of_getElem? (i := 337) rfl)
theorem mw_1217 : Cond.lays R_Mo R_Mo "xl" "J" ∈ zz_W := List.mem_append_right _ (List.mem_of_getElem? (i := 338) rfl)
theorem mw_1219 : Cond.lays R_Mo R_Mo "xh" "J" ∈ zz_W := List.mem_append_right _ (List.mem_of_getElem? (i := 339) rfl)
theorem mw_1221 : Cond.lays R_Mo R_Mo "yl" "J" ∈ zz_W := List.mem_append_right _ (List.mem_of_getElem? (i := 340) rfl)
theorem mw_1223 : Cond.lays R_Mo R_Mo "yh" "J" ∈ zz_W := List.mem_append_right _ (List.mem_of_getElem? (i := 341) rfl)
theorem mw_1225 : Cond.lays R_Mo R_Mo "next" "Z" ∈ zz_W := List.mem_append_right _ (List.mem_of_getElem? (i := 342) rfl)
theorem mw_1227 : Cond.lays R_Mo R_Mo "other" "Z" ∈ zz_W := List.mem_append_right _ (List.mem_of_getElem? (i := 343) rfl)
theorem mw_1229 : Cond.lays R_Mo R_Mo "waits" "I" ∈ zz_W := List.mem_append_right _ (List.mem_of_getElem? (i := 344) rfl)
theorem mw_1231 : Cond.lays R_Mo R_Mo "to" "I" ∈ zz_W := List.mem_append_right _ (List.mem_of_getElem? (i := 345) rfl)
theorem mw_1233 : Cond.laysFinal R_Mo R_Mo "packet" "[B" ∈ zz_W := List.mem_append_right _ (List.mem_of_getElem? (i := 346) rfl)
theorem mw_1235 : Cond.lays R_Mo R_Mo "packetEnd" "I" ∈ zz_W := List.mem_append_right _ (List.mem_of_getElem? (i := 347) rfl)
theorem mw_1237 : Cond.laysFinal R_Mo R_Mo "data" "[B" ∈ zz_W := List.mem_append_right _ (List.mem_of_getElem? (i := 348) rfl)
theorem mw_1239 : Cond.laysFinal R_Mo R_Mo "full" "[Z" ∈ zz_W := List.mem_append_right _ (List.mem_of_getElem? (i := 349) rfl)
theorem mw_1241 : Cond.lays R_Mo R_Mo "seed" "J" ∈ zz_W := List.mem_append_right _ (List.mem_of_getElem? (i := 350) rfl)
theorem mw_1243 : Cond.laysFinal R_Mo R_Mo "log" "[J" ∈ zz_W := List.mem_append_right _ (List.mem_of_getElem? (i := 351) rfl)
theorem mw_1245 : Cond.lays R_Mo R_Mo "logged" "I" ∈ zz_W := List.mem_append_right _ (List.mem_of_getElem? (i := 352) rfl)
theorem mw_1247 : Cond.lays R_Mo R_Mo "done" "I" ∈ zz_W := List.mem_append_right _ (List.mem_of_getElem? (i := 353) rfl)
theorem mw_1249 : Cond.lays R_Mo R_Mo "wrong" "I" ∈ zz_W := List.mem_append_right _ (List.mem_of_getElem? (i := 354) rfl)
theorem mw_1251 : Cond.laysFinal R_Mo R_Mo "is" "[I" ∈ zz_W := List.mem_append_right _ (List.mem_of_getElem? (i := 355) rfl)
theorem mw_1253 : Cond.laysFinal R_Mo R_Mo "ofMap" "[I" ∈ zz_W := List.mem_append_right _ (List.mem_of_getElem? (i := 356) rfl)
theorem mw_1255 : Cond.laysFinal R_Mo R_Mo "ofPlace" "[I" ∈ zz_W := List.mem_append_right _ (List.mem_of_getElem? (i := 357) rfl)
theorem mw_1257 : Cond.laysFinal R_Mo R_Mo "ofTag" "[I" ∈ zz_W := List.mem_append_right _ (List.mem_of_getElem? (i := 358) rfl)
theorem mw_1259 : Cond.laysFinal R_Mo R_Mo "is64" "[J" ∈ zz_W := List.mem_append_right _ (List.mem_of_getElem? (i := 359) rfl)
theorem mw_1261 : Cond.laysFinal R_Mo R_Mo "own" "[B" ∈ zz_W := List.mem_append_right _ (List.mem_of_getElem? (i := 360) rfl)
theorem mw_1263 : Cond.lays R_Mo R_Mo "runTags" "I" ∈ zz_W := List.mem_append_right _ (List.mem_of_getElem? (i := 361) rfl)
theorem mw_oinit : Cond.code objectInit ⟨#[0xb1]⟩ 1 none ∈ zz_W := List.mem_append_right _ (List.mem_of_getElem? (i := 18) rfl)
theorem mw_sel_Mo_no : Cond.selects R_Mo y_Mo_no y_Mo_no ∈ zz_W := List.mem_append_left _ (List.mem_of_getElem? (i := 0) rfl)
theorem mn_37 : Cond.methodLinkNest R_FG 11 y_Pr_init R_FG ∈ zz_NT := List.mem_of_getElem? (i := 0) rfl
theorem mn_76 : Cond.methodLinkNest R_FG 18 y_Ma_init R_FG ∈ zz_NT := List.mem_of_getElem? (i := 1) rfl
theorem mn_148 : Cond.methodLinkNest R_FG 34 y_Fo_init R_FG ∈ zz_NT := List.mem_of_getElem? (i := 2) rfl
theorem mn_174 : Cond.methodLinkNest R_Ch 11 y_St_init R_FG ∈ zz_NT := List.mem_of_getElem? (i := 3) rfl
theorem mn_215 : Cond.methodLinkNest R_Ch 27 y_Ra_init R_FG ∈ zz_NT := List.mem_of_getElem? (i := 4) rfl
theorem mn_390 : Cond.castable "java/lang/IllegalArgumentException" "java/lang/IllegalArgumentException" ∈ zz_NT := List.mem_of_getElem? (i := 5) rfl
theorem mn_392 : Cond.declares (⟨"java/lang/RuntimeException", "<init>", "(Ljava/lang/String;)V"⟩ : MethodName) ∈ zz_NT := List.mem_of_getElem? (i := 6) rfl
theorem mn_394 : Cond.declares (⟨"java/lang/Exception", "<init>", "(Ljava/lang/String;)V"⟩ : MethodName) ∈ zz_NT := List.mem_of_getElem? (i := 7) rfl
theorem mn_396 : Cond.declares (⟨"java/lang/Throwable", "<init>", "(Ljava/lang/String;)V"⟩ : MethodName) ∈ zz_NT := List.mem_of_getElem? (i := 8) rfl
theorem mn_459 : Cond.castable "java/lang/IllegalStateException" "java/lang/IllegalStateException" ∈ zz_NT := List.mem_of_getElem? (i := 9) rfl
theorem mn_844 : Cond.castable "java/lang/IndexOutOfBoundsException" "java/lang/IndexOutOfBoundsException" ∈ zz_NT := List.mem_of_getElem? (i := 10) rfl
theorem mn_1038 : Cond.castable "java/util/NoSuchElementException" "java/util/NoSuchElementException" ∈ zz_NT := List.mem_of_getElem? (i := 11) rfl
set_option maxRecDepth 100000 in
theorem i_FG : ∀ w ∈ u_ws R_FG F_FG 7, w ∈ zz_W := by
  intro w hw
  obtain ⟨j, hj, rfl⟩ := List.mem_map.mp hw
  have hj := List.mem_range.mp hj
  match j, hj with
  | 0, _ => exact mw_330
  | 1, _ => exact mw_332
  | 2, _ => exact mw_334
  | 3, _ => exact mw_336
  | 4, _ => exact mw_338
  | 5, _ => exact mw_340
  | 6, _ => exact mw_342
  | j + 7, h => exact absurd h (by omega)
set_option maxRecDepth 100000 in
theorem i_Pr : ∀ w ∈ u_ws R_Pr F_Pr 6, w ∈ zz_W := by
  intro w hw
  obtain ⟨j, hj, rfl⟩ := List.mem_map.mp hw
  have hj := List.mem_range.mp hj
  match j, hj with
  | 0, _ => exact mw_60
  | 1, _ => exact mw_62
  | 2, _ => exact mw_64
  | 3, _ => exact mw_66
  | 4, _ => exact mw_68
  | 5, _ => exact mw_70
  | j + 6, h => exact absurd h (by omega)
set_option maxRecDepth 100000 in
theorem i_Ma : ∀ w ∈ u_ws R_Ma F_Ma 8, w ∈ zz_W := by
  intro w hw
  obtain ⟨j, hj, rfl⟩ := List.mem_map.mp hw
  have hj := List.mem_range.mp hj
  match j, hj with
  | 0, _ => exact mw_100
  | 1, _ => exact mw_102
  | 2, _ => exact mw_104
  | 3, _ => exact mw_106
  | 4, _ => exact mw_108
  | 5, _ => exact mw_110
  | 6, _ => exact mw_112
  | 7, _ => exact mw_114
  | j + 8, h => exact absurd h (by omega)
set_option maxRecDepth 100000 in
theorem i_Me : ∀ w ∈ u_ws R_Me F_Me 5, w ∈ zz_W := by
  intro w hw
  obtain ⟨j, hj, rfl⟩ := List.mem_map.mp hw
  have hj := List.mem_range.mp hj
  match j, hj with
  | 0, _ => exact mw_135
  | 1, _ => exact mw_137
  | 2, _ => exact mw_139
  | 3, _ => exact mw_141
  | 4, _ => exact mw_143
  | j + 5, h => exact absurd h (by omega)
set_option maxRecDepth 100000 in
theorem i_Fo : ∀ w ∈ u_ws R_Fo F_Fo 4, w ∈ zz_W := by
  intro w hw
  obtain ⟨j, hj, rfl⟩ := List.mem_map.mp hw
  have hj := List.mem_range.mp hj
  match j, hj with
  | 0, _ => exact mw_156
  | 1, _ => exact mw_158
  | 2, _ => exact mw_160
  | 3, _ => exact mw_162
  | j + 4, h => exact absurd h (by omega)
set_option maxRecDepth 100000 in
theorem i_Ch : ∀ w ∈ u_ws R_Ch F_Ch 14, w ∈ zz_W := by
  intro w hw
  obtain ⟨j, hj, rfl⟩ := List.mem_map.mp hw
  have hj := List.mem_range.mp hj
  match j, hj with
  | 0, _ => exact mw_247
  | 1, _ => exact mw_249
  | 2, _ => exact mw_251
  | 3, _ => exact mw_253
  | 4, _ => exact mw_255
  | 5, _ => exact mw_257
  | 6, _ => exact mw_259
  | 7, _ => exact mw_261
  | 8, _ => exact mw_263
  | 9, _ => exact mw_265
  | 10, _ => exact mw_267
  | 11, _ => exact mw_269
  | 12, _ => exact mw_271
  | 13, _ => exact mw_273
  | j + 14, h => exact absurd h (by omega)
set_option maxRecDepth 100000 in
theorem i_St : ∀ w ∈ u_ws R_St F_St 8, w ∈ zz_W := by
  intro w hw
  obtain ⟨j, hj, rfl⟩ := List.mem_map.mp hw
  have hj := List.mem_range.mp hj
  match j, hj with
  | 0, _ => exact mw_195
  | 1, _ => exact mw_197
  | 2, _ => exact mw_199
  | 3, _ => exact mw_201
  | 4, _ => exact mw_203
  | 5, _ => exact mw_205
  | 6, _ => exact mw_207
  | 7, _ => exact mw_209
  | j + 8, h => exact absurd h (by omega)
set_option maxRecDepth 100000 in
theorem i_Ra : ∀ w ∈ u_ws R_Ra F_Ra 2, w ∈ zz_W := by
  intro w hw
  obtain ⟨j, hj, rfl⟩ := List.mem_map.mp hw
  have hj := List.mem_range.mp hj
  match j, hj with
  | 0, _ => exact mw_225
  | 1, _ => exact mw_227
  | j + 2, h => exact absurd h (by omega)
set_option maxRecDepth 100000 in
theorem i_Ru : ∀ w ∈ u_ws R_Ru F_Ru 12, w ∈ zz_W := by
  intro w hw
  obtain ⟨j, hj, rfl⟩ := List.mem_map.mp hw
  have hj := List.mem_range.mp hj
  match j, hj with
  | 0, _ => exact mw_298
  | 1, _ => exact mw_300
  | 2, _ => exact mw_302
  | 3, _ => exact mw_304
  | 4, _ => exact mw_306
  | 5, _ => exact mw_308
  | 6, _ => exact mw_310
  | 7, _ => exact mw_312
  | 8, _ => exact mw_314
  | 9, _ => exact mw_316
  | 10, _ => exact mw_318
  | 11, _ => exact mw_320
  | j + 12, h => exact absurd h (by omega)
set_option maxRecDepth 100000 in
theorem i_Mo : ∀ w ∈ u_ws R_Mo F_Mo 56, w ∈ zz_W := by
  intro w hw
  obtain ⟨j, hj, rfl⟩ := List.mem_map.mp hw
  have hj := List.mem_range.mp hj
  match j, hj with
  | 0, _ => exact mw_1153
  | 1, _ => exact mw_1155
  | 2, _ => exact mw_1157
  | 3, _ => exact mw_1159
  | 4, _ => exact mw_1161
  | 5, _ => exact mw_1163
  | 6, _ => exact mw_1165
  | 7, _ => exact mw_1167
  | 8, _ => exact mw_1169
  | 9, _ => exact mw_1171
  | 10, _ => exact mw_1173
  | 11, _ => exact mw_1175
  | 12, _ => exact mw_1177
  | 13, _ => exact mw_1179
  | 14, _ => exact mw_1181
  | 15, _ => exact mw_1183
  | 16, _ => exact mw_1185
  | 17, _ => exact mw_1187
  | 18, _ => exact mw_1189
  | 19, _ => exact mw_1191
  | 20, _ => exact mw_1193
  | 21, _ => exact mw_1195
  | 22, _ => exact mw_1197
  | 23, _ => exact mw_1199
  | 24, _ => exact mw_1201
  | 25, _ => exact mw_1203
  | 26, _ => exact mw_1205
  | 27, _ => exact mw_1207
  | 28, _ => exact mw_1209
  | 29, _ => exact mw_1211
  | 30, _ => exact mw_1213
  | 31, _ => exact mw_1215
  | 32, _ => exact mw_1217
  | 33, _ => exact mw_1219
  | 34, _ => exact mw_1221
  | 35, _ => exact mw_1223
  | 36, _ => exact mw_1225
  | 37, _ => exact mw_1227
  | 38, _ => exact mw_1229
  | 39, _ => exact mw_1231
  | 40, _ => exact mw_1233
  | 41, _ => exact mw_1235
  | 42, _ => exact mw_1237
  | 43, _ => exact mw_1239
  | 44, _ => exact mw_1241
  | 45, _ => exact mw_1243
  | 46, _ => exact mw_1245
  | 47, _ => exact mw_1247
  | 48, _ => exact mw_1249
  | 49, _ => exact mw_1251
  | 50, _ => exact mw_1253
  | 51, _ => exact mw_1255
  | 52, _ => exact mw_1257
  | 53, _ => exact mw_1259
  | 54, _ => exact mw_1261
  | 55, _ => exact mw_1263
  | j + 56, h => exact absurd h (by omega)
theorem hd_St_init : y_St_init.cls ≠ "java/lang/invoke/MethodHandle" ∧ y_St_init.cls ≠ "java/lang/invoke/VarHandle" ∧ (parseMethodDescriptor y_St_init.desc).map (fun d => d.parameters.length) = some 0 := by decide +kernel
theorem hd_Ra_init : y_Ra_init.cls ≠ "java/lang/invoke/MethodHandle" ∧ y_Ra_init.cls ≠ "java/lang/invoke/VarHandle" ∧ (parseMethodDescriptor y_Ra_init.desc).map (fun d => d.parameters.length) = some 0 := by decide +kernel
theorem hd_Pr_init : y_Pr_init.cls ≠ "java/lang/invoke/MethodHandle" ∧ y_Pr_init.cls ≠ "java/lang/invoke/VarHandle" ∧ (parseMethodDescriptor y_Pr_init.desc).map (fun d => d.parameters.length) = some 0 := by decide +kernel
theorem hd_Ma_init : y_Ma_init.cls ≠ "java/lang/invoke/MethodHandle" ∧ y_Ma_init.cls ≠ "java/lang/invoke/VarHandle" ∧ (parseMethodDescriptor y_Ma_init.desc).map (fun d => d.parameters.length) = some 0 := by decide +kernel
theorem hd_Me_init : y_Me_init.cls ≠ "java/lang/invoke/MethodHandle" ∧ y_Me_init.cls ≠ "java/lang/invoke/VarHandle" ∧ (parseMethodDescriptor y_Me_init.desc).map (fun d => d.parameters.length) = some 1 := by decide +kernel
theorem hd_Fo_init : y_Fo_init.cls ≠ "java/lang/invoke/MethodHandle" ∧ y_Fo_init.cls ≠ "java/lang/invoke/VarHandle" ∧ (parseMethodDescriptor y_Fo_init.desc).map (fun d => d.parameters.length) = some 0 := by decide +kernel
theorem hd_Ch_init : y_Ch_init.cls ≠ "java/lang/invoke/MethodHandle" ∧ y_Ch_init.cls ≠ "java/lang/invoke/VarHandle" ∧ (parseMethodDescriptor y_Ch_init.desc).map (fun d => d.parameters.length) = some 3 := by decide +kernel
theorem hd_Ru_init : y_Ru_init.cls ≠ "java/lang/invoke/MethodHandle" ∧ y_Ru_init.cls ≠ "java/lang/invoke/VarHandle" ∧ (parseMethodDescriptor y_Ru_init.desc).map (fun d => d.parameters.length) = some 3 := by decide +kernel
theorem x_IAE_0 : decode prog_17_method_2_code 0 = .ok (.aload_n 0, 1) := by decide +kernel
theorem x_IAE_1 : decode prog_17_method_2_code 1 = .ok (.aload_n 1, 1) := by decide +kernel
theorem x_IAE_2 : decode prog_17_method_2_code 2 = .ok (.invokespecial 7, 3) := by decide +kernel
theorem x_IAE_5 : decode prog_17_method_2_code 5 = .ok (.return_, 1) := by decide +kernel
set_option maxRecDepth 1000000 in
theorem zz_ow_IAE : ∀ a ∈ th_own R_FG 69 E_IAE 7 prog_17_method_2_code, a ∈ zz_W ∨ a ∈ zz_NT := by decide +kernel
theorem x_ISE_0 : decode prog_18_method_2_code 0 = .ok (.aload_n 0, 1) := by decide +kernel
theorem x_ISE_1 : decode prog_18_method_2_code 1 = .ok (.aload_n 1, 1) := by decide +kernel
theorem x_ISE_2 : decode prog_18_method_2_code 2 = .ok (.invokespecial 7, 3) := by decide +kernel
theorem x_ISE_5 : decode prog_18_method_2_code 5 = .ok (.return_, 1) := by decide +kernel
set_option maxRecDepth 1000000 in
theorem zz_ow_ISE : ∀ a ∈ th_own R_FG 80 E_ISE 7 prog_18_method_2_code, a ∈ zz_W ∨ a ∈ zz_NT := by decide +kernel
theorem x_IOE_0 : decode prog_19_method_2_code 0 = .ok (.aload_n 0, 1) := by decide +kernel
theorem x_IOE_1 : decode prog_19_method_2_code 1 = .ok (.aload_n 1, 1) := by decide +kernel
theorem x_IOE_2 : decode prog_19_method_2_code 2 = .ok (.invokespecial 7, 3) := by decide +kernel
theorem x_IOE_5 : decode prog_19_method_2_code 5 = .ok (.return_, 1) := by decide +kernel
set_option maxRecDepth 1000000 in
theorem zz_ow_IOE : ∀ a ∈ th_own R_FG 109 E_IOE 7 prog_19_method_2_code, a ∈ zz_W ∨ a ∈ zz_NT := by decide +kernel
theorem x_NSE_0 : decode prog_28_method_4_code 0 = .ok (.aload_n 0, 1) := by decide +kernel
theorem x_NSE_1 : decode prog_28_method_4_code 1 = .ok (.aload_n 1, 1) := by decide +kernel
theorem x_NSE_2 : decode prog_28_method_4_code 2 = .ok (.invokespecial 13, 3) := by decide +kernel
theorem x_NSE_5 : decode prog_28_method_4_code 5 = .ok (.return_, 1) := by decide +kernel
set_option maxRecDepth 1000000 in
theorem zz_ow_NSE : ∀ a ∈ th_own R_FG 130 E_NSE 13 prog_28_method_4_code, a ∈ zz_W ∨ a ∈ zz_NT := by decide +kernel
set_option maxRecDepth 1000000 in
theorem zz_up_in : ∀ a ∈ th_up, a ∈ zz_W ∨ a ∈ zz_NT ∨ a = .laysStatic Bundle.tN "UNASSIGNED_STACK" Bundle.steD ∨ a = .laysStatic Bundle.tN "SUPPRESSED_SENTINEL" Bundle.listD := by decide +kernel
/-- the tables' words that a contract's own list doesn't take -/
def zz_SR : List (Nat × String) := []
def zz_T (U : State) : Prop := (∀ w ∈ zz_NT, va_Nw w U) ∧ va_AO R_St U ∧ va_Nc E_NSE E_IAE U ∧ ∀ r ∈ zz_SR, ∃ q, vk_R R_FG r.1 r.2 q U
end
section
/-! What every contract of this claim says of its start: the world, the tables' words that don't ride in a contract's own list, the statics of Throwable where something is thrown. -/
theorem ks_move {C n d : String} {u U : State} (hvm : u.vm.Alike U.vm) (hh : ∀ q : Nat, q < u.heap.size → U.heap[q]? = u.heap[q]?) (h : (Cond.laysStatic C n d).before #[] u = true) (hr : (Cond.isRef (.static C n d)).before #[] u = true) :
    (Cond.laysStatic C n d).before #[] U = true ∧ (Cond.isRef (.static C n d)).before #[] U = true := by
  obtain ⟨c, k, i, f, a, cell, h1, h2, h3, h4, h5, h6, h7, h8, h9⟩ := Cond.laysStatic_spec h
  obtain ⟨k', hi', he⟩ := State.fieldFound?_setVm hvm h2
  have g1 : U.vm.findClass C = some c := by rw [hvm.findClass]; exact h1
  have g5 : U.heap[a]? = some cell := by rw [hh a (Array.getElem?_eq_some_iff.mp h5).1]; exact h5
  have g4 : k'.statics = some a := by rw [he]; exact h4
  have g9 : k'.staticTypes[f.slot]? = some f.type := by rw [he]; exact h9
  have hi2 : U.fieldFound? C n d = some (c, k', i, f) := hi'
  have e0 : (Term.static C n d).eval #[] u none [] u = cell.slots[f.slot]? := by simp [Term.eval, State.fieldNamed?, h2, h3, h4, h5, h6]
  have e1 : (Term.static C n d).eval #[] U none [] U = cell.slots[f.slot]? := by simp [Term.eval, State.fieldNamed?, hi2, h3, g4, g5, h6]
  refine ⟨?_, ?_⟩
  · simp only [Cond.before, Cond.holds, Cond.value, g1, hi2, g4, g5, Option.bind_some, Option.map_some, h3, h6, h7, g9]
    simp [h8]
  · simp only [Cond.before, Cond.holds, Cond.value, e0] at hr
    simp only [Cond.before, Cond.holds, Cond.value, e1]
    exact hr
def zz_ST (n d : String) (U : State) : Prop := (Cond.laysStatic Bundle.tN n d).before #[] U = true ∧ (Cond.isRef (.static Bundle.tN n d)).before #[] U = true
def zz_S (U : State) : Prop := zz_ST "UNASSIGNED_STACK" Bundle.steD U ∧ zz_ST "SUPPRESSED_SENTINEL" Bundle.listD U
theorem zz_S.move {u U : State} (hvm : u.vm.Alike U.vm) (hh : ∀ q : Nat, q < u.heap.size → U.heap[q]? = u.heap[q]?) (h : zz_S u) : zz_S U :=
  ⟨ks_move hvm hh h.1.1 h.1.2, ks_move hvm hh h.2.1 h.2.2⟩
theorem zz_T.warm {s U : State} (hW : s.WarmedH U.vm) (h : zz_T s) : zz_T U := by
  obtain ⟨h1, h2, h3, h4⟩ := h
  refine ⟨fun w hw => ?_, va_AO.moved hW.alike h2, va_Nc.moved hW.alike h3, fun r hr => ?_⟩
  · have h9 := h1 w hw
    simp only [zz_NT, List.mem_cons, List.not_mem_nil, or_false] at hw
    rcases hw with rfl | rfl | rfl | rfl | rfl | rfl | rfl | rfl | rfl | rfl | rfl | rfl <;> first | exact va_Nw.warmM hW h9 | exact va_Nw.warmC hW h9 | exact va_Nw.warmD hW h9
  · obtain ⟨q, hq⟩ := h4 r hr
    exact ⟨q, vk_R.warm hW hq⟩
/-- the start of a contract: the heap's size, the world, its classes, its cells apart, the tables' other words -/
def zz_B (dC : Nat → ClassId) (dI : Nat → Nat → Nat) (ws : va_W) (tys : List (ClassId × FieldType)) (sz : Nat) : State → Prop := fun U => U.heap.size = sz ∧ va_P (dC, dI) classes ws U.heap ∧ va_K (dC, dI) classes tys U ∧ va_D (fun _ => True) ws ∧ zz_T U
def zz_BS (dC : Nat → ClassId) (dI : Nat → Nat → Nat) (ws : va_W) (tys : List (ClassId × FieldType)) (sz : Nat) : State → Prop := fun U => zz_B dC dI ws tys sz U ∧ zz_S U
theorem zz_T.calling {U : State} {g : JFrame} {mk : MethodId} {a : Array Value} (h : zz_T U) : zz_T (U.calling g mk a) := by
  obtain ⟨h1, h2, h3, h4⟩ := h
  exact ⟨fun w hw => va_Nw.same (u := U) (U := U.calling g mk a) (zz_NT_tab w hw) rfl (h1 w hw), h2, h3, fun r hr => h4 r hr⟩
theorem zz_blind {av : List Value} {dC : Nat → ClassId} {dI : Nat → Nat → Nat} {ws : va_W} {tys : List (ClassId × FieldType)} {sz : Nat} : FrameBlind (va_Pc av (zz_B dC dI ws tys sz)) := by
  intro a U g mk q
  obtain ⟨q0, q1, qP, qK, qD, qT⟩ := q
  exact ⟨q0, q1, qP, va_K.moved (u := U) (U := U.calling g mk a) (Vm.Alike.refl U.vm) qK, qD, qT.calling⟩
theorem zz_blindS {av : List Value} {dC : Nat → ClassId} {dI : Nat → Nat → Nat} {ws : va_W} {tys : List (ClassId × FieldType)} {sz : Nat} : FrameBlind (va_Pc av (zz_BS dC dI ws tys sz)) := by
  intro a U g mk q
  obtain ⟨q0, ⟨q1, qP, qK, qD, qT⟩, qS⟩ := q
  exact ⟨q0, ⟨q1, qP, va_K.moved (u := U) (U := U.calling g mk a) (Vm.Alike.refl U.vm) qK, qD, qT.calling⟩, qS⟩
theorem zz_pre {dC : Nat → ClassId} {dI : Nat → Nat → Nat} {ws : va_W} {tys : List (ClassId × FieldType)} {s : State} {H : Heap} {A : Nat → Prop} (hP : va_P (dC, dI) classes ws H) (hK : va_K (dC, dI) classes tys s) (hD : va_D A ws) (hT : zz_T s) :
    ∀ U : State, U.heap = H → s.WarmedH U.vm → zz_B dC dI ws tys H.size U := fun U hU hW => ⟨by rw [hU], by rw [hU]; exact hP, va_K.moved hW.alike hK, hD.weaken (fun _ _ _ _ => trivial), hT.warm hW⟩
theorem zz_preS {dC : Nat → ClassId} {dI : Nat → Nat → Nat} {ws : va_W} {tys : List (ClassId × FieldType)} {s : State} {H : Heap} {A : Nat → Prop} (hP : va_P (dC, dI) classes ws H) (hK : va_K (dC, dI) classes tys s) (hD : va_D A ws) (hT : zz_T s) (hS : zz_S s) (hh : ∀ q : Nat, q < s.heap.size → H[q]? = s.heap[q]?) :
    ∀ U : State, U.heap = H → s.WarmedH U.vm → zz_BS dC dI ws tys H.size U := fun U hU hW => ⟨zz_pre hP hK hD hT U hU hW, hS.move hW.alike (fun q hq => by rw [hU]; exact hh q hq)⟩
/-- words of a call, out of the one list -/
theorem zz_good {w : Cond} (h : w ∈ zz_W) : w ∈ zz_W ∧ ((w.onTables && w.keeps) = true ∨ ∃ ty, w = .arrayClass ty) := ⟨h, good_of_word (List.all_eq_true.mp zz_W_good w h)⟩
theorem zz_goodC {c : Cond} (h : c ∈ zz_W) : GoodIn zz_W (c :: zz_W) := fun w hw => by
  rcases List.mem_cons.mp hw with rfl | hw
  · exact zz_good h
  · exact zz_good hw
section ZZC
variable {R : Room} {s : State} {args : Array Value} {own C : String} {index maxL mc ms : Nat} {y : MethodName} {bytes : ByteArray} {ret : Option FieldType} {rm : Room}
theorem zz_cB (n : Nat) (hts : ∀ w ∈ zz_W, w.before args s = true) (hl : .methodLink own index y ∈ zz_W) (hc : .code y bytes maxL ret ∈ zz_W) (hini : .initialized y.cls ∈ zz_W) (hrc : rm.cells = mc) (hrs : rm.slots = ms)
    (hd : y.cls ≠ "java/lang/invoke/MethodHandle" ∧ y.cls ≠ "java/lang/invoke/VarHandle" ∧ (parseMethodDescriptor y.desc).map (fun d => d.parameters.length) = some n) (hR : rm.frames + 1 ≤ R.frames ∧ 8 + (maxL + 11) + rm.locals ≤ R.locals) :
    CallB R s args own index y bytes maxL ret (.code y bytes maxL ret :: zz_W) rm mc ms n := callB_of n hts (zz_goodC hc) rfl hrc hrs (hts _ hini) (hts _ hl) hd hR
theorem zz_cV (n : Nat) (hts : ∀ w ∈ zz_W, w.before args s = true) (hl : .methodLink own index y ∈ zz_W) (hc : .code y bytes maxL ret ∈ zz_W) (hini : .initialized y.cls ∈ zz_W) (hi : .instanceMethod y ∈ zz_W) (hsel : .selects C y y ∈ zz_W) (hrc : rm.cells = mc) (hrs : rm.slots = ms)
    (hd : y.cls ≠ "java/lang/invoke/MethodHandle" ∧ y.cls ≠ "java/lang/invoke/VarHandle" ∧ (parseMethodDescriptor y.desc).map (fun d => d.parameters.length) = some n) (hR : rm.frames + 1 ≤ R.frames ∧ 8 + (maxL + 11) + rm.locals ≤ R.locals) :
    CallW R s args own C index y bytes maxL ret (.code y bytes maxL ret :: zz_W) rm mc ms n := ⟨zz_cB n hts hl hc hini hrc hrs hd hR, hts _ hi, hts _ hsel⟩
theorem zz_cI (n : Nat) (hts : ∀ w ∈ zz_W, w.before args s = true) (hl : .methodLink own index y ∈ zz_W) (hc : .code y bytes maxL none ∈ zz_W) (hini : .initialized y.cls ∈ zz_W) (hi : .instanceMethod y ∈ zz_W) (hn : y.name = "<init>") (hrc : rm.cells = mc) (hrs : rm.slots = ms)
    (hd : y.cls ≠ "java/lang/invoke/MethodHandle" ∧ y.cls ≠ "java/lang/invoke/VarHandle" ∧ (parseMethodDescriptor y.desc).map (fun d => d.parameters.length) = some n) (hR : rm.frames + 1 ≤ R.frames ∧ 8 + (maxL + 11) + rm.locals ≤ R.locals) :
    CallB R s args own index y bytes maxL none (.code y bytes maxL none :: zz_W) rm mc ms n ∧ y.name = "<init>" ∧ (Cond.instanceMethod y).before args s = true := ⟨zz_cB n hts hl hc hini hrc hrs hd hR, hn, hts _ hi⟩
theorem zz_cS (n : Nat) (hts : ∀ w ∈ zz_W, w.before args s = true) (hl : .methodLink own index y ∈ zz_W) (hc : .code y bytes maxL ret ∈ zz_W) (hini : .initialized y.cls ∈ zz_W) (hst : .static y ∈ zz_W) (hrc : rm.cells = mc) (hrs : rm.slots = ms)
    (hd : y.cls ≠ "java/lang/invoke/MethodHandle" ∧ y.cls ≠ "java/lang/invoke/VarHandle" ∧ (parseMethodDescriptor y.desc).map (fun d => d.parameters.length) = some n) (hR : rm.frames + 1 ≤ R.frames ∧ 8 + (maxL + 11) + rm.locals ≤ R.locals) :
    CallB R s args own index y bytes maxL ret (.code y bytes maxL ret :: zz_W) rm mc ms n ∧ (Cond.static y).before args s = true := ⟨zz_cB n hts hl hc hini hrc hrs hd hR, hts _ hst⟩
theorem zz_cN {host : String} (n : Nat) (hts : ∀ w ∈ zz_W, w.before args s = true) (hT : zz_T s) (hl : .methodLinkNest own index y host ∈ zz_NT) (hc : .code y bytes maxL ret ∈ zz_W) (hini : .initialized y.cls ∈ zz_W) (hrc : rm.cells = mc) (hrs : rm.slots = ms)
    (hd : y.cls ≠ "java/lang/invoke/MethodHandle" ∧ y.cls ≠ "java/lang/invoke/VarHandle" ∧ (parseMethodDescriptor y.desc).map (fun d => d.parameters.length) = some n) (hR : rm.frames + 1 ≤ R.frames ∧ 8 + (maxL + 11) + rm.locals ≤ R.locals) :
    va_CN R s args own index y host bytes maxL ret (.code y bytes maxL ret :: zz_W) rm mc ms n := va_cnB n hts (zz_goodC hc) rfl hrc hrs (hT.1 _ hl) (hts _ hini) hd hR
end ZZC

theorem zz_D0 {A : Nat → Prop} : va_D A [] := ⟨fun i j p q h => by simp at h, fun k q h => by simp at h⟩
theorem zz_A0 {sz q : Nat} (h : va_A [] sz q) : sz ≤ q := by
  rcases h with ⟨k, e, h⟩ | h
  · simp at h
  · exact h
theorem zz_Af {A : Nat → Prop} {H0 H : Heap} {locs : List Loc} {q : Nat} (hS : va_S A H0 H locs) (hA : ∀ q, H0.size ≤ q → A q) (h : va_A [] H.size q) : A q := hA q (Nat.le_trans hS.1 (zz_A0 h))
theorem zz_keep {D : va_G} {cl : List vw_C} {ws : va_W} {H H1 : Heap} (hP : va_P D cl ws H) (hk : ∀ q : Nat, q < H.size → ¬ va_A [] H.size q → H1[q]? = H[q]?) : va_P D cl ws H1 := fun k q h => (hP k q h).kept (hk q.1 (hP k q h).lt (fun z => absurd (zz_A0 z) (Nat.not_le.mpr (hP k q h).lt)))
theorem zz_keep2 {D : va_G} {cl : List vw_C} {ws : va_W} {H H1 : Heap} (hP : va_P D cl ws H) (hk : ∀ q : Nat, q < H.size → H1[q]? = H[q]?) : va_P D cl ws H1 := fun k q h => (hP k q h).kept (hk q.1 (hP k q h).lt)
theorem zz_Sg {A : Nat → Prop} {H0 H H1 : Heap} {locs : List Loc} (hS : va_S A H0 H locs) (hz : H.size ≤ H1.size) (hk : ∀ q : Nat, q < H.size → H1[q]? = H[q]?) : va_S A H0 H1 locs := ⟨Nat.le_trans hS.1 hz, fun q h1 h2 => (hk q (Nat.lt_of_lt_of_le h1 hS.1)).trans (hS.2.1 q h1 h2), hS.2.2⟩
theorem zz_S.st {args : Array Value} {s : State} (h : zz_S s) : th_st args s := ⟨h.1.2, h.2.2⟩
theorem zz_up {args : Array Value} {s : State} (hts : ∀ w ∈ zz_W, w.before args s = true) (hT : zz_T s) (hZ : zz_S s) : ∀ a ∈ th_up, a.before args s = true := by
  intro a ha
  rcases zz_up_in a ha with h | h | rfl | rfl
  · exact hts a h
  · exact va_Nw.use (zz_NT_tab a h) (hT.1 a h)
  · exact hZ.1.1
  · exact hZ.2.1
theorem zz_own_IAE {args : Array Value} {s : State} (hts : ∀ w ∈ zz_W, w.before args s = true) (hT : zz_T s) : ∀ a ∈ th_own R_FG 69 E_IAE 7 prog_17_method_2_code, a.before args s = true := by
  intro a ha
  rcases zz_ow_IAE a ha with h | h
  · exact hts a h
  · exact va_Nw.use (zz_NT_tab a h) (hT.1 a h)
theorem zz_own_ISE {args : Array Value} {s : State} (hts : ∀ w ∈ zz_W, w.before args s = true) (hT : zz_T s) : ∀ a ∈ th_own R_FG 80 E_ISE 7 prog_18_method_2_code, a.before args s = true := by
  intro a ha
  rcases zz_ow_ISE a ha with h | h
  · exact hts a h
  · exact va_Nw.use (zz_NT_tab a h) (hT.1 a h)
theorem zz_own_IOE {args : Array Value} {s : State} (hts : ∀ w ∈ zz_W, w.before args s = true) (hT : zz_T s) : ∀ a ∈ th_own R_FG 109 E_IOE 7 prog_19_method_2_code, a.before args s = true := by
  intro a ha
  rcases zz_ow_IOE a ha with h | h
  · exact hts a h
  · exact va_Nw.use (zz_NT_tab a h) (hT.1 a h)
theorem zz_own_NSE {args : Array Value} {s : State} (hts : ∀ w ∈ zz_W, w.before args s = true) (hT : zz_T s) : ∀ a ∈ th_own R_FG 130 E_NSE 13 prog_28_method_4_code, a.before args s = true := by
  intro a ha
  rcases zz_ow_NSE a ha with h | h
  · exact hts a h
  · exact va_Nw.use (zz_NT_tab a h) (hT.1 a h)
theorem zz_goodS {own : String} {index : Nat} {y : MethodName} {cw : Cond} (hl : .methodLink own index y ∈ zz_W) (hs : .static y ∈ zz_W) (hi : .initialized own ∈ zz_W) (hc : cw ∈ zz_W) : GoodIn zz_W (wsS own index y (cw :: zz_W)) := by
  intro w hw
  simp only [wsS, List.mem_append, List.mem_cons, List.not_mem_nil, or_false] at hw
  rcases hw with (rfl | rfl | rfl) | rfl | hw
  · exact zz_good hl
  · exact zz_good hs
  · exact zz_good hi
  · exact zz_good hc
  · exact zz_good hw
theorem zz_m1 {i : Int32} (h1 : ¬ i < 0) (h2 : ¬ (-1 : Int32) < i) : False := by
  rw [Int32.lt_iff_toInt_lt] at h1 h2
  have e0 : (0 : Int32).toInt = 0 := by decide
  have e1 : (-1 : Int32).toInt = -1 := by decide
  omega
theorem zz_z0 {i : Int32} (h1 : ¬ i < 0) (h2 : ¬ (0 : Int32) < i) : i = 0 := by
  rw [Int32.lt_iff_toInt_lt] at h1 h2
  have e0 : (0 : Int32).toInt = 0 := by decide
  exact Int32.toInt_inj.mp (by omega)
end
section
theorem d_Ch_init_0 : decode prog_3_method_1_code 0 = .ok (.aload_n 0, 1) := by decide +kernel
theorem d_Ch_init_1 : decode prog_3_method_1_code 1 = .ok (.invokespecial 3, 3) := by decide +kernel
theorem d_Ch_init_102 : decode prog_3_method_1_code 102 = .ok (.dup, 1) := by decide +kernel
theorem d_Ch_init_103 : decode prog_3_method_1_code 103 = .ok (.invokespecial 11, 3) := by decide +kernel
theorem d_Ch_init_106 : decode prog_3_method_1_code 106 = .ok (.aastore, 1) := by decide +kernel
theorem d_Ch_init_107 : decode prog_3_method_1_code 107 = .ok (.iinc 4 1, 3) := by decide +kernel
theorem d_Ch_init_110 : decode prog_3_method_1_code 110 = .ok (.goto (-24), 3) := by decide +kernel
theorem d_Ch_init_113 : decode prog_3_method_1_code 113 = .ok (.aload_n 0, 1) := by decide +kernel
theorem d_Ch_init_114 : decode prog_3_method_1_code 114 = .ok (.iconst (-1), 1) := by decide +kernel
theorem d_Ch_init_115 : decode prog_3_method_1_code 115 = .ok (.putfield 50, 3) := by decide +kernel
theorem d_Ch_init_118 : decode prog_3_method_1_code 118 = .ok (.return_, 1) := by decide +kernel
theorem d_Ch_init_12 : decode prog_3_method_1_code 12 = .ok (.putfield 12, 3) := by decide +kernel
theorem d_Ch_init_15 : decode prog_3_method_1_code 15 = .ok (.aload_n 0, 1) := by decide +kernel
theorem d_Ch_init_16 : decode prog_3_method_1_code 16 = .ok (.new 9, 3) := by decide +kernel
theorem d_Ch_init_19 : decode prog_3_method_1_code 19 = .ok (.dup, 1) := by decide +kernel
theorem d_Ch_init_20 : decode prog_3_method_1_code 20 = .ok (.invokespecial 11, 3) := by decide +kernel
theorem d_Ch_init_23 : decode prog_3_method_1_code 23 = .ok (.putfield 18, 3) := by decide +kernel
theorem d_Ch_init_26 : decode prog_3_method_1_code 26 = .ok (.aload_n 0, 1) := by decide +kernel
theorem d_Ch_init_27 : decode prog_3_method_1_code 27 = .ok (.bipush 100, 2) := by decide +kernel
theorem d_Ch_init_29 : decode prog_3_method_1_code 29 = .ok (.anewarray 9, 3) := by decide +kernel
theorem d_Ch_init_32 : decode prog_3_method_1_code 32 = .ok (.putfield 21, 3) := by decide +kernel
theorem d_Ch_init_35 : decode prog_3_method_1_code 35 = .ok (.aload_n 0, 1) := by decide +kernel
theorem d_Ch_init_36 : decode prog_3_method_1_code 36 = .ok (.new 25, 3) := by decide +kernel
theorem d_Ch_init_39 : decode prog_3_method_1_code 39 = .ok (.dup, 1) := by decide +kernel
theorem d_Ch_init_4 : decode prog_3_method_1_code 4 = .ok (.aload_n 0, 1) := by decide +kernel
theorem d_Ch_init_40 : decode prog_3_method_1_code 40 = .ok (.invokespecial 27, 3) := by decide +kernel
theorem d_Ch_init_43 : decode prog_3_method_1_code 43 = .ok (.putfield 28, 3) := by decide +kernel
theorem d_Ch_init_46 : decode prog_3_method_1_code 46 = .ok (.aload_n 0, 1) := by decide +kernel
theorem d_Ch_init_47 : decode prog_3_method_1_code 47 = .ok (.new 25, 3) := by decide +kernel
theorem d_Ch_init_5 : decode prog_3_method_1_code 5 = .ok (.new 9, 3) := by decide +kernel
theorem d_Ch_init_50 : decode prog_3_method_1_code 50 = .ok (.dup, 1) := by decide +kernel
theorem d_Ch_init_51 : decode prog_3_method_1_code 51 = .ok (.invokespecial 27, 3) := by decide +kernel
theorem d_Ch_init_54 : decode prog_3_method_1_code 54 = .ok (.putfield 32, 3) := by decide +kernel
theorem d_Ch_init_57 : decode prog_3_method_1_code 57 = .ok (.aload_n 0, 1) := by decide +kernel
theorem d_Ch_init_58 : decode prog_3_method_1_code 58 = .ok (.new 25, 3) := by decide +kernel
theorem d_Ch_init_61 : decode prog_3_method_1_code 61 = .ok (.dup, 1) := by decide +kernel
theorem d_Ch_init_62 : decode prog_3_method_1_code 62 = .ok (.invokespecial 27, 3) := by decide +kernel
theorem d_Ch_init_65 : decode prog_3_method_1_code 65 = .ok (.putfield 35, 3) := by decide +kernel
theorem d_Ch_init_68 : decode prog_3_method_1_code 68 = .ok (.aload_n 0, 1) := by decide +kernel
theorem d_Ch_init_69 : decode prog_3_method_1_code 69 = .ok (.aload_n 1, 1) := by decide +kernel
theorem d_Ch_init_70 : decode prog_3_method_1_code 70 = .ok (.putfield 38, 3) := by decide +kernel
theorem d_Ch_init_73 : decode prog_3_method_1_code 73 = .ok (.aload_n 0, 1) := by decide +kernel
theorem d_Ch_init_74 : decode prog_3_method_1_code 74 = .ok (.aload_n 2, 1) := by decide +kernel
theorem d_Ch_init_75 : decode prog_3_method_1_code 75 = .ok (.putfield 42, 3) := by decide +kernel
theorem d_Ch_init_78 : decode prog_3_method_1_code 78 = .ok (.aload_n 0, 1) := by decide +kernel
theorem d_Ch_init_79 : decode prog_3_method_1_code 79 = .ok (.aload_n 3, 1) := by decide +kernel
theorem d_Ch_init_8 : decode prog_3_method_1_code 8 = .ok (.dup, 1) := by decide +kernel
theorem d_Ch_init_80 : decode prog_3_method_1_code 80 = .ok (.putfield 46, 3) := by decide +kernel
theorem d_Ch_init_83 : decode prog_3_method_1_code 83 = .ok (.iconst 0, 1) := by decide +kernel
theorem d_Ch_init_84 : decode prog_3_method_1_code 84 = .ok (.istore 4, 2) := by decide +kernel
theorem d_Ch_init_86 : decode prog_3_method_1_code 86 = .ok (.iload 4, 2) := by decide +kernel
theorem d_Ch_init_88 : decode prog_3_method_1_code 88 = .ok (.bipush 100, 2) := by decide +kernel
theorem d_Ch_init_9 : decode prog_3_method_1_code 9 = .ok (.invokespecial 11, 3) := by decide +kernel
theorem d_Ch_init_90 : decode prog_3_method_1_code 90 = .ok (.if_icmp .ge 23, 3) := by decide +kernel
theorem d_Ch_init_93 : decode prog_3_method_1_code 93 = .ok (.aload_n 0, 1) := by decide +kernel
theorem d_Ch_init_94 : decode prog_3_method_1_code 94 = .ok (.getfield 21, 3) := by decide +kernel
theorem d_Ch_init_97 : decode prog_3_method_1_code 97 = .ok (.iload 4, 2) := by decide +kernel
theorem d_Ch_init_99 : decode prog_3_method_1_code 99 = .ok (.new 9, 3) := by decide +kernel
theorem d_FG_init_0 : decode prog_1_method_1_code 0 = .ok (.aload_n 0, 1) := by decide +kernel
theorem d_FG_init_1 : decode prog_1_method_1_code 1 = .ok (.invokespecial 3, 3) := by decide +kernel
theorem d_FG_init_100 : decode prog_1_method_1_code 100 = .ok (.putfield 57, 3) := by decide +kernel
theorem d_FG_init_103 : decode prog_1_method_1_code 103 = .ok (.return_, 1) := by decide +kernel
theorem d_FG_init_12 : decode prog_1_method_1_code 12 = .ok (.putfield 12, 3) := by decide +kernel
theorem d_FG_init_15 : decode prog_1_method_1_code 15 = .ok (.aload_n 0, 1) := by decide +kernel
theorem d_FG_init_16 : decode prog_1_method_1_code 16 = .ok (.new 16, 3) := by decide +kernel
theorem d_FG_init_19 : decode prog_1_method_1_code 19 = .ok (.dup, 1) := by decide +kernel
theorem d_FG_init_20 : decode prog_1_method_1_code 20 = .ok (.invokespecial 18, 3) := by decide +kernel
theorem d_FG_init_23 : decode prog_1_method_1_code 23 = .ok (.putfield 19, 3) := by decide +kernel
theorem d_FG_init_26 : decode prog_1_method_1_code 26 = .ok (.aload_n 0, 1) := by decide +kernel
theorem d_FG_init_27 : decode prog_1_method_1_code 27 = .ok (.new 23, 3) := by decide +kernel
theorem d_FG_init_30 : decode prog_1_method_1_code 30 = .ok (.dup, 1) := by decide +kernel
theorem d_FG_init_31 : decode prog_1_method_1_code 31 = .ok (.aload_n 0, 1) := by decide +kernel
theorem d_FG_init_32 : decode prog_1_method_1_code 32 = .ok (.getfield 19, 3) := by decide +kernel
theorem d_FG_init_35 : decode prog_1_method_1_code 35 = .ok (.invokespecial 25, 3) := by decide +kernel
theorem d_FG_init_38 : decode prog_1_method_1_code 38 = .ok (.putfield 28, 3) := by decide +kernel
theorem d_FG_init_4 : decode prog_1_method_1_code 4 = .ok (.aload_n 0, 1) := by decide +kernel
theorem d_FG_init_41 : decode prog_1_method_1_code 41 = .ok (.aload_n 0, 1) := by decide +kernel
theorem d_FG_init_42 : decode prog_1_method_1_code 42 = .ok (.new 32, 3) := by decide +kernel
theorem d_FG_init_45 : decode prog_1_method_1_code 45 = .ok (.dup, 1) := by decide +kernel
theorem d_FG_init_46 : decode prog_1_method_1_code 46 = .ok (.invokespecial 34, 3) := by decide +kernel
theorem d_FG_init_49 : decode prog_1_method_1_code 49 = .ok (.putfield 35, 3) := by decide +kernel
theorem d_FG_init_5 : decode prog_1_method_1_code 5 = .ok (.new 9, 3) := by decide +kernel
theorem d_FG_init_52 : decode prog_1_method_1_code 52 = .ok (.aload_n 0, 1) := by decide +kernel
theorem d_FG_init_53 : decode prog_1_method_1_code 53 = .ok (.new 39, 3) := by decide +kernel
theorem d_FG_init_56 : decode prog_1_method_1_code 56 = .ok (.dup, 1) := by decide +kernel
theorem d_FG_init_57 : decode prog_1_method_1_code 57 = .ok (.aload_n 0, 1) := by decide +kernel
theorem d_FG_init_58 : decode prog_1_method_1_code 58 = .ok (.getfield 12, 3) := by decide +kernel
theorem d_FG_init_61 : decode prog_1_method_1_code 61 = .ok (.aload_n 0, 1) := by decide +kernel
theorem d_FG_init_62 : decode prog_1_method_1_code 62 = .ok (.getfield 19, 3) := by decide +kernel
theorem d_FG_init_65 : decode prog_1_method_1_code 65 = .ok (.aload_n 0, 1) := by decide +kernel
theorem d_FG_init_66 : decode prog_1_method_1_code 66 = .ok (.getfield 35, 3) := by decide +kernel
theorem d_FG_init_69 : decode prog_1_method_1_code 69 = .ok (.invokespecial 41, 3) := by decide +kernel
theorem d_FG_init_72 : decode prog_1_method_1_code 72 = .ok (.putfield 44, 3) := by decide +kernel
theorem d_FG_init_75 : decode prog_1_method_1_code 75 = .ok (.aload_n 0, 1) := by decide +kernel
theorem d_FG_init_76 : decode prog_1_method_1_code 76 = .ok (.new 48, 3) := by decide +kernel
theorem d_FG_init_79 : decode prog_1_method_1_code 79 = .ok (.dup, 1) := by decide +kernel
theorem d_FG_init_8 : decode prog_1_method_1_code 8 = .ok (.dup, 1) := by decide +kernel
theorem d_FG_init_80 : decode prog_1_method_1_code 80 = .ok (.aload_n 0, 1) := by decide +kernel
theorem d_FG_init_81 : decode prog_1_method_1_code 81 = .ok (.getfield 12, 3) := by decide +kernel
theorem d_FG_init_84 : decode prog_1_method_1_code 84 = .ok (.aload_n 0, 1) := by decide +kernel
theorem d_FG_init_85 : decode prog_1_method_1_code 85 = .ok (.getfield 35, 3) := by decide +kernel
theorem d_FG_init_88 : decode prog_1_method_1_code 88 = .ok (.aload_n 0, 1) := by decide +kernel
theorem d_FG_init_89 : decode prog_1_method_1_code 89 = .ok (.getfield 28, 3) := by decide +kernel
theorem d_FG_init_9 : decode prog_1_method_1_code 9 = .ok (.invokespecial 11, 3) := by decide +kernel
theorem d_FG_init_92 : decode prog_1_method_1_code 92 = .ok (.invokespecial 50, 3) := by decide +kernel
theorem d_FG_init_95 : decode prog_1_method_1_code 95 = .ok (.putfield 53, 3) := by decide +kernel
theorem d_FG_init_98 : decode prog_1_method_1_code 98 = .ok (.aload_n 0, 1) := by decide +kernel
theorem d_FG_init_99 : decode prog_1_method_1_code 99 = .ok (.iconst 0, 1) := by decide +kernel
theorem d_FG_within_0 : decode prog_1_method_15_code 0 = .ok (.iload_n 0, 1) := by decide +kernel
theorem d_FG_within_1 : decode prog_1_method_15_code 1 = .ok (.iload_n 1, 1) := by decide +kernel
theorem d_FG_within_10 : decode prog_1_method_15_code 10 = .ok (.iconst 1, 1) := by decide +kernel
theorem d_FG_within_11 : decode prog_1_method_15_code 11 = .ok (.goto 4, 3) := by decide +kernel
theorem d_FG_within_14 : decode prog_1_method_15_code 14 = .ok (.iconst 0, 1) := by decide +kernel
theorem d_FG_within_15 : decode prog_1_method_15_code 15 = .ok (.ireturn, 1) := by decide +kernel
theorem d_FG_within_2 : decode prog_1_method_15_code 2 = .ok (.if_icmp .lt 12, 3) := by decide +kernel
theorem d_FG_within_5 : decode prog_1_method_15_code 5 = .ok (.iload_n 0, 1) := by decide +kernel
theorem d_FG_within_6 : decode prog_1_method_15_code 6 = .ok (.iload_n 2, 1) := by decide +kernel
theorem d_FG_within_7 : decode prog_1_method_15_code 7 = .ok (.if_icmp .gt 7, 3) := by decide +kernel
theorem d_Fo_init_0 : decode prog_4_method_1_code 0 = .ok (.aload_n 0, 1) := by decide +kernel
theorem d_Fo_init_1 : decode prog_4_method_1_code 1 = .ok (.invokespecial 3, 3) := by decide +kernel
theorem d_Fo_init_10 : decode prog_4_method_1_code 10 = .ok (.putfield 9, 3) := by decide +kernel
theorem d_Fo_init_13 : decode prog_4_method_1_code 13 = .ok (.aload_n 0, 1) := by decide +kernel
theorem d_Fo_init_14 : decode prog_4_method_1_code 14 = .ok (.sipush 2200, 3) := by decide +kernel
theorem d_Fo_init_17 : decode prog_4_method_1_code 17 = .ok (.newarray .boolean, 2) := by decide +kernel
theorem d_Fo_init_19 : decode prog_4_method_1_code 19 = .ok (.putfield 15, 3) := by decide +kernel
theorem d_Fo_init_22 : decode prog_4_method_1_code 22 = .ok (.aload_n 0, 1) := by decide +kernel
theorem d_Fo_init_23 : decode prog_4_method_1_code 23 = .ok (.sipush 2200, 3) := by decide +kernel
theorem d_Fo_init_26 : decode prog_4_method_1_code 26 = .ok (.newarray .long, 2) := by decide +kernel
theorem d_Fo_init_28 : decode prog_4_method_1_code 28 = .ok (.putfield 19, 3) := by decide +kernel
theorem d_Fo_init_31 : decode prog_4_method_1_code 31 = .ok (.aload_n 0, 1) := by decide +kernel
theorem d_Fo_init_32 : decode prog_4_method_1_code 32 = .ok (.sipush 2200, 3) := by decide +kernel
theorem d_Fo_init_35 : decode prog_4_method_1_code 35 = .ok (.newarray .long, 2) := by decide +kernel
theorem d_Fo_init_37 : decode prog_4_method_1_code 37 = .ok (.putfield 23, 3) := by decide +kernel
theorem d_Fo_init_4 : decode prog_4_method_1_code 4 = .ok (.aload_n 0, 1) := by decide +kernel
theorem d_Fo_init_40 : decode prog_4_method_1_code 40 = .ok (.return_, 1) := by decide +kernel
theorem d_Fo_init_5 : decode prog_4_method_1_code 5 = .ok (.sipush 200, 3) := by decide +kernel
theorem d_Fo_init_8 : decode prog_4_method_1_code 8 = .ok (.newarray .int, 2) := by decide +kernel
theorem d_Ma_init_0 : decode prog_5_method_1_code 0 = .ok (.aload_n 0, 1) := by decide +kernel
theorem d_Ma_init_1 : decode prog_5_method_1_code 1 = .ok (.invokespecial 3, 3) := by decide +kernel
theorem d_Ma_init_11 : decode prog_5_method_1_code 11 = .ok (.aload_n 0, 1) := by decide +kernel
theorem d_Ma_init_12 : decode prog_5_method_1_code 12 = .ok (.iconst 4, 1) := by decide +kernel
theorem d_Ma_init_13 : decode prog_5_method_1_code 13 = .ok (.newarray .int, 2) := by decide +kernel
theorem d_Ma_init_15 : decode prog_5_method_1_code 15 = .ok (.putfield 15, 3) := by decide +kernel
theorem d_Ma_init_18 : decode prog_5_method_1_code 18 = .ok (.aload_n 0, 1) := by decide +kernel
theorem d_Ma_init_19 : decode prog_5_method_1_code 19 = .ok (.sipush 4096, 3) := by decide +kernel
theorem d_Ma_init_22 : decode prog_5_method_1_code 22 = .ok (.newarray .byte, 2) := by decide +kernel
theorem d_Ma_init_24 : decode prog_5_method_1_code 24 = .ok (.putfield 18, 3) := by decide +kernel
theorem d_Ma_init_27 : decode prog_5_method_1_code 27 = .ok (.aload_n 0, 1) := by decide +kernel
theorem d_Ma_init_28 : decode prog_5_method_1_code 28 = .ok (.bipush 8, 2) := by decide +kernel
theorem d_Ma_init_30 : decode prog_5_method_1_code 30 = .ok (.newarray .byte, 2) := by decide +kernel
theorem d_Ma_init_32 : decode prog_5_method_1_code 32 = .ok (.putfield 22, 3) := by decide +kernel
theorem d_Ma_init_35 : decode prog_5_method_1_code 35 = .ok (.aload_n 0, 1) := by decide +kernel
theorem d_Ma_init_36 : decode prog_5_method_1_code 36 = .ok (.iconst 4, 1) := by decide +kernel
theorem d_Ma_init_37 : decode prog_5_method_1_code 37 = .ok (.newarray .int, 2) := by decide +kernel
theorem d_Ma_init_39 : decode prog_5_method_1_code 39 = .ok (.putfield 25, 3) := by decide +kernel
theorem d_Ma_init_4 : decode prog_5_method_1_code 4 = .ok (.aload_n 0, 1) := by decide +kernel
theorem d_Ma_init_42 : decode prog_5_method_1_code 42 = .ok (.aload_n 0, 1) := by decide +kernel
theorem d_Ma_init_43 : decode prog_5_method_1_code 43 = .ok (.bipush 64, 2) := by decide +kernel
theorem d_Ma_init_45 : decode prog_5_method_1_code 45 = .ok (.newarray .boolean, 2) := by decide +kernel
theorem d_Ma_init_47 : decode prog_5_method_1_code 47 = .ok (.putfield 28, 3) := by decide +kernel
theorem d_Ma_init_5 : decode prog_5_method_1_code 5 = .ok (.iconst 4, 1) := by decide +kernel
theorem d_Ma_init_50 : decode prog_5_method_1_code 50 = .ok (.aload_n 0, 1) := by decide +kernel
theorem d_Ma_init_51 : decode prog_5_method_1_code 51 = .ok (.sipush 512, 3) := by decide +kernel
theorem d_Ma_init_54 : decode prog_5_method_1_code 54 = .ok (.newarray .byte, 2) := by decide +kernel
theorem d_Ma_init_56 : decode prog_5_method_1_code 56 = .ok (.putfield 32, 3) := by decide +kernel
theorem d_Ma_init_59 : decode prog_5_method_1_code 59 = .ok (.return_, 1) := by decide +kernel
theorem d_Ma_init_6 : decode prog_5_method_1_code 6 = .ok (.newarray .int, 2) := by decide +kernel
theorem d_Ma_init_8 : decode prog_5_method_1_code 8 = .ok (.putfield 9, 3) := by decide +kernel
theorem d_Me_init_0 : decode prog_6_method_1_code 0 = .ok (.aload_n 0, 1) := by decide +kernel
theorem d_Me_init_1 : decode prog_6_method_1_code 1 = .ok (.invokespecial 3, 3) := by decide +kernel
theorem d_Me_init_10 : decode prog_6_method_1_code 10 = .ok (.putfield 9, 3) := by decide +kernel
theorem d_Me_init_13 : decode prog_6_method_1_code 13 = .ok (.aload_n 0, 1) := by decide +kernel
theorem d_Me_init_14 : decode prog_6_method_1_code 14 = .ok (.bipush 64, 2) := by decide +kernel
theorem d_Me_init_16 : decode prog_6_method_1_code 16 = .ok (.newarray .byte, 2) := by decide +kernel
theorem d_Me_init_18 : decode prog_6_method_1_code 18 = .ok (.putfield 15, 3) := by decide +kernel
theorem d_Me_init_21 : decode prog_6_method_1_code 21 = .ok (.aload_n 0, 1) := by decide +kernel
theorem d_Me_init_22 : decode prog_6_method_1_code 22 = .ok (.aload_n 1, 1) := by decide +kernel
theorem d_Me_init_23 : decode prog_6_method_1_code 23 = .ok (.putfield 18, 3) := by decide +kernel
theorem d_Me_init_26 : decode prog_6_method_1_code 26 = .ok (.return_, 1) := by decide +kernel
theorem d_Me_init_4 : decode prog_6_method_1_code 4 = .ok (.aload_n 0, 1) := by decide +kernel
theorem d_Me_init_5 : decode prog_6_method_1_code 5 = .ok (.sipush 400, 3) := by decide +kernel
theorem d_Me_init_8 : decode prog_6_method_1_code 8 = .ok (.newarray .byte, 2) := by decide +kernel
theorem d_Mo_init_0 : decode prog_14_method_1_code 0 = .ok (.aload_n 0, 1) := by decide +kernel
theorem d_Mo_init_1 : decode prog_14_method_1_code 1 = .ok (.invokespecial 5, 3) := by decide +kernel
theorem d_Mo_init_10 : decode prog_14_method_1_code 10 = .ok (.putfield 11, 3) := by decide +kernel
theorem d_Mo_init_102 : decode prog_14_method_1_code 102 = .ok (.aload_n 0, 1) := by decide +kernel
theorem d_Mo_init_103 : decode prog_14_method_1_code 103 = .ok (.sipush 1938, 3) := by decide +kernel
theorem d_Mo_init_106 : decode prog_14_method_1_code 106 = .ok (.newarray .long, 2) := by decide +kernel
theorem d_Mo_init_108 : decode prog_14_method_1_code 108 = .ok (.putfield 49, 3) := by decide +kernel
theorem d_Mo_init_111 : decode prog_14_method_1_code 111 = .ok (.aload_n 0, 1) := by decide +kernel
theorem d_Mo_init_112 : decode prog_14_method_1_code 112 = .ok (.sipush 1938, 3) := by decide +kernel
theorem d_Mo_init_115 : decode prog_14_method_1_code 115 = .ok (.newarray .long, 2) := by decide +kernel
theorem d_Mo_init_117 : decode prog_14_method_1_code 117 = .ok (.putfield 53, 3) := by decide +kernel
theorem d_Mo_init_120 : decode prog_14_method_1_code 120 = .ok (.aload_n 0, 1) := by decide +kernel
theorem d_Mo_init_121 : decode prog_14_method_1_code 121 = .ok (.sipush 6528, 3) := by decide +kernel
theorem d_Mo_init_124 : decode prog_14_method_1_code 124 = .ok (.newarray .int, 2) := by decide +kernel
theorem d_Mo_init_126 : decode prog_14_method_1_code 126 = .ok (.putfield 56, 3) := by decide +kernel
theorem d_Mo_init_129 : decode prog_14_method_1_code 129 = .ok (.aload_n 0, 1) := by decide +kernel
theorem d_Mo_init_13 : decode prog_14_method_1_code 13 = .ok (.aload_n 0, 1) := by decide +kernel
theorem d_Mo_init_130 : decode prog_14_method_1_code 130 = .ok (.bipush 102, 2) := by decide +kernel
theorem d_Mo_init_132 : decode prog_14_method_1_code 132 = .ok (.newarray .int, 2) := by decide +kernel
theorem d_Mo_init_134 : decode prog_14_method_1_code 134 = .ok (.putfield 59, 3) := by decide +kernel
theorem d_Mo_init_137 : decode prog_14_method_1_code 137 = .ok (.aload_n 0, 1) := by decide +kernel
theorem d_Mo_init_138 : decode prog_14_method_1_code 138 = .ok (.bipush 102, 2) := by decide +kernel
theorem d_Mo_init_14 : decode prog_14_method_1_code 14 = .ok (.sipush 200, 3) := by decide +kernel
theorem d_Mo_init_140 : decode prog_14_method_1_code 140 = .ok (.newarray .int, 2) := by decide +kernel
theorem d_Mo_init_142 : decode prog_14_method_1_code 142 = .ok (.putfield 62, 3) := by decide +kernel
theorem d_Mo_init_145 : decode prog_14_method_1_code 145 = .ok (.aload_n 0, 1) := by decide +kernel
theorem d_Mo_init_146 : decode prog_14_method_1_code 146 = .ok (.sipush 200, 3) := by decide +kernel
theorem d_Mo_init_149 : decode prog_14_method_1_code 149 = .ok (.newarray .int, 2) := by decide +kernel
theorem d_Mo_init_151 : decode prog_14_method_1_code 151 = .ok (.putfield 65, 3) := by decide +kernel
theorem d_Mo_init_154 : decode prog_14_method_1_code 154 = .ok (.aload_n 0, 1) := by decide +kernel
theorem d_Mo_init_155 : decode prog_14_method_1_code 155 = .ok (.sipush 2200, 3) := by decide +kernel
theorem d_Mo_init_158 : decode prog_14_method_1_code 158 = .ok (.newarray .int, 2) := by decide +kernel
theorem d_Mo_init_160 : decode prog_14_method_1_code 160 = .ok (.putfield 68, 3) := by decide +kernel
theorem d_Mo_init_163 : decode prog_14_method_1_code 163 = .ok (.aload_n 0, 1) := by decide +kernel
theorem d_Mo_init_164 : decode prog_14_method_1_code 164 = .ok (.sipush 2200, 3) := by decide +kernel
theorem d_Mo_init_167 : decode prog_14_method_1_code 167 = .ok (.newarray .long, 2) := by decide +kernel
theorem d_Mo_init_169 : decode prog_14_method_1_code 169 = .ok (.putfield 71, 3) := by decide +kernel
theorem d_Mo_init_17 : decode prog_14_method_1_code 17 = .ok (.newarray .int, 2) := by decide +kernel
theorem d_Mo_init_172 : decode prog_14_method_1_code 172 = .ok (.aload_n 0, 1) := by decide +kernel
theorem d_Mo_init_173 : decode prog_14_method_1_code 173 = .ok (.sipush 2200, 3) := by decide +kernel
theorem d_Mo_init_176 : decode prog_14_method_1_code 176 = .ok (.newarray .long, 2) := by decide +kernel
theorem d_Mo_init_178 : decode prog_14_method_1_code 178 = .ok (.putfield 74, 3) := by decide +kernel
theorem d_Mo_init_181 : decode prog_14_method_1_code 181 = .ok (.aload_n 0, 1) := by decide +kernel
theorem d_Mo_init_182 : decode prog_14_method_1_code 182 = .ok (.sipush 400, 3) := by decide +kernel
theorem d_Mo_init_185 : decode prog_14_method_1_code 185 = .ok (.newarray .byte, 2) := by decide +kernel
theorem d_Mo_init_187 : decode prog_14_method_1_code 187 = .ok (.putfield 77, 3) := by decide +kernel
theorem d_Mo_init_19 : decode prog_14_method_1_code 19 = .ok (.putfield 15, 3) := by decide +kernel
theorem d_Mo_init_190 : decode prog_14_method_1_code 190 = .ok (.aload_n 0, 1) := by decide +kernel
theorem d_Mo_init_191 : decode prog_14_method_1_code 191 = .ok (.sipush 4608, 3) := by decide +kernel
theorem d_Mo_init_194 : decode prog_14_method_1_code 194 = .ok (.newarray .byte, 2) := by decide +kernel
theorem d_Mo_init_196 : decode prog_14_method_1_code 196 = .ok (.putfield 81, 3) := by decide +kernel
theorem d_Mo_init_199 : decode prog_14_method_1_code 199 = .ok (.aload_n 0, 1) := by decide +kernel
theorem d_Mo_init_200 : decode prog_14_method_1_code 200 = .ok (.bipush 64, 2) := by decide +kernel
theorem d_Mo_init_202 : decode prog_14_method_1_code 202 = .ok (.newarray .boolean, 2) := by decide +kernel
theorem d_Mo_init_204 : decode prog_14_method_1_code 204 = .ok (.putfield 84, 3) := by decide +kernel
theorem d_Mo_init_207 : decode prog_14_method_1_code 207 = .ok (.aload_n 0, 1) := by decide +kernel
theorem d_Mo_init_208 : decode prog_14_method_1_code 208 = .ok (.bipush 100, 2) := by decide +kernel
theorem d_Mo_init_210 : decode prog_14_method_1_code 210 = .ok (.newarray .long, 2) := by decide +kernel
theorem d_Mo_init_212 : decode prog_14_method_1_code 212 = .ok (.putfield 88, 3) := by decide +kernel
theorem d_Mo_init_215 : decode prog_14_method_1_code 215 = .ok (.aload_n 0, 1) := by decide +kernel
theorem d_Mo_init_216 : decode prog_14_method_1_code 216 = .ok (.bipush 19, 2) := by decide +kernel
theorem d_Mo_init_218 : decode prog_14_method_1_code 218 = .ok (.newarray .int, 2) := by decide +kernel
theorem d_Mo_init_22 : decode prog_14_method_1_code 22 = .ok (.aload_n 0, 1) := by decide +kernel
theorem d_Mo_init_220 : decode prog_14_method_1_code 220 = .ok (.putfield 91, 3) := by decide +kernel
theorem d_Mo_init_223 : decode prog_14_method_1_code 223 = .ok (.aload_n 0, 1) := by decide +kernel
theorem d_Mo_init_224 : decode prog_14_method_1_code 224 = .ok (.bipush 19, 2) := by decide +kernel
theorem d_Mo_init_226 : decode prog_14_method_1_code 226 = .ok (.newarray .int, 2) := by decide +kernel
theorem d_Mo_init_228 : decode prog_14_method_1_code 228 = .ok (.putfield 94, 3) := by decide +kernel
theorem d_Mo_init_23 : decode prog_14_method_1_code 23 = .ok (.sipush 200, 3) := by decide +kernel
theorem d_Mo_init_231 : decode prog_14_method_1_code 231 = .ok (.aload_n 0, 1) := by decide +kernel
theorem d_Mo_init_232 : decode prog_14_method_1_code 232 = .ok (.bipush 19, 2) := by decide +kernel
theorem d_Mo_init_234 : decode prog_14_method_1_code 234 = .ok (.newarray .int, 2) := by decide +kernel
theorem d_Mo_init_236 : decode prog_14_method_1_code 236 = .ok (.putfield 97, 3) := by decide +kernel
theorem d_Mo_init_239 : decode prog_14_method_1_code 239 = .ok (.aload_n 0, 1) := by decide +kernel
theorem d_Mo_init_240 : decode prog_14_method_1_code 240 = .ok (.bipush 19, 2) := by decide +kernel
theorem d_Mo_init_242 : decode prog_14_method_1_code 242 = .ok (.newarray .int, 2) := by decide +kernel
theorem d_Mo_init_244 : decode prog_14_method_1_code 244 = .ok (.putfield 100, 3) := by decide +kernel
theorem d_Mo_init_247 : decode prog_14_method_1_code 247 = .ok (.aload_n 0, 1) := by decide +kernel
theorem d_Mo_init_248 : decode prog_14_method_1_code 248 = .ok (.bipush 19, 2) := by decide +kernel
theorem d_Mo_init_250 : decode prog_14_method_1_code 250 = .ok (.newarray .long, 2) := by decide +kernel
theorem d_Mo_init_252 : decode prog_14_method_1_code 252 = .ok (.putfield 103, 3) := by decide +kernel
theorem d_Mo_init_255 : decode prog_14_method_1_code 255 = .ok (.aload_n 0, 1) := by decide +kernel
theorem d_Mo_init_256 : decode prog_14_method_1_code 256 = .ok (.bipush 64, 2) := by decide +kernel
theorem d_Mo_init_258 : decode prog_14_method_1_code 258 = .ok (.newarray .byte, 2) := by decide +kernel
theorem d_Mo_init_26 : decode prog_14_method_1_code 26 = .ok (.newarray .int, 2) := by decide +kernel
theorem d_Mo_init_260 : decode prog_14_method_1_code 260 = .ok (.putfield 106, 3) := by decide +kernel
theorem d_Mo_init_263 : decode prog_14_method_1_code 263 = .ok (.return_, 1) := by decide +kernel
theorem d_Mo_init_28 : decode prog_14_method_1_code 28 = .ok (.putfield 18, 3) := by decide +kernel
theorem d_Mo_init_31 : decode prog_14_method_1_code 31 = .ok (.aload_n 0, 1) := by decide +kernel
theorem d_Mo_init_32 : decode prog_14_method_1_code 32 = .ok (.sipush 200, 3) := by decide +kernel
theorem d_Mo_init_35 : decode prog_14_method_1_code 35 = .ok (.newarray .int, 2) := by decide +kernel
theorem d_Mo_init_37 : decode prog_14_method_1_code 37 = .ok (.putfield 21, 3) := by decide +kernel
theorem d_Mo_init_4 : decode prog_14_method_1_code 4 = .ok (.aload_n 0, 1) := by decide +kernel
theorem d_Mo_init_40 : decode prog_14_method_1_code 40 = .ok (.aload_n 0, 1) := by decide +kernel
theorem d_Mo_init_41 : decode prog_14_method_1_code 41 = .ok (.sipush 200, 3) := by decide +kernel
theorem d_Mo_init_44 : decode prog_14_method_1_code 44 = .ok (.newarray .int, 2) := by decide +kernel
theorem d_Mo_init_46 : decode prog_14_method_1_code 46 = .ok (.putfield 24, 3) := by decide +kernel
theorem d_Mo_init_49 : decode prog_14_method_1_code 49 = .ok (.aload_n 0, 1) := by decide +kernel
theorem d_Mo_init_5 : decode prog_14_method_1_code 5 = .ok (.sipush 200, 3) := by decide +kernel
theorem d_Mo_init_50 : decode prog_14_method_1_code 50 = .ok (.iconst 4, 1) := by decide +kernel
theorem d_Mo_init_51 : decode prog_14_method_1_code 51 = .ok (.newarray .int, 2) := by decide +kernel
theorem d_Mo_init_53 : decode prog_14_method_1_code 53 = .ok (.putfield 27, 3) := by decide +kernel
theorem d_Mo_init_56 : decode prog_14_method_1_code 56 = .ok (.aload_n 0, 1) := by decide +kernel
theorem d_Mo_init_57 : decode prog_14_method_1_code 57 = .ok (.iconst 4, 1) := by decide +kernel
theorem d_Mo_init_58 : decode prog_14_method_1_code 58 = .ok (.newarray .int, 2) := by decide +kernel
theorem d_Mo_init_60 : decode prog_14_method_1_code 60 = .ok (.putfield 30, 3) := by decide +kernel
theorem d_Mo_init_63 : decode prog_14_method_1_code 63 = .ok (.aload_n 0, 1) := by decide +kernel
theorem d_Mo_init_64 : decode prog_14_method_1_code 64 = .ok (.iconst 4, 1) := by decide +kernel
theorem d_Mo_init_65 : decode prog_14_method_1_code 65 = .ok (.newarray .int, 2) := by decide +kernel
theorem d_Mo_init_67 : decode prog_14_method_1_code 67 = .ok (.putfield 33, 3) := by decide +kernel
theorem d_Mo_init_70 : decode prog_14_method_1_code 70 = .ok (.aload_n 0, 1) := by decide +kernel
theorem d_Mo_init_71 : decode prog_14_method_1_code 71 = .ok (.iconst (-1), 1) := by decide +kernel
theorem d_Mo_init_72 : decode prog_14_method_1_code 72 = .ok (.putfield 36, 3) := by decide +kernel
theorem d_Mo_init_75 : decode prog_14_method_1_code 75 = .ok (.aload_n 0, 1) := by decide +kernel
theorem d_Mo_init_76 : decode prog_14_method_1_code 76 = .ok (.sipush 1938, 3) := by decide +kernel
theorem d_Mo_init_79 : decode prog_14_method_1_code 79 = .ok (.newarray .int, 2) := by decide +kernel
theorem d_Mo_init_8 : decode prog_14_method_1_code 8 = .ok (.newarray .int, 2) := by decide +kernel
theorem d_Mo_init_81 : decode prog_14_method_1_code 81 = .ok (.putfield 40, 3) := by decide +kernel
theorem d_Mo_init_84 : decode prog_14_method_1_code 84 = .ok (.aload_n 0, 1) := by decide +kernel
theorem d_Mo_init_85 : decode prog_14_method_1_code 85 = .ok (.sipush 1938, 3) := by decide +kernel
theorem d_Mo_init_88 : decode prog_14_method_1_code 88 = .ok (.newarray .int, 2) := by decide +kernel
theorem d_Mo_init_90 : decode prog_14_method_1_code 90 = .ok (.putfield 43, 3) := by decide +kernel
theorem d_Mo_init_93 : decode prog_14_method_1_code 93 = .ok (.aload_n 0, 1) := by decide +kernel
theorem d_Mo_init_94 : decode prog_14_method_1_code 94 = .ok (.sipush 1938, 3) := by decide +kernel
theorem d_Mo_init_97 : decode prog_14_method_1_code 97 = .ok (.newarray .int, 2) := by decide +kernel
theorem d_Mo_init_99 : decode prog_14_method_1_code 99 = .ok (.putfield 46, 3) := by decide +kernel
theorem d_Pr_init_0 : decode prog_7_method_1_code 0 = .ok (.aload_n 0, 1) := by decide +kernel
theorem d_Pr_init_1 : decode prog_7_method_1_code 1 = .ok (.invokespecial 3, 3) := by decide +kernel
theorem d_Pr_init_10 : decode prog_7_method_1_code 10 = .ok (.putfield 9, 3) := by decide +kernel
theorem d_Pr_init_13 : decode prog_7_method_1_code 13 = .ok (.aload_n 0, 1) := by decide +kernel
theorem d_Pr_init_14 : decode prog_7_method_1_code 14 = .ok (.sipush 200, 3) := by decide +kernel
theorem d_Pr_init_17 : decode prog_7_method_1_code 17 = .ok (.newarray .int, 2) := by decide +kernel
theorem d_Pr_init_19 : decode prog_7_method_1_code 19 = .ok (.putfield 15, 3) := by decide +kernel
theorem d_Pr_init_22 : decode prog_7_method_1_code 22 = .ok (.aload_n 0, 1) := by decide +kernel
theorem d_Pr_init_23 : decode prog_7_method_1_code 23 = .ok (.sipush 200, 3) := by decide +kernel
theorem d_Pr_init_26 : decode prog_7_method_1_code 26 = .ok (.newarray .int, 2) := by decide +kernel
theorem d_Pr_init_28 : decode prog_7_method_1_code 28 = .ok (.putfield 18, 3) := by decide +kernel
theorem d_Pr_init_31 : decode prog_7_method_1_code 31 = .ok (.aload_n 0, 1) := by decide +kernel
theorem d_Pr_init_32 : decode prog_7_method_1_code 32 = .ok (.sipush 200, 3) := by decide +kernel
theorem d_Pr_init_35 : decode prog_7_method_1_code 35 = .ok (.newarray .int, 2) := by decide +kernel
theorem d_Pr_init_37 : decode prog_7_method_1_code 37 = .ok (.putfield 21, 3) := by decide +kernel
theorem d_Pr_init_4 : decode prog_7_method_1_code 4 = .ok (.aload_n 0, 1) := by decide +kernel
theorem d_Pr_init_40 : decode prog_7_method_1_code 40 = .ok (.aload_n 0, 1) := by decide +kernel
theorem d_Pr_init_41 : decode prog_7_method_1_code 41 = .ok (.sipush 200, 3) := by decide +kernel
theorem d_Pr_init_44 : decode prog_7_method_1_code 44 = .ok (.newarray .int, 2) := by decide +kernel
theorem d_Pr_init_46 : decode prog_7_method_1_code 46 = .ok (.putfield 24, 3) := by decide +kernel
theorem d_Pr_init_49 : decode prog_7_method_1_code 49 = .ok (.return_, 1) := by decide +kernel
theorem d_Pr_init_5 : decode prog_7_method_1_code 5 = .ok (.sipush 200, 3) := by decide +kernel
theorem d_Pr_init_8 : decode prog_7_method_1_code 8 = .ok (.newarray .int, 2) := by decide +kernel
theorem d_Ra_init_0 : decode prog_8_method_1_code 0 = .ok (.aload_n 0, 1) := by decide +kernel
theorem d_Ra_init_1 : decode prog_8_method_1_code 1 = .ok (.invokespecial 3, 3) := by decide +kernel
theorem d_Ra_init_4 : decode prog_8_method_1_code 4 = .ok (.return_, 1) := by decide +kernel
theorem d_Ru_init_0 : decode prog_10_method_1_code 0 = .ok (.aload_n 0, 1) := by decide +kernel
theorem d_Ru_init_1 : decode prog_10_method_1_code 1 = .ok (.invokespecial 3, 3) := by decide +kernel
theorem d_Ru_init_12 : decode prog_10_method_1_code 12 = .ok (.aload_n 0, 1) := by decide +kernel
theorem d_Ru_init_13 : decode prog_10_method_1_code 13 = .ok (.bipush 19, 2) := by decide +kernel
theorem d_Ru_init_15 : decode prog_10_method_1_code 15 = .ok (.newarray .int, 2) := by decide +kernel
theorem d_Ru_init_17 : decode prog_10_method_1_code 17 = .ok (.putfield 15, 3) := by decide +kernel
theorem d_Ru_init_20 : decode prog_10_method_1_code 20 = .ok (.aload_n 0, 1) := by decide +kernel
theorem d_Ru_init_21 : decode prog_10_method_1_code 21 = .ok (.bipush 100, 2) := by decide +kernel
theorem d_Ru_init_23 : decode prog_10_method_1_code 23 = .ok (.newarray .long, 2) := by decide +kernel
theorem d_Ru_init_25 : decode prog_10_method_1_code 25 = .ok (.putfield 19, 3) := by decide +kernel
theorem d_Ru_init_28 : decode prog_10_method_1_code 28 = .ok (.aload_n 0, 1) := by decide +kernel
theorem d_Ru_init_29 : decode prog_10_method_1_code 29 = .ok (.aload_n 1, 1) := by decide +kernel
theorem d_Ru_init_30 : decode prog_10_method_1_code 30 = .ok (.putfield 22, 3) := by decide +kernel
theorem d_Ru_init_33 : decode prog_10_method_1_code 33 = .ok (.aload_n 0, 1) := by decide +kernel
theorem d_Ru_init_34 : decode prog_10_method_1_code 34 = .ok (.aload_n 2, 1) := by decide +kernel
theorem d_Ru_init_35 : decode prog_10_method_1_code 35 = .ok (.putfield 26, 3) := by decide +kernel
theorem d_Ru_init_38 : decode prog_10_method_1_code 38 = .ok (.aload_n 0, 1) := by decide +kernel
theorem d_Ru_init_39 : decode prog_10_method_1_code 39 = .ok (.aload_n 3, 1) := by decide +kernel
theorem d_Ru_init_4 : decode prog_10_method_1_code 4 = .ok (.aload_n 0, 1) := by decide +kernel
theorem d_Ru_init_40 : decode prog_10_method_1_code 40 = .ok (.putfield 30, 3) := by decide +kernel
theorem d_Ru_init_43 : decode prog_10_method_1_code 43 = .ok (.return_, 1) := by decide +kernel
theorem d_Ru_init_5 : decode prog_10_method_1_code 5 = .ok (.bipush 11, 2) := by decide +kernel
theorem d_Ru_init_7 : decode prog_10_method_1_code 7 = .ok (.newarray .long, 2) := by decide +kernel
theorem d_Ru_init_9 : decode prog_10_method_1_code 9 = .ok (.putfield 9, 3) := by decide +kernel
theorem d_St_init_0 : decode prog_12_method_1_code 0 = .ok (.aload_n 0, 1) := by decide +kernel
theorem d_St_init_1 : decode prog_12_method_1_code 1 = .ok (.invokespecial 3, 3) := by decide +kernel
theorem d_St_init_12 : decode prog_12_method_1_code 12 = .ok (.aload_n 0, 1) := by decide +kernel
theorem d_St_init_13 : decode prog_12_method_1_code 13 = .ok (.bipush 19, 2) := by decide +kernel
theorem d_St_init_15 : decode prog_12_method_1_code 15 = .ok (.newarray .int, 2) := by decide +kernel
theorem d_St_init_17 : decode prog_12_method_1_code 17 = .ok (.putfield 15, 3) := by decide +kernel
theorem d_St_init_20 : decode prog_12_method_1_code 20 = .ok (.aload_n 0, 1) := by decide +kernel
theorem d_St_init_21 : decode prog_12_method_1_code 21 = .ok (.bipush 19, 2) := by decide +kernel
theorem d_St_init_23 : decode prog_12_method_1_code 23 = .ok (.newarray .int, 2) := by decide +kernel
theorem d_St_init_25 : decode prog_12_method_1_code 25 = .ok (.putfield 18, 3) := by decide +kernel
theorem d_St_init_28 : decode prog_12_method_1_code 28 = .ok (.aload_n 0, 1) := by decide +kernel
theorem d_St_init_29 : decode prog_12_method_1_code 29 = .ok (.bipush 19, 2) := by decide +kernel
theorem d_St_init_31 : decode prog_12_method_1_code 31 = .ok (.newarray .long, 2) := by decide +kernel
theorem d_St_init_33 : decode prog_12_method_1_code 33 = .ok (.putfield 21, 3) := by decide +kernel
theorem d_St_init_36 : decode prog_12_method_1_code 36 = .ok (.aload_n 0, 1) := by decide +kernel
theorem d_St_init_37 : decode prog_12_method_1_code 37 = .ok (.bipush 19, 2) := by decide +kernel
theorem d_St_init_39 : decode prog_12_method_1_code 39 = .ok (.newarray .long, 2) := by decide +kernel
theorem d_St_init_4 : decode prog_12_method_1_code 4 = .ok (.aload_n 0, 1) := by decide +kernel
theorem d_St_init_41 : decode prog_12_method_1_code 41 = .ok (.putfield 25, 3) := by decide +kernel
theorem d_St_init_44 : decode prog_12_method_1_code 44 = .ok (.aload_n 0, 1) := by decide +kernel
theorem d_St_init_45 : decode prog_12_method_1_code 45 = .ok (.bipush 8, 2) := by decide +kernel
theorem d_St_init_47 : decode prog_12_method_1_code 47 = .ok (.newarray .int, 2) := by decide +kernel
theorem d_St_init_49 : decode prog_12_method_1_code 49 = .ok (.putfield 28, 3) := by decide +kernel
theorem d_St_init_5 : decode prog_12_method_1_code 5 = .ok (.bipush 19, 2) := by decide +kernel
theorem d_St_init_52 : decode prog_12_method_1_code 52 = .ok (.return_, 1) := by decide +kernel
theorem d_St_init_7 : decode prog_12_method_1_code 7 = .ok (.newarray .int, 2) := by decide +kernel
theorem d_St_init_9 : decode prog_12_method_1_code 9 = .ok (.putfield 9, 3) := by decide +kernel
end
section
set_option maxHeartbeats 4000000 in
set_option maxRecDepth 100000 in
/-- within: 1 and inside, or 0 and outside -/
theorem FG_within (l : Launch) (dC : Nat → ClassId) (dI : Nat → Nat → Nat) (sz : Nat) (n : Int32) (lo : Int32) (hi : Int32) : Met l y_FG_within (.code y_FG_within prog_1_method_15_code 3 (some .boolean) :: zz_W) ({ frames := 0, cells := 0, slots := 0, locals := 0 }) (va_Pc [.int n, .int lo, .int hi] (zz_B dC dI [] [] sz)) (va_Qi (fun (r : Int32) (_ : Unit) => (r = 1 ∧ ¬ n < lo ∧ ¬ hi < n) ∨ (r = 0 ∧ (n < lo ∨ hi < n))) (fun (_ : Unit) (_ : State) => True) (va_A [] sz)) 0 0 (va_A [] sz) := by
  refine Met.ofW (cc := prog_1_method_15_code) (maxL := 3) (ret := (some .boolean)) (by decide) rfl ?_
  intro p e s m args below meth c s₁ B hml hv
  obtain ⟨rfl, hsz, hP, hK, hD0, hT⟩ := hv
  have hx := B.exec
  have hb := B.bytes
  have hr := B.returns
  have hts0 := atoms_spec (ws := (.code y_FG_within prog_1_method_15_code 3 (some .boolean) :: zz_W)) B.pre
  have hts : ∀ w ∈ zz_W, w.before _ s = true := fun w h => hts0 w (List.mem_cons_of_mem _ h)
  have hown : s.vm.findClass R_FG = some m.cls := findClass_of_methodNamed B.named
  have hlocks := B.notSynchronized
  subst hsz
  generalize hAe : va_A [] s.heap.size = A at ⊢
  have hA : ∀ q : Nat, s.heap.size ≤ q → A q := fun q h => by rw [← hAe]; exact Or.inr h
  have hS : va_S A s.heap s.heap [] := va_S.rf
  have hl := lv_entry ([.int n, .int lo, .int hi]) (n := 3) (Nat.le_of_ble_eq_true rfl)
  rw [lg_entry_eq]
  generalize (lg_sl ([.int n, .int lo, .int hi]) ++ List.replicate (3 - (lg_sl ([.int n, .int lo, .int hi])).length) Slot.unset).toArray = ls at hl ⊢
  have hl : lv_has ls 3 [(0, .int n), (1, .int lo), (2, .int hi)] := hl
  refine lv_iload_n hx hb d_FG_within_0 rfl (lv_at hl 0 rfl) ?_
  refine lv_iload_n hx hb d_FG_within_1 rfl (lv_at hl 1 rfl) ?_
  refine lv_icmp_lt (tgt := 14) hx hb d_FG_within_2 (by decide) (fun c1 => ?_) (fun c1 => ?_)
  · refine lv_iconst (v := 0) hx hb d_FG_within_14 (by decide) ?_
    refine W.widen (k := 0) (n := 0) (by omega) (by omega) ?_
    exact W.zret (ty := .boolean) (v := 0) hx hb hr rfl (fun t ht hW => ⟨⟨0, (), rfl, Or.inr ⟨rfl, Or.inl c1⟩, trivial⟩, hS.F ht⟩) hS.2.2 d_FG_within_15
  · refine lv_iload_n hx hb d_FG_within_5 rfl (lv_at hl 0 rfl) ?_
    refine lv_iload_n hx hb d_FG_within_6 rfl (lv_at hl 2 rfl) ?_
    refine lv_icmp_gt (tgt := 14) hx hb d_FG_within_7 (by decide) (fun c2 => ?_) (fun c2 => ?_)
    · refine lv_iconst (v := 0) hx hb d_FG_within_14 (by decide) ?_
      refine W.widen (k := 0) (n := 0) (by omega) (by omega) ?_
      exact W.zret (ty := .boolean) (v := 0) hx hb hr rfl (fun t ht hW => ⟨⟨0, (), rfl, Or.inr ⟨rfl, Or.inr c2⟩, trivial⟩, hS.F ht⟩) hS.2.2 d_FG_within_15
    · refine lv_iconst (v := 1) hx hb d_FG_within_10 (by decide) ?_
      refine lv_goto (tgt := 15) hx hb d_FG_within_11 (by decide) ?_
      refine W.widen (k := 0) (n := 0) (by omega) (by omega) ?_
      exact W.zret (ty := .boolean) (v := 1) hx hb hr rfl (fun t ht hW => ⟨⟨1, (), rfl, Or.inl ⟨rfl, c1, c2⟩, trivial⟩, hS.F ht⟩) hS.2.2 d_FG_within_15
set_option maxHeartbeats 4000000 in
set_option maxRecDepth 100000 in
theorem Ra_init (l : Launch) (dC : Nat → ClassId) (dI : Nat → Nat → Nat) (sz : Nat) (h0 : Nat) : Met l y_Ra_init (.code y_Ra_init prog_8_method_1_code 1 none :: zz_W) ({ frames := 1, cells := 0, slots := 0, locals := 12 }) (va_Pc [.ref h0] (zz_B dC dI [(h0, .inr (7, [.long 0, .long 0]))] [] sz)) (va_Qv (fun (_ : Unit) => True) (fun (_ : Unit) (t : State) => va_P (dC, dI) classes [] t.heap ∧ va_K (dC, dI) classes [] t ∧ va_D (va_A [(h0, .inr (7, [.long 0, .long 0]))] sz) []) (va_A [(h0, .inr (7, [.long 0, .long 0]))] sz)) 0 0 (va_A [(h0, .inr (7, [.long 0, .long 0]))] sz) := by
  refine Met.ofW (cc := prog_8_method_1_code) (maxL := 1) (ret := none) (by decide) rfl ?_
  intro p e s m args below meth c s₁ B hml hv
  obtain ⟨rfl, hsz, hP, hK, hD0, hT⟩ := hv
  have hx := B.exec
  have hb := B.bytes
  have hr := B.returns
  have hts0 := atoms_spec (ws := (.code y_Ra_init prog_8_method_1_code 1 none :: zz_W)) B.pre
  have hts : ∀ w ∈ zz_W, w.before _ s = true := fun w h => hts0 w (List.mem_cons_of_mem _ h)
  have hown : s.vm.findClass R_Ra = some m.cls := findClass_of_methodNamed B.named
  have hlocks := B.notSynchronized
  have hin : meth.name = "<init>" := (name_of_methodNamed B.named B.method).1
  subst hsz
  have hD := hD0.self (sz := s.heap.size)
  generalize hAe : va_A [(h0, .inr (7, [.long 0, .long 0]))] s.heap.size = A at hD ⊢
  have hA : ∀ q : Nat, s.heap.size ≤ q → A q := fun q h => by rw [← hAe]; exact Or.inr h
  have hS : va_S A s.heap s.heap [] := va_S.rf
  have hl := lv_entry ([.ref h0]) (n := 1) (Nat.le_of_ble_eq_true rfl)
  rw [lg_entry_eq]
  generalize (lg_sl ([.ref h0]) ++ List.replicate (1 - (lg_sl ([.ref h0])).length) Slot.unset).toArray = ls at hl ⊢
  have hl : lv_has ls 1 [(0, .ref h0)] := hl
  refine lv_aload_n hx hb d_Ra_init_0 rfl (lv_at hl 0 rfl) ?_
  refine W.objInit hx hb hown (hts _ mw_218) (hts _ mw_33) (hts _ mw_oinit) rfl (by rw [hml]; exact hl.1) rfl d_Ra_init_1 (Nat.le_of_ble_eq_true rfl) (Nat.le_of_ble_eq_true rfl) ?_
  refine W.eq (g2 := F0 m 4 ls []) rfl ?_
  have hP9 := hP.sub (ws' := []) [] rfl
  have hD9 := hD.sub (ws' := []) [] (by decide) rfl
  have hK9 := hK.sub (tys' := []) [] rfl
  refine W.widen (k := 0) (n := 0) (by omega) (by omega) ?_
  exact W.vret hx hb hr (fun t ht hW => ⟨⟨(), rfl, trivial, by rw [ht]; exact hP9, va_K.moved hW.alike hK9, hD9⟩, hS.F ht⟩) hS.2.2 d_Ra_init_4
set_option maxHeartbeats 4000000 in
set_option maxRecDepth 100000 in
theorem St_init (l : Launch) (dC : Nat → ClassId) (dI : Nat → Nat → Nat) (sz : Nat) (h0 : Nat) : Met l y_St_init (.code y_St_init prog_12_method_1_code 1 none :: zz_W) ({ frames := 1, cells := 6, slots := 103, locals := 12 }) (va_Pc [.ref h0] (zz_B dC dI [(h0, .inr (6, [.null, .null, .null, .null, .null, .null, .int 0, .int 0]))] [] sz)) (va_Qv (fun (_ : Unit) => True) (fun (_ : Unit) (t : State) => ∃ (q1 : Nat) (q3 : Nat) (q5 : Nat) (q7 : Nat) (q9 : Nat) (q11 : Nat), va_P (dC, dI) classes [(h0, .inr (6, [.ref q1, .ref q3, .ref q5, .ref q7, .ref q9, .ref q11, .int 0, .int 0]))] t.heap ∧ va_K (dC, dI) classes [] t ∧ va_D (va_A [(h0, .inr (6, [.null, .null, .null, .null, .null, .null, .int 0, .int 0]))] sz) [(h0, .inr (6, [.ref q1, .ref q3, .ref q5, .ref q7, .ref q9, .ref q11, .int 0, .int 0]))]) (va_A [(h0, .inr (6, [.null, .null, .null, .null, .null, .null, .int 0, .int 0]))] sz)) 6 103 (va_A [(h0, .inr (6, [.null, .null, .null, .null, .null, .null, .int 0, .int 0]))] sz) := by
  refine Met.ofW (cc := prog_12_method_1_code) (maxL := 1) (ret := none) (by decide) rfl ?_
  intro p e s m args below meth c s₁ B hml hv
  obtain ⟨rfl, hsz, hP, hK, hD0, hT⟩ := hv
  have hx := B.exec
  have hb := B.bytes
  have hr := B.returns
  have hts0 := atoms_spec (ws := (.code y_St_init prog_12_method_1_code 1 none :: zz_W)) B.pre
  have hts : ∀ w ∈ zz_W, w.before _ s = true := fun w h => hts0 w (List.mem_cons_of_mem _ h)
  have hown : s.vm.findClass R_St = some m.cls := findClass_of_methodNamed B.named
  have hlocks := B.notSynchronized
  have hin : meth.name = "<init>" := (name_of_methodNamed B.named B.method).1
  subst hsz
  have hD := hD0.self (sz := s.heap.size)
  generalize hAe : va_A [(h0, .inr (6, [.null, .null, .null, .null, .null, .null, .int 0, .int 0]))] s.heap.size = A at hD ⊢
  have hA : ∀ q : Nat, s.heap.size ≤ q → A q := fun q h => by rw [← hAe]; exact Or.inr h
  have hS : va_S A s.heap s.heap [] := va_S.rf
  have hl := lv_entry ([.ref h0]) (n := 1) (Nat.le_of_ble_eq_true rfl)
  rw [lg_entry_eq]
  generalize (lg_sl ([.ref h0]) ++ List.replicate (1 - (lg_sl ([.ref h0])).length) Slot.unset).toArray = ls at hl ⊢
  have hl : lv_has ls 1 [(0, .ref h0)] := hl
  refine lv_aload_n hx hb d_St_init_0 rfl (lv_at hl 0 rfl) ?_
  refine W.objInit hx hb hown (hts _ mw_177) (hts _ mw_33) (hts _ mw_oinit) rfl (by rw [hml]; exact hl.1) rfl d_St_init_1 (Nat.le_of_ble_eq_true rfl) (Nat.le_of_ble_eq_true rfl) ?_
  refine W.eq (g2 := F0 m 4 ls []) rfl ?_
  refine lv_aload_n hx hb d_St_init_4 rfl (lv_at hl 0 rfl) ?_
  refine lv_bipush (v := 19) hx hb d_St_init_5 (by decide) ?_
  refine va_newa (atype := .int) (a0 := (19, .inl (fun _ => 0))) (ty := .int) hx hb (hts _ mw_73) rfl hK hP hD hS hA (fun _ => rfl) (by decide) (by decide) (by decide) (Nat.le_of_ble_eq_true rfl) (Nat.le_of_ble_eq_true rfl) d_St_init_7 (fun q1 cA2 H hK hP hD hS => ?_)
  have hP : va_P (dC, dI) classes [(h0, .inr (6, [.null, .null, .null, .null, .null, .null, .int 0, .int 0])), (q1, .inl (cA2, 19, .inl (fun _ => 0)))] H := hP
  have hD : va_D A [(h0, .inr (6, [.null, .null, .null, .null, .null, .null, .int 0, .int 0])), (q1, .inl (cA2, 19, .inl (fun _ => 0)))] := hD
  have hK : va_K (dC, dI) classes [(cA2, .int)] s := hK
  refine W.widen (k := 1) (n := 19) (by omega) (by omega) ?_
  refine va_putF (D := (dC, dI)) (ci := 6) (v := .ref q1) (ty := (.array .int)) (C := R_St) (T := F_St) (N := 8) hx hb hts i_St t_St t_St_ok n_St hown hK hP hD hS 0 rfl rfl 0 (by decide) (hts _ mw_178) (fun _ h9 => h9) rfl hin rfl (by decide +kernel) rfl rfl (Nat.le_of_ble_eq_true rfl) d_St_init_9 (fun H locs hP hD hS => ?_)
  have hP : va_P (dC, dI) classes [(h0, .inr (6, [.ref q1, .null, .null, .null, .null, .null, .int 0, .int 0])), (q1, .inl (cA2, 19, .inl (fun _ => 0)))] H := hP
  have hD : va_D A [(h0, .inr (6, [.ref q1, .null, .null, .null, .null, .null, .int 0, .int 0])), (q1, .inl (cA2, 19, .inl (fun _ => 0)))] := hD
  refine lv_aload_n hx hb d_St_init_12 rfl (lv_at hl 0 rfl) ?_
  refine lv_bipush (v := 19) hx hb d_St_init_13 (by decide) ?_
  refine va_newa (atype := .int) (a0 := (19, .inl (fun _ => 0))) (ty := .int) hx hb (hts _ mw_73) rfl hK hP hD hS hA (fun _ => rfl) (by decide) (by decide) (by decide) (Nat.le_of_ble_eq_true rfl) (Nat.le_of_ble_eq_true rfl) d_St_init_15 (fun q3 cA4 H hK hP hD hS => ?_)
  have hP : va_P (dC, dI) classes [(h0, .inr (6, [.ref q1, .null, .null, .null, .null, .null, .int 0, .int 0])), (q1, .inl (cA2, 19, .inl (fun _ => 0))), (q3, .inl (cA4, 19, .inl (fun _ => 0)))] H := hP
  have hD : va_D A [(h0, .inr (6, [.ref q1, .null, .null, .null, .null, .null, .int 0, .int 0])), (q1, .inl (cA2, 19, .inl (fun _ => 0))), (q3, .inl (cA4, 19, .inl (fun _ => 0)))] := hD
  have hK : va_K (dC, dI) classes [(cA2, .int), (cA4, .int)] s := hK
  refine W.widen (k := 2) (n := 38) (by omega) (by omega) ?_
  refine va_putF (D := (dC, dI)) (ci := 6) (v := .ref q3) (ty := (.array .int)) (C := R_St) (T := F_St) (N := 8) hx hb hts i_St t_St t_St_ok n_St hown hK hP hD hS 0 rfl rfl 1 (by decide) (hts _ mw_180) (fun _ h9 => h9) rfl hin rfl (by decide +kernel) rfl rfl (Nat.le_of_ble_eq_true rfl) d_St_init_17 (fun H locs hP hD hS => ?_)
  have hP : va_P (dC, dI) classes [(h0, .inr (6, [.ref q1, .ref q3, .null, .null, .null, .null, .int 0, .int 0])), (q1, .inl (cA2, 19, .inl (fun _ => 0))), (q3, .inl (cA4, 19, .inl (fun _ => 0)))] H := hP
  have hD : va_D A [(h0, .inr (6, [.ref q1, .ref q3, .null, .null, .null, .null, .int 0, .int 0])), (q1, .inl (cA2, 19, .inl (fun _ => 0))), (q3, .inl (cA4, 19, .inl (fun _ => 0)))] := hD
  refine lv_aload_n hx hb d_St_init_20 rfl (lv_at hl 0 rfl) ?_
  refine lv_bipush (v := 19) hx hb d_St_init_21 (by decide) ?_
  refine va_newa (atype := .int) (a0 := (19, .inl (fun _ => 0))) (ty := .int) hx hb (hts _ mw_73) rfl hK hP hD hS hA (fun _ => rfl) (by decide) (by decide) (by decide) (Nat.le_of_ble_eq_true rfl) (Nat.le_of_ble_eq_true rfl) d_St_init_23 (fun q5 cA6 H hK hP hD hS => ?_)
  have hP : va_P (dC, dI) classes [(h0, .inr (6, [.ref q1, .ref q3, .null, .null, .null, .null, .int 0, .int 0])), (q1, .inl (cA2, 19, .inl (fun _ => 0))), (q3, .inl (cA4, 19, .inl (fun _ => 0))), (q5, .inl (cA6, 19, .inl (fun _ => 0)))] H := hP
  have hD : va_D A [(h0, .inr (6, [.ref q1, .ref q3, .null, .null, .null, .null, .int 0, .int 0])), (q1, .inl (cA2, 19, .inl (fun _ => 0))), (q3, .inl (cA4, 19, .inl (fun _ => 0))), (q5, .inl (cA6, 19, .inl (fun _ => 0)))] := hD
  have hK : va_K (dC, dI) classes [(cA2, .int), (cA4, .int), (cA6, .int)] s := hK
  refine W.widen (k := 3) (n := 57) (by omega) (by omega) ?_
  refine va_putF (D := (dC, dI)) (ci := 6) (v := .ref q5) (ty := (.array .int)) (C := R_St) (T := F_St) (N := 8) hx hb hts i_St t_St t_St_ok n_St hown hK hP hD hS 0 rfl rfl 2 (by decide) (hts _ mw_182) (fun _ h9 => h9) rfl hin rfl (by decide +kernel) rfl rfl (Nat.le_of_ble_eq_true rfl) d_St_init_25 (fun H locs hP hD hS => ?_)
  have hP : va_P (dC, dI) classes [(h0, .inr (6, [.ref q1, .ref q3, .ref q5, .null, .null, .null, .int 0, .int 0])), (q1, .inl (cA2, 19, .inl (fun _ => 0))), (q3, .inl (cA4, 19, .inl (fun _ => 0))), (q5, .inl (cA6, 19, .inl (fun _ => 0)))] H := hP
  have hD : va_D A [(h0, .inr (6, [.ref q1, .ref q3, .ref q5, .null, .null, .null, .int 0, .int 0])), (q1, .inl (cA2, 19, .inl (fun _ => 0))), (q3, .inl (cA4, 19, .inl (fun _ => 0))), (q5, .inl (cA6, 19, .inl (fun _ => 0)))] := hD
  refine lv_aload_n hx hb d_St_init_28 rfl (lv_at hl 0 rfl) ?_
  refine lv_bipush (v := 19) hx hb d_St_init_29 (by decide) ?_
  refine va_newa (atype := .long) (a0 := (19, .inr (.inl (fun _ => 0)))) (ty := .long) hx hb (hts _ mw_165) rfl hK hP hD hS hA (fun _ => rfl) (by decide) (by decide) (by decide) (Nat.le_of_ble_eq_true rfl) (Nat.le_of_ble_eq_true rfl) d_St_init_31 (fun q7 cA8 H hK hP hD hS => ?_)
  have hP : va_P (dC, dI) classes [(h0, .inr (6, [.ref q1, .ref q3, .ref q5, .null, .null, .null, .int 0, .int 0])), (q1, .inl (cA2, 19, .inl (fun _ => 0))), (q3, .inl (cA4, 19, .inl (fun _ => 0))), (q5, .inl (cA6, 19, .inl (fun _ => 0))), (q7, .inl (cA8, 19, .inr (.inl (fun _ => 0))))] H := hP
  have hD : va_D A [(h0, .inr (6, [.ref q1, .ref q3, .ref q5, .null, .null, .null, .int 0, .int 0])), (q1, .inl (cA2, 19, .inl (fun _ => 0))), (q3, .inl (cA4, 19, .inl (fun _ => 0))), (q5, .inl (cA6, 19, .inl (fun _ => 0))), (q7, .inl (cA8, 19, .inr (.inl (fun _ => 0))))] := hD
  have hK : va_K (dC, dI) classes [(cA2, .int), (cA4, .int), (cA6, .int), (cA8, .long)] s := hK
  refine W.widen (k := 4) (n := 76) (by omega) (by omega) ?_
  refine va_putF (D := (dC, dI)) (ci := 6) (v := .ref q7) (ty := (.array .long)) (C := R_St) (T := F_St) (N := 8) hx hb hts i_St t_St t_St_ok n_St hown hK hP hD hS 0 rfl rfl 3 (by decide) (hts _ mw_184) (fun _ h9 => h9) rfl hin rfl (by decide +kernel) rfl rfl (Nat.le_of_ble_eq_true rfl) d_St_init_33 (fun H locs hP hD hS => ?_)
  have hP : va_P (dC, dI) classes [(h0, .inr (6, [.ref q1, .ref q3, .ref q5, .ref q7, .null, .null, .int 0, .int 0])), (q1, .inl (cA2, 19, .inl (fun _ => 0))), (q3, .inl (cA4, 19, .inl (fun _ => 0))), (q5, .inl (cA6, 19, .inl (fun _ => 0))), (q7, .inl (cA8, 19, .inr (.inl (fun _ => 0))))] H := hP
  have hD : va_D A [(h0, .inr (6, [.ref q1, .ref q3, .ref q5, .ref q7, .null, .null, .int 0, .int 0])), (q1, .inl (cA2, 19, .inl (fun _ => 0))), (q3, .inl (cA4, 19, .inl (fun _ => 0))), (q5, .inl (cA6, 19, .inl (fun _ => 0))), (q7, .inl (cA8, 19, .inr (.inl (fun _ => 0))))] := hD
  refine lv_aload_n hx hb d_St_init_36 rfl (lv_at hl 0 rfl) ?_
  refine lv_bipush (v := 19) hx hb d_St_init_37 (by decide) ?_
  refine va_newa (atype := .long) (a0 := (19, .inr (.inl (fun _ => 0)))) (ty := .long) hx hb (hts _ mw_165) rfl hK hP hD hS hA (fun _ => rfl) (by decide) (by decide) (by decide) (Nat.le_of_ble_eq_true rfl) (Nat.le_of_ble_eq_true rfl) d_St_init_39 (fun q9 cA10 H hK hP hD hS => ?_)
  have hP : va_P (dC, dI) classes [(h0, .inr (6, [.ref q1, .ref q3, .ref q5, .ref q7, .null, .null, .int 0, .int 0])), (q1, .inl (cA2, 19, .inl (fun _ => 0))), (q3, .inl (cA4, 19, .inl (fun _ => 0))), (q5, .inl (cA6, 19, .inl (fun _ => 0))), (q7, .inl (cA8, 19, .inr (.inl (fun _ => 0)))), (q9, .inl (cA10, 19, .inr (.inl (fun _ => 0))))] H := hP
  have hD : va_D A [(h0, .inr (6, [.ref q1, .ref q3, .ref q5, .ref q7, .null, .null, .int 0, .int 0])), (q1, .inl (cA2, 19, .inl (fun _ => 0))), (q3, .inl (cA4, 19, .inl (fun _ => 0))), (q5, .inl (cA6, 19, .inl (fun _ => 0))), (q7, .inl (cA8, 19, .inr (.inl (fun _ => 0)))), (q9, .inl (cA10, 19, .inr (.inl (fun _ => 0))))] := hD
  have hK : va_K (dC, dI) classes [(cA2, .int), (cA4, .int), (cA6, .int), (cA8, .long), (cA10, .long)] s := hK
  refine W.widen (k := 5) (n := 95) (by omega) (by omega) ?_
  refine va_putF (D := (dC, dI)) (ci := 6) (v := .ref q9) (ty := (.array .long)) (C := R_St) (T := F_St) (N := 8) hx hb hts i_St t_St t_St_ok n_St hown hK hP hD hS 0 rfl rfl 4 (by decide) (hts _ mw_187) (fun _ h9 => h9) rfl hin rfl (by decide +kernel) rfl rfl (Nat.le_of_ble_eq_true rfl) d_St_init_41 (fun H locs hP hD hS => ?_)
  have hP : va_P (dC, dI) classes [(h0, .inr (6, [.ref q1, .ref q3, .ref q5, .ref q7, .ref q9, .null, .int 0, .int 0])), (q1, .inl (cA2, 19, .inl (fun _ => 0))), (q3, .inl (cA4, 19, .inl (fun _ => 0))), (q5, .inl (cA6, 19, .inl (fun _ => 0))), (q7, .inl (cA8, 19, .inr (.inl (fun _ => 0)))), (q9, .inl (cA10, 19, .inr (.inl (fun _ => 0))))] H := hP
  have hD : va_D A [(h0, .inr (6, [.ref q1, .ref q3, .ref q5, .ref q7, .ref q9, .null, .int 0, .int 0])), (q1, .inl (cA2, 19, .inl (fun _ => 0))), (q3, .inl (cA4, 19, .inl (fun _ => 0))), (q5, .inl (cA6, 19, .inl (fun _ => 0))), (q7, .inl (cA8, 19, .inr (.inl (fun _ => 0)))), (q9, .inl (cA10, 19, .inr (.inl (fun _ => 0))))] := hD
  refine lv_aload_n hx hb d_St_init_44 rfl (lv_at hl 0 rfl) ?_
  refine lv_bipush (v := 8) hx hb d_St_init_45 (by decide) ?_
  refine va_newa (atype := .int) (a0 := (8, .inl (fun _ => 0))) (ty := .int) hx hb (hts _ mw_73) rfl hK hP hD hS hA (fun _ => rfl) (by decide) (by decide) (by decide) (Nat.le_of_ble_eq_true rfl) (Nat.le_of_ble_eq_true rfl) d_St_init_47 (fun q11 cA12 H hK hP hD hS => ?_)
  have hP : va_P (dC, dI) classes [(h0, .inr (6, [.ref q1, .ref q3, .ref q5, .ref q7, .ref q9, .null, .int 0, .int 0])), (q1, .inl (cA2, 19, .inl (fun _ => 0))), (q3, .inl (cA4, 19, .inl (fun _ => 0))), (q5, .inl (cA6, 19, .inl (fun _ => 0))), (q7, .inl (cA8, 19, .inr (.inl (fun _ => 0)))), (q9, .inl (cA10, 19, .inr (.inl (fun _ => 0)))), (q11, .inl (cA12, 8, .inl (fun _ => 0)))] H := hP
  have hD : va_D A [(h0, .inr (6, [.ref q1, .ref q3, .ref q5, .ref q7, .ref q9, .null, .int 0, .int 0])), (q1, .inl (cA2, 19, .inl (fun _ => 0))), (q3, .inl (cA4, 19, .inl (fun _ => 0))), (q5, .inl (cA6, 19, .inl (fun _ => 0))), (q7, .inl (cA8, 19, .inr (.inl (fun _ => 0)))), (q9, .inl (cA10, 19, .inr (.inl (fun _ => 0)))), (q11, .inl (cA12, 8, .inl (fun _ => 0)))] := hD
  have hK : va_K (dC, dI) classes [(cA2, .int), (cA4, .int), (cA6, .int), (cA8, .long), (cA10, .long), (cA12, .int)] s := hK
  refine W.widen (k := 6) (n := 103) (by omega) (by omega) ?_
  refine va_putF (D := (dC, dI)) (ci := 6) (v := .ref q11) (ty := (.array .int)) (C := R_St) (T := F_St) (N := 8) hx hb hts i_St t_St t_St_ok n_St hown hK hP hD hS 0 rfl rfl 5 (by decide) (hts _ mw_190) (fun _ h9 => h9) rfl hin rfl (by decide +kernel) rfl rfl (Nat.le_of_ble_eq_true rfl) d_St_init_49 (fun H locs hP hD hS => ?_)
  have hP : va_P (dC, dI) classes [(h0, .inr (6, [.ref q1, .ref q3, .ref q5, .ref q7, .ref q9, .ref q11, .int 0, .int 0])), (q1, .inl (cA2, 19, .inl (fun _ => 0))), (q3, .inl (cA4, 19, .inl (fun _ => 0))), (q5, .inl (cA6, 19, .inl (fun _ => 0))), (q7, .inl (cA8, 19, .inr (.inl (fun _ => 0)))), (q9, .inl (cA10, 19, .inr (.inl (fun _ => 0)))), (q11, .inl (cA12, 8, .inl (fun _ => 0)))] H := hP
  have hD : va_D A [(h0, .inr (6, [.ref q1, .ref q3, .ref q5, .ref q7, .ref q9, .ref q11, .int 0, .int 0])), (q1, .inl (cA2, 19, .inl (fun _ => 0))), (q3, .inl (cA4, 19, .inl (fun _ => 0))), (q5, .inl (cA6, 19, .inl (fun _ => 0))), (q7, .inl (cA8, 19, .inr (.inl (fun _ => 0)))), (q9, .inl (cA10, 19, .inr (.inl (fun _ => 0)))), (q11, .inl (cA12, 8, .inl (fun _ => 0)))] := hD
  have hP9 := hP.sub (ws' := [(h0, .inr (6, [.ref q1, .ref q3, .ref q5, .ref q7, .ref q9, .ref q11, .int 0, .int 0]))]) [0] rfl
  have hD9 := hD.sub (ws' := [(h0, .inr (6, [.ref q1, .ref q3, .ref q5, .ref q7, .ref q9, .ref q11, .int 0, .int 0]))]) [0] (by decide) rfl
  have hK9 := hK.sub (tys' := []) [] rfl
  refine W.widen (k := 6) (n := 103) (by omega) (by omega) ?_
  exact W.vret hx hb hr (fun t ht hW => ⟨⟨(), rfl, trivial, q1, q3, q5, q7, q9, q11, by rw [ht]; exact hP9, va_K.moved hW.alike hK9, hD9⟩, hS.F ht⟩) hS.2.2 d_St_init_52
set_option maxHeartbeats 4000000 in
set_option maxRecDepth 100000 in
theorem Pr_init (l : Launch) (dC : Nat → ClassId) (dI : Nat → Nat → Nat) (sz : Nat) (h0 : Nat) : Met l y_Pr_init (.code y_Pr_init prog_7_method_1_code 1 none :: zz_W) ({ frames := 1, cells := 5, slots := 1000, locals := 12 }) (va_Pc [.ref h0] (zz_B dC dI [(h0, .inr (1, [.null, .null, .null, .null, .null, .int 0]))] [] sz)) (va_Qv (fun (_ : Unit) => True) (fun (_ : Unit) (t : State) => ∃ (q1 : Nat) (cA2 : ClassId) (q3 : Nat) (cA4 : ClassId) (q5 : Nat) (cA6 : ClassId) (q7 : Nat) (cA8 : ClassId) (q9 : Nat) (cA10 : ClassId), va_P (dC, dI) classes [(h0, .inr (1, [.ref q1, .ref q3, .ref q5, .ref q7, .ref q9, .int 0])), (q1, .inl (cA2, 200, .inl (fun _ => 0))), (q3, .inl (cA4, 200, .inl (fun _ => 0))), (q5, .inl (cA6, 200, .inl (fun _ => 0))), (q7, .inl (cA8, 200, .inl (fun _ => 0))), (q9, .inl (cA10, 200, .inl (fun _ => 0)))] t.heap ∧ va_K (dC, dI) classes [(cA2, .int), (cA4, .int), (cA6, .int), (cA8, .int), (cA10, .int)] t ∧ va_D (va_A [(h0, .inr (1, [.null, .null, .null, .null, .null, .int 0]))] sz) [(h0, .inr (1, [.ref q1, .ref q3, .ref q5, .ref q7, .ref q9, .int 0])), (q1, .inl (cA2, 200, .inl (fun _ => 0))), (q3, .inl (cA4, 200, .inl (fun _ => 0))), (q5, .inl (cA6, 200, .inl (fun _ => 0))), (q7, .inl (cA8, 200, .inl (fun _ => 0))), (q9, .inl (cA10, 200, .inl (fun _ => 0)))]) (va_A [(h0, .inr (1, [.null, .null, .null, .null, .null, .int 0]))] sz)) 5 1000 (va_A [(h0, .inr (1, [.null, .null, .null, .null, .null, .int 0]))] sz) := by
  refine Met.ofW (cc := prog_7_method_1_code) (maxL := 1) (ret := none) (by decide) rfl ?_
  intro p e s m args below meth c s₁ B hml hv
  obtain ⟨rfl, hsz, hP, hK, hD0, hT⟩ := hv
  have hx := B.exec
  have hb := B.bytes
  have hr := B.returns
  have hts0 := atoms_spec (ws := (.code y_Pr_init prog_7_method_1_code 1 none :: zz_W)) B.pre
  have hts : ∀ w ∈ zz_W, w.before _ s = true := fun w h => hts0 w (List.mem_cons_of_mem _ h)
  have hown : s.vm.findClass R_Pr = some m.cls := findClass_of_methodNamed B.named
  have hlocks := B.notSynchronized
  have hin : meth.name = "<init>" := (name_of_methodNamed B.named B.method).1
  subst hsz
  have hD := hD0.self (sz := s.heap.size)
  generalize hAe : va_A [(h0, .inr (1, [.null, .null, .null, .null, .null, .int 0]))] s.heap.size = A at hD ⊢
  have hA : ∀ q : Nat, s.heap.size ≤ q → A q := fun q h => by rw [← hAe]; exact Or.inr h
  have hS : va_S A s.heap s.heap [] := va_S.rf
  have hl := lv_entry ([.ref h0]) (n := 1) (Nat.le_of_ble_eq_true rfl)
  rw [lg_entry_eq]
  generalize (lg_sl ([.ref h0]) ++ List.replicate (1 - (lg_sl ([.ref h0])).length) Slot.unset).toArray = ls at hl ⊢
  have hl : lv_has ls 1 [(0, .ref h0)] := hl
  refine lv_aload_n hx hb d_Pr_init_0 rfl (lv_at hl 0 rfl) ?_
  refine W.objInit hx hb hown (hts _ mw_40) (hts _ mw_33) (hts _ mw_oinit) rfl (by rw [hml]; exact hl.1) rfl d_Pr_init_1 (Nat.le_of_ble_eq_true rfl) (Nat.le_of_ble_eq_true rfl) ?_
  refine W.eq (g2 := F0 m 4 ls []) rfl ?_
  refine lv_aload_n hx hb d_Pr_init_4 rfl (lv_at hl 0 rfl) ?_
  refine lv_sipush (v := 200) hx hb d_Pr_init_5 (by decide) ?_
  refine va_newa (atype := .int) (a0 := (200, .inl (fun _ => 0))) (ty := .int) hx hb (hts _ mw_73) rfl hK hP hD hS hA (fun _ => rfl) (by decide) (by decide) (by decide) (Nat.le_of_ble_eq_true rfl) (Nat.le_of_ble_eq_true rfl) d_Pr_init_8 (fun q1 cA2 H hK hP hD hS => ?_)
  have hP : va_P (dC, dI) classes [(h0, .inr (1, [.null, .null, .null, .null, .null, .int 0])), (q1, .inl (cA2, 200, .inl (fun _ => 0)))] H := hP
  have hD : va_D A [(h0, .inr (1, [.null, .null, .null, .null, .null, .int 0])), (q1, .inl (cA2, 200, .inl (fun _ => 0)))] := hD
  have hK : va_K (dC, dI) classes [(cA2, .int)] s := hK
  refine W.widen (k := 1) (n := 200) (by omega) (by omega) ?_
  refine va_putF (D := (dC, dI)) (ci := 1) (v := .ref q1) (ty := (.array .int)) (C := R_Pr) (T := F_Pr) (N := 6) hx hb hts i_Pr t_Pr t_Pr_ok n_Pr hown hK hP hD hS 0 rfl rfl 0 (by decide) (hts _ mw_41) (fun _ h9 => h9) rfl hin rfl (by decide +kernel) rfl rfl (Nat.le_of_ble_eq_true rfl) d_Pr_init_10 (fun H locs hP hD hS => ?_)
  have hP : va_P (dC, dI) classes [(h0, .inr (1, [.ref q1, .null, .null, .null, .null, .int 0])), (q1, .inl (cA2, 200, .inl (fun _ => 0)))] H := hP
  have hD : va_D A [(h0, .inr (1, [.ref q1, .null, .null, .null, .null, .int 0])), (q1, .inl (cA2, 200, .inl (fun _ => 0)))] := hD
  refine lv_aload_n hx hb d_Pr_init_13 rfl (lv_at hl 0 rfl) ?_
  refine lv_sipush (v := 200) hx hb d_Pr_init_14 (by decide) ?_
  refine va_newa (atype := .int) (a0 := (200, .inl (fun _ => 0))) (ty := .int) hx hb (hts _ mw_73) rfl hK hP hD hS hA (fun _ => rfl) (by decide) (by decide) (by decide) (Nat.le_of_ble_eq_true rfl) (Nat.le_of_ble_eq_true rfl) d_Pr_init_17 (fun q3 cA4 H hK hP hD hS => ?_)
  have hP : va_P (dC, dI) classes [(h0, .inr (1, [.ref q1, .null, .null, .null, .null, .int 0])), (q1, .inl (cA2, 200, .inl (fun _ => 0))), (q3, .inl (cA4, 200, .inl (fun _ => 0)))] H := hP
  have hD : va_D A [(h0, .inr (1, [.ref q1, .null, .null, .null, .null, .int 0])), (q1, .inl (cA2, 200, .inl (fun _ => 0))), (q3, .inl (cA4, 200, .inl (fun _ => 0)))] := hD
  have hK : va_K (dC, dI) classes [(cA2, .int), (cA4, .int)] s := hK
  refine W.widen (k := 2) (n := 400) (by omega) (by omega) ?_
  refine va_putF (D := (dC, dI)) (ci := 1) (v := .ref q3) (ty := (.array .int)) (C := R_Pr) (T := F_Pr) (N := 6) hx hb hts i_Pr t_Pr t_Pr_ok n_Pr hown hK hP hD hS 0 rfl rfl 1 (by decide) (hts _ mw_44) (fun _ h9 => h9) rfl hin rfl (by decide +kernel) rfl rfl (Nat.le_of_ble_eq_true rfl) d_Pr_init_19 (fun H locs hP hD hS => ?_)
  have hP : va_P (dC, dI) classes [(h0, .inr (1, [.ref q1, .ref q3, .null, .null, .null, .int 0])), (q1, .inl (cA2, 200, .inl (fun _ => 0))), (q3, .inl (cA4, 200, .inl (fun _ => 0)))] H := hP
  have hD : va_D A [(h0, .inr (1, [.ref q1, .ref q3, .null, .null, .null, .int 0])), (q1, .inl (cA2, 200, .inl (fun _ => 0))), (q3, .inl (cA4, 200, .inl (fun _ => 0)))] := hD
  refine lv_aload_n hx hb d_Pr_init_22 rfl (lv_at hl 0 rfl) ?_
  refine lv_sipush (v := 200) hx hb d_Pr_init_23 (by decide) ?_
  refine va_newa (atype := .int) (a0 := (200, .inl (fun _ => 0))) (ty := .int) hx hb (hts _ mw_73) rfl hK hP hD hS hA (fun _ => rfl) (by decide) (by decide) (by decide) (Nat.le_of_ble_eq_true rfl) (Nat.le_of_ble_eq_true rfl) d_Pr_init_26 (fun q5 cA6 H hK hP hD hS => ?_)
  have hP : va_P (dC, dI) classes [(h0, .inr (1, [.ref q1, .ref q3, .null, .null, .null, .int 0])), (q1, .inl (cA2, 200, .inl (fun _ => 0))), (q3, .inl (cA4, 200, .inl (fun _ => 0))), (q5, .inl (cA6, 200, .inl (fun _ => 0)))] H := hP
  have hD : va_D A [(h0, .inr (1, [.ref q1, .ref q3, .null, .null, .null, .int 0])), (q1, .inl (cA2, 200, .inl (fun _ => 0))), (q3, .inl (cA4, 200, .inl (fun _ => 0))), (q5, .inl (cA6, 200, .inl (fun _ => 0)))] := hD
  have hK : va_K (dC, dI) classes [(cA2, .int), (cA4, .int), (cA6, .int)] s := hK
  refine W.widen (k := 3) (n := 600) (by omega) (by omega) ?_
  refine va_putF (D := (dC, dI)) (ci := 1) (v := .ref q5) (ty := (.array .int)) (C := R_Pr) (T := F_Pr) (N := 6) hx hb hts i_Pr t_Pr t_Pr_ok n_Pr hown hK hP hD hS 0 rfl rfl 2 (by decide) (hts _ mw_47) (fun _ h9 => h9) rfl hin rfl (by decide +kernel) rfl rfl (Nat.le_of_ble_eq_true rfl) d_Pr_init_28 (fun H locs hP hD hS => ?_)
  have hP : va_P (dC, dI) classes [(h0, .inr (1, [.ref q1, .ref q3, .ref q5, .null, .null, .int 0])), (q1, .inl (cA2, 200, .inl (fun _ => 0))), (q3, .inl (cA4, 200, .inl (fun _ => 0))), (q5, .inl (cA6, 200, .inl (fun _ => 0)))] H := hP
  have hD : va_D A [(h0, .inr (1, [.ref q1, .ref q3, .ref q5, .null, .null, .int 0])), (q1, .inl (cA2, 200, .inl (fun _ => 0))), (q3, .inl (cA4, 200, .inl (fun _ => 0))), (q5, .inl (cA6, 200, .inl (fun _ => 0)))] := hD
  refine lv_aload_n hx hb d_Pr_init_31 rfl (lv_at hl 0 rfl) ?_
  refine lv_sipush (v := 200) hx hb d_Pr_init_32 (by decide) ?_
  refine va_newa (atype := .int) (a0 := (200, .inl (fun _ => 0))) (ty := .int) hx hb (hts _ mw_73) rfl hK hP hD hS hA (fun _ => rfl) (by decide) (by decide) (by decide) (Nat.le_of_ble_eq_true rfl) (Nat.le_of_ble_eq_true rfl) d_Pr_init_35 (fun q7 cA8 H hK hP hD hS => ?_)
  have hP : va_P (dC, dI) classes [(h0, .inr (1, [.ref q1, .ref q3, .ref q5, .null, .null, .int 0])), (q1, .inl (cA2, 200, .inl (fun _ => 0))), (q3, .inl (cA4, 200, .inl (fun _ => 0))), (q5, .inl (cA6, 200, .inl (fun _ => 0))), (q7, .inl (cA8, 200, .inl (fun _ => 0)))] H := hP
  have hD : va_D A [(h0, .inr (1, [.ref q1, .ref q3, .ref q5, .null, .null, .int 0])), (q1, .inl (cA2, 200, .inl (fun _ => 0))), (q3, .inl (cA4, 200, .inl (fun _ => 0))), (q5, .inl (cA6, 200, .inl (fun _ => 0))), (q7, .inl (cA8, 200, .inl (fun _ => 0)))] := hD
  have hK : va_K (dC, dI) classes [(cA2, .int), (cA4, .int), (cA6, .int), (cA8, .int)] s := hK
  refine W.widen (k := 4) (n := 800) (by omega) (by omega) ?_
  refine va_putF (D := (dC, dI)) (ci := 1) (v := .ref q7) (ty := (.array .int)) (C := R_Pr) (T := F_Pr) (N := 6) hx hb hts i_Pr t_Pr t_Pr_ok n_Pr hown hK hP hD hS 0 rfl rfl 3 (by decide) (hts _ mw_50) (fun _ h9 => h9) rfl hin rfl (by decide +kernel) rfl rfl (Nat.le_of_ble_eq_true rfl) d_Pr_init_37 (fun H locs hP hD hS => ?_)
  have hP : va_P (dC, dI) classes [(h0, .inr (1, [.ref q1, .ref q3, .ref q5, .ref q7, .null, .int 0])), (q1, .inl (cA2, 200, .inl (fun _ => 0))), (q3, .inl (cA4, 200, .inl (fun _ => 0))), (q5, .inl (cA6, 200, .inl (fun _ => 0))), (q7, .inl (cA8, 200, .inl (fun _ => 0)))] H := hP
  have hD : va_D A [(h0, .inr (1, [.ref q1, .ref q3, .ref q5, .ref q7, .null, .int 0])), (q1, .inl (cA2, 200, .inl (fun _ => 0))), (q3, .inl (cA4, 200, .inl (fun _ => 0))), (q5, .inl (cA6, 200, .inl (fun _ => 0))), (q7, .inl (cA8, 200, .inl (fun _ => 0)))] := hD
  refine lv_aload_n hx hb d_Pr_init_40 rfl (lv_at hl 0 rfl) ?_
  refine lv_sipush (v := 200) hx hb d_Pr_init_41 (by decide) ?_
  refine va_newa (atype := .int) (a0 := (200, .inl (fun _ => 0))) (ty := .int) hx hb (hts _ mw_73) rfl hK hP hD hS hA (fun _ => rfl) (by decide) (by decide) (by decide) (Nat.le_of_ble_eq_true rfl) (Nat.le_of_ble_eq_true rfl) d_Pr_init_44 (fun q9 cA10 H hK hP hD hS => ?_)
  have hP : va_P (dC, dI) classes [(h0, .inr (1, [.ref q1, .ref q3, .ref q5, .ref q7, .null, .int 0])), (q1, .inl (cA2, 200, .inl (fun _ => 0))), (q3, .inl (cA4, 200, .inl (fun _ => 0))), (q5, .inl (cA6, 200, .inl (fun _ => 0))), (q7, .inl (cA8, 200, .inl (fun _ => 0))), (q9, .inl (cA10, 200, .inl (fun _ => 0)))] H := hP
  have hD : va_D A [(h0, .inr (1, [.ref q1, .ref q3, .ref q5, .ref q7, .null, .int 0])), (q1, .inl (cA2, 200, .inl (fun _ => 0))), (q3, .inl (cA4, 200, .inl (fun _ => 0))), (q5, .inl (cA6, 200, .inl (fun _ => 0))), (q7, .inl (cA8, 200, .inl (fun _ => 0))), (q9, .inl (cA10, 200, .inl (fun _ => 0)))] := hD
  have hK : va_K (dC, dI) classes [(cA2, .int), (cA4, .int), (cA6, .int), (cA8, .int), (cA10, .int)] s := hK
  refine W.widen (k := 5) (n := 1000) (by omega) (by omega) ?_
  refine va_putF (D := (dC, dI)) (ci := 1) (v := .ref q9) (ty := (.array .int)) (C := R_Pr) (T := F_Pr) (N := 6) hx hb hts i_Pr t_Pr t_Pr_ok n_Pr hown hK hP hD hS 0 rfl rfl 4 (by decide) (hts _ mw_53) (fun _ h9 => h9) rfl hin rfl (by decide +kernel) rfl rfl (Nat.le_of_ble_eq_true rfl) d_Pr_init_46 (fun H locs hP hD hS => ?_)
  have hP : va_P (dC, dI) classes [(h0, .inr (1, [.ref q1, .ref q3, .ref q5, .ref q7, .ref q9, .int 0])), (q1, .inl (cA2, 200, .inl (fun _ => 0))), (q3, .inl (cA4, 200, .inl (fun _ => 0))), (q5, .inl (cA6, 200, .inl (fun _ => 0))), (q7, .inl (cA8, 200, .inl (fun _ => 0))), (q9, .inl (cA10, 200, .inl (fun _ => 0)))] H := hP
  have hD : va_D A [(h0, .inr (1, [.ref q1, .ref q3, .ref q5, .ref q7, .ref q9, .int 0])), (q1, .inl (cA2, 200, .inl (fun _ => 0))), (q3, .inl (cA4, 200, .inl (fun _ => 0))), (q5, .inl (cA6, 200, .inl (fun _ => 0))), (q7, .inl (cA8, 200, .inl (fun _ => 0))), (q9, .inl (cA10, 200, .inl (fun _ => 0)))] := hD
  have hP9 := hP.sub (ws' := [(h0, .inr (1, [.ref q1, .ref q3, .ref q5, .ref q7, .ref q9, .int 0])), (q1, .inl (cA2, 200, .inl (fun _ => 0))), (q3, .inl (cA4, 200, .inl (fun _ => 0))), (q5, .inl (cA6, 200, .inl (fun _ => 0))), (q7, .inl (cA8, 200, .inl (fun _ => 0))), (q9, .inl (cA10, 200, .inl (fun _ => 0)))]) [0, 1, 2, 3, 4, 5] rfl
  have hD9 := hD.sub (ws' := [(h0, .inr (1, [.ref q1, .ref q3, .ref q5, .ref q7, .ref q9, .int 0])), (q1, .inl (cA2, 200, .inl (fun _ => 0))), (q3, .inl (cA4, 200, .inl (fun _ => 0))), (q5, .inl (cA6, 200, .inl (fun _ => 0))), (q7, .inl (cA8, 200, .inl (fun _ => 0))), (q9, .inl (cA10, 200, .inl (fun _ => 0)))]) [0, 1, 2, 3, 4, 5] (by decide) rfl
  have hK9 := hK.sub (tys' := [(cA2, .int), (cA4, .int), (cA6, .int), (cA8, .int), (cA10, .int)]) [0, 1, 2, 3, 4] rfl
  refine W.widen (k := 5) (n := 1000) (by omega) (by omega) ?_
  exact W.vret hx hb hr (fun t ht hW => ⟨⟨(), rfl, trivial, q1, cA2, q3, cA4, q5, cA6, q7, cA8, q9, cA10, by rw [ht]; exact hP9, va_K.moved hW.alike hK9, hD9⟩, hS.F ht⟩) hS.2.2 d_Pr_init_49
end
section
set_option maxHeartbeats 4000000 in
set_option maxRecDepth 100000 in
theorem Ma_init (l : Launch) (dC : Nat → ClassId) (dI : Nat → Nat → Nat) (sz : Nat) (h0 : Nat) : Met l y_Ma_init (.code y_Ma_init prog_5_method_1_code 1 none :: zz_W) ({ frames := 1, cells := 7, slots := 4692, locals := 12 }) (va_Pc [.ref h0] (zz_B dC dI [(h0, .inr (2, [.null, .null, .null, .null, .null, .null, .null, .int 0]))] [] sz)) (va_Qv (fun (_ : Unit) => True) (fun (_ : Unit) (t : State) => ∃ (q1 : Nat) (cA2 : ClassId) (q3 : Nat) (cA4 : ClassId) (q5 : Nat) (cA6 : ClassId) (q7 : Nat) (q9 : Nat) (cA10 : ClassId) (q11 : Nat) (cA12 : ClassId) (q13 : Nat) (cA14 : ClassId), va_P (dC, dI) classes [(h0, .inr (2, [.ref q1, .ref q3, .ref q5, .ref q7, .ref q9, .ref q11, .ref q13, .int 0])), (q1, .inl (cA2, 4, .inl (fun _ => 0))), (q3, .inl (cA4, 4, .inl (fun _ => 0))), (q5, .inl (cA6, 4096, .inl (fun _ => 0))), (q9, .inl (cA10, 4, .inl (fun _ => 0))), (q11, .inl (cA12, 64, .inl (fun _ => 0))), (q13, .inl (cA14, 512, .inl (fun _ => 0)))] t.heap ∧ va_K (dC, dI) classes [(cA2, .int), (cA4, .int), (cA6, .byte), (cA10, .int), (cA12, .boolean), (cA14, .byte)] t ∧ va_D (va_A [(h0, .inr (2, [.null, .null, .null, .null, .null, .null, .null, .int 0]))] sz) [(h0, .inr (2, [.ref q1, .ref q3, .ref q5, .ref q7, .ref q9, .ref q11, .ref q13, .int 0])), (q1, .inl (cA2, 4, .inl (fun _ => 0))), (q3, .inl (cA4, 4, .inl (fun _ => 0))), (q5, .inl (cA6, 4096, .inl (fun _ => 0))), (q9, .inl (cA10, 4, .inl (fun _ => 0))), (q11, .inl (cA12, 64, .inl (fun _ => 0))), (q13, .inl (cA14, 512, .inl (fun _ => 0)))]) (va_A [(h0, .inr (2, [.null, .null, .null, .null, .null, .null, .null, .int 0]))] sz)) 7 4692 (va_A [(h0, .inr (2, [.null, .null, .null, .null, .null, .null, .null, .int 0]))] sz) := by
  refine Met.ofW (cc := prog_5_method_1_code) (maxL := 1) (ret := none) (by decide) rfl ?_
  intro p e s m args below meth c s₁ B hml hv
  obtain ⟨rfl, hsz, hP, hK, hD0, hT⟩ := hv
  have hx := B.exec
  have hb := B.bytes
  have hr := B.returns
  have hts0 := atoms_spec (ws := (.code y_Ma_init prog_5_method_1_code 1 none :: zz_W)) B.pre
  have hts : ∀ w ∈ zz_W, w.before _ s = true := fun w h => hts0 w (List.mem_cons_of_mem _ h)
  have hown : s.vm.findClass R_Ma = some m.cls := findClass_of_methodNamed B.named
  have hlocks := B.notSynchronized
  have hin : meth.name = "<init>" := (name_of_methodNamed B.named B.method).1
  subst hsz
  have hD := hD0.self (sz := s.heap.size)
  generalize hAe : va_A [(h0, .inr (2, [.null, .null, .null, .null, .null, .null, .null, .int 0]))] s.heap.size = A at hD ⊢
  have hA : ∀ q : Nat, s.heap.size ≤ q → A q := fun q h => by rw [← hAe]; exact Or.inr h
  have hS : va_S A s.heap s.heap [] := va_S.rf
  have hl := lv_entry ([.ref h0]) (n := 1) (Nat.le_of_ble_eq_true rfl)
  rw [lg_entry_eq]
  generalize (lg_sl ([.ref h0]) ++ List.replicate (1 - (lg_sl ([.ref h0])).length) Slot.unset).toArray = ls at hl ⊢
  have hl : lv_has ls 1 [(0, .ref h0)] := hl
  refine lv_aload_n hx hb d_Ma_init_0 rfl (lv_at hl 0 rfl) ?_
  refine W.objInit hx hb hown (hts _ mw_79) (hts _ mw_33) (hts _ mw_oinit) rfl (by rw [hml]; exact hl.1) rfl d_Ma_init_1 (Nat.le_of_ble_eq_true rfl) (Nat.le_of_ble_eq_true rfl) ?_
  refine W.eq (g2 := F0 m 4 ls []) rfl ?_
  refine lv_aload_n hx hb d_Ma_init_4 rfl (lv_at hl 0 rfl) ?_
  refine lv_iconst (v := 4) hx hb d_Ma_init_5 (by decide) ?_
  refine va_newa (atype := .int) (a0 := (4, .inl (fun _ => 0))) (ty := .int) hx hb (hts _ mw_73) rfl hK hP hD hS hA (fun _ => rfl) (by decide) (by decide) (by decide) (Nat.le_of_ble_eq_true rfl) (Nat.le_of_ble_eq_true rfl) d_Ma_init_6 (fun q1 cA2 H hK hP hD hS => ?_)
  have hP : va_P (dC, dI) classes [(h0, .inr (2, [.null, .null, .null, .null, .null, .null, .null, .int 0])), (q1, .inl (cA2, 4, .inl (fun _ => 0)))] H := hP
  have hD : va_D A [(h0, .inr (2, [.null, .null, .null, .null, .null, .null, .null, .int 0])), (q1, .inl (cA2, 4, .inl (fun _ => 0)))] := hD
  have hK : va_K (dC, dI) classes [(cA2, .int)] s := hK
  refine W.widen (k := 1) (n := 4) (by omega) (by omega) ?_
  refine va_putF (D := (dC, dI)) (ci := 2) (v := .ref q1) (ty := (.array .int)) (C := R_Ma) (T := F_Ma) (N := 8) hx hb hts i_Ma t_Ma t_Ma_ok n_Ma hown hK hP hD hS 0 rfl rfl 0 (by decide) (hts _ mw_80) (fun _ h9 => h9) rfl hin rfl (by decide +kernel) rfl rfl (Nat.le_of_ble_eq_true rfl) d_Ma_init_8 (fun H locs hP hD hS => ?_)
  have hP : va_P (dC, dI) classes [(h0, .inr (2, [.ref q1, .null, .null, .null, .null, .null, .null, .int 0])), (q1, .inl (cA2, 4, .inl (fun _ => 0)))] H := hP
  have hD : va_D A [(h0, .inr (2, [.ref q1, .null, .null, .null, .null, .null, .null, .int 0])), (q1, .inl (cA2, 4, .inl (fun _ => 0)))] := hD
  refine lv_aload_n hx hb d_Ma_init_11 rfl (lv_at hl 0 rfl) ?_
  refine lv_iconst (v := 4) hx hb d_Ma_init_12 (by decide) ?_
  refine va_newa (atype := .int) (a0 := (4, .inl (fun _ => 0))) (ty := .int) hx hb (hts _ mw_73) rfl hK hP hD hS hA (fun _ => rfl) (by decide) (by decide) (by decide) (Nat.le_of_ble_eq_true rfl) (Nat.le_of_ble_eq_true rfl) d_Ma_init_13 (fun q3 cA4 H hK hP hD hS => ?_)
  have hP : va_P (dC, dI) classes [(h0, .inr (2, [.ref q1, .null, .null, .null, .null, .null, .null, .int 0])), (q1, .inl (cA2, 4, .inl (fun _ => 0))), (q3, .inl (cA4, 4, .inl (fun _ => 0)))] H := hP
  have hD : va_D A [(h0, .inr (2, [.ref q1, .null, .null, .null, .null, .null, .null, .int 0])), (q1, .inl (cA2, 4, .inl (fun _ => 0))), (q3, .inl (cA4, 4, .inl (fun _ => 0)))] := hD
  have hK : va_K (dC, dI) classes [(cA2, .int), (cA4, .int)] s := hK
  refine W.widen (k := 2) (n := 8) (by omega) (by omega) ?_
  refine va_putF (D := (dC, dI)) (ci := 2) (v := .ref q3) (ty := (.array .int)) (C := R_Ma) (T := F_Ma) (N := 8) hx hb hts i_Ma t_Ma t_Ma_ok n_Ma hown hK hP hD hS 0 rfl rfl 1 (by decide) (hts _ mw_84) (fun _ h9 => h9) rfl hin rfl (by decide +kernel) rfl rfl (Nat.le_of_ble_eq_true rfl) d_Ma_init_15 (fun H locs hP hD hS => ?_)
  have hP : va_P (dC, dI) classes [(h0, .inr (2, [.ref q1, .ref q3, .null, .null, .null, .null, .null, .int 0])), (q1, .inl (cA2, 4, .inl (fun _ => 0))), (q3, .inl (cA4, 4, .inl (fun _ => 0)))] H := hP
  have hD : va_D A [(h0, .inr (2, [.ref q1, .ref q3, .null, .null, .null, .null, .null, .int 0])), (q1, .inl (cA2, 4, .inl (fun _ => 0))), (q3, .inl (cA4, 4, .inl (fun _ => 0)))] := hD
  refine lv_aload_n hx hb d_Ma_init_18 rfl (lv_at hl 0 rfl) ?_
  refine lv_sipush (v := 4096) hx hb d_Ma_init_19 (by decide) ?_
  refine va_newa (atype := .byte) (a0 := (4096, .inl (fun _ => 0))) (ty := .byte) hx hb (hts _ mw_117) rfl hK hP hD hS hA (fun _ => rfl) (by decide) (by decide) (by decide) (Nat.le_of_ble_eq_true rfl) (Nat.le_of_ble_eq_true rfl) d_Ma_init_22 (fun q5 cA6 H hK hP hD hS => ?_)
  have hP : va_P (dC, dI) classes [(h0, .inr (2, [.ref q1, .ref q3, .null, .null, .null, .null, .null, .int 0])), (q1, .inl (cA2, 4, .inl (fun _ => 0))), (q3, .inl (cA4, 4, .inl (fun _ => 0))), (q5, .inl (cA6, 4096, .inl (fun _ => 0)))] H := hP
  have hD : va_D A [(h0, .inr (2, [.ref q1, .ref q3, .null, .null, .null, .null, .null, .int 0])), (q1, .inl (cA2, 4, .inl (fun _ => 0))), (q3, .inl (cA4, 4, .inl (fun _ => 0))), (q5, .inl (cA6, 4096, .inl (fun _ => 0)))] := hD
  have hK : va_K (dC, dI) classes [(cA2, .int), (cA4, .int), (cA6, .byte)] s := hK
  refine W.widen (k := 3) (n := 4104) (by omega) (by omega) ?_
  refine va_putF (D := (dC, dI)) (ci := 2) (v := .ref q5) (ty := (.array .byte)) (C := R_Ma) (T := F_Ma) (N := 8) hx hb hts i_Ma t_Ma t_Ma_ok n_Ma hown hK hP hD hS 0 rfl rfl 2 (by decide) (hts _ mw_88) (fun _ h9 => h9) rfl hin rfl (by decide +kernel) rfl rfl (Nat.le_of_ble_eq_true rfl) d_Ma_init_24 (fun H locs hP hD hS => ?_)
  have hP : va_P (dC, dI) classes [(h0, .inr (2, [.ref q1, .ref q3, .ref q5, .null, .null, .null, .null, .int 0])), (q1, .inl (cA2, 4, .inl (fun _ => 0))), (q3, .inl (cA4, 4, .inl (fun _ => 0))), (q5, .inl (cA6, 4096, .inl (fun _ => 0)))] H := hP
  have hD : va_D A [(h0, .inr (2, [.ref q1, .ref q3, .ref q5, .null, .null, .null, .null, .int 0])), (q1, .inl (cA2, 4, .inl (fun _ => 0))), (q3, .inl (cA4, 4, .inl (fun _ => 0))), (q5, .inl (cA6, 4096, .inl (fun _ => 0)))] := hD
  refine lv_aload_n hx hb d_Ma_init_27 rfl (lv_at hl 0 rfl) ?_
  refine lv_bipush (v := 8) hx hb d_Ma_init_28 (by decide) ?_
  refine va_newa (atype := .byte) (a0 := (8, .inl (fun _ => 0))) (ty := .byte) hx hb (hts _ mw_117) rfl hK hP hD hS hA (fun _ => rfl) (by decide) (by decide) (by decide) (Nat.le_of_ble_eq_true rfl) (Nat.le_of_ble_eq_true rfl) d_Ma_init_30 (fun q7 cA8 H hK hP hD hS => ?_)
  have hP : va_P (dC, dI) classes [(h0, .inr (2, [.ref q1, .ref q3, .ref q5, .null, .null, .null, .null, .int 0])), (q1, .inl (cA2, 4, .inl (fun _ => 0))), (q3, .inl (cA4, 4, .inl (fun _ => 0))), (q5, .inl (cA6, 4096, .inl (fun _ => 0))), (q7, .inl (cA8, 8, .inl (fun _ => 0)))] H := hP
  have hD : va_D A [(h0, .inr (2, [.ref q1, .ref q3, .ref q5, .null, .null, .null, .null, .int 0])), (q1, .inl (cA2, 4, .inl (fun _ => 0))), (q3, .inl (cA4, 4, .inl (fun _ => 0))), (q5, .inl (cA6, 4096, .inl (fun _ => 0))), (q7, .inl (cA8, 8, .inl (fun _ => 0)))] := hD
  have hK : va_K (dC, dI) classes [(cA2, .int), (cA4, .int), (cA6, .byte), (cA8, .byte)] s := hK
  refine W.widen (k := 4) (n := 4112) (by omega) (by omega) ?_
  refine va_putF (D := (dC, dI)) (ci := 2) (v := .ref q7) (ty := (.array .byte)) (C := R_Ma) (T := F_Ma) (N := 8) hx hb hts i_Ma t_Ma t_Ma_ok n_Ma hown hK hP hD hS 0 rfl rfl 3 (by decide) (hts _ mw_91) (fun _ h9 => h9) rfl hin rfl (by decide +kernel) rfl rfl (Nat.le_of_ble_eq_true rfl) d_Ma_init_32 (fun H locs hP hD hS => ?_)
  have hP : va_P (dC, dI) classes [(h0, .inr (2, [.ref q1, .ref q3, .ref q5, .ref q7, .null, .null, .null, .int 0])), (q1, .inl (cA2, 4, .inl (fun _ => 0))), (q3, .inl (cA4, 4, .inl (fun _ => 0))), (q5, .inl (cA6, 4096, .inl (fun _ => 0))), (q7, .inl (cA8, 8, .inl (fun _ => 0)))] H := hP
  have hD : va_D A [(h0, .inr (2, [.ref q1, .ref q3, .ref q5, .ref q7, .null, .null, .null, .int 0])), (q1, .inl (cA2, 4, .inl (fun _ => 0))), (q3, .inl (cA4, 4, .inl (fun _ => 0))), (q5, .inl (cA6, 4096, .inl (fun _ => 0))), (q7, .inl (cA8, 8, .inl (fun _ => 0)))] := hD
  refine lv_aload_n hx hb d_Ma_init_35 rfl (lv_at hl 0 rfl) ?_
  refine lv_iconst (v := 4) hx hb d_Ma_init_36 (by decide) ?_
  refine va_newa (atype := .int) (a0 := (4, .inl (fun _ => 0))) (ty := .int) hx hb (hts _ mw_73) rfl hK hP hD hS hA (fun _ => rfl) (by decide) (by decide) (by decide) (Nat.le_of_ble_eq_true rfl) (Nat.le_of_ble_eq_true rfl) d_Ma_init_37 (fun q9 cA10 H hK hP hD hS => ?_)
  have hP : va_P (dC, dI) classes [(h0, .inr (2, [.ref q1, .ref q3, .ref q5, .ref q7, .null, .null, .null, .int 0])), (q1, .inl (cA2, 4, .inl (fun _ => 0))), (q3, .inl (cA4, 4, .inl (fun _ => 0))), (q5, .inl (cA6, 4096, .inl (fun _ => 0))), (q7, .inl (cA8, 8, .inl (fun _ => 0))), (q9, .inl (cA10, 4, .inl (fun _ => 0)))] H := hP
  have hD : va_D A [(h0, .inr (2, [.ref q1, .ref q3, .ref q5, .ref q7, .null, .null, .null, .int 0])), (q1, .inl (cA2, 4, .inl (fun _ => 0))), (q3, .inl (cA4, 4, .inl (fun _ => 0))), (q5, .inl (cA6, 4096, .inl (fun _ => 0))), (q7, .inl (cA8, 8, .inl (fun _ => 0))), (q9, .inl (cA10, 4, .inl (fun _ => 0)))] := hD
  have hK : va_K (dC, dI) classes [(cA2, .int), (cA4, .int), (cA6, .byte), (cA8, .byte), (cA10, .int)] s := hK
  refine W.widen (k := 5) (n := 4116) (by omega) (by omega) ?_
  refine va_putF (D := (dC, dI)) (ci := 2) (v := .ref q9) (ty := (.array .int)) (C := R_Ma) (T := F_Ma) (N := 8) hx hb hts i_Ma t_Ma t_Ma_ok n_Ma hown hK hP hD hS 0 rfl rfl 4 (by decide) (hts _ mw_93) (fun _ h9 => h9) rfl hin rfl (by decide +kernel) rfl rfl (Nat.le_of_ble_eq_true rfl) d_Ma_init_39 (fun H locs hP hD hS => ?_)
  have hP : va_P (dC, dI) classes [(h0, .inr (2, [.ref q1, .ref q3, .ref q5, .ref q7, .ref q9, .null, .null, .int 0])), (q1, .inl (cA2, 4, .inl (fun _ => 0))), (q3, .inl (cA4, 4, .inl (fun _ => 0))), (q5, .inl (cA6, 4096, .inl (fun _ => 0))), (q7, .inl (cA8, 8, .inl (fun _ => 0))), (q9, .inl (cA10, 4, .inl (fun _ => 0)))] H := hP
  have hD : va_D A [(h0, .inr (2, [.ref q1, .ref q3, .ref q5, .ref q7, .ref q9, .null, .null, .int 0])), (q1, .inl (cA2, 4, .inl (fun _ => 0))), (q3, .inl (cA4, 4, .inl (fun _ => 0))), (q5, .inl (cA6, 4096, .inl (fun _ => 0))), (q7, .inl (cA8, 8, .inl (fun _ => 0))), (q9, .inl (cA10, 4, .inl (fun _ => 0)))] := hD
  refine lv_aload_n hx hb d_Ma_init_42 rfl (lv_at hl 0 rfl) ?_
  refine lv_bipush (v := 64) hx hb d_Ma_init_43 (by decide) ?_
  refine va_newa (atype := .boolean) (a0 := (64, .inl (fun _ => 0))) (ty := .boolean) hx hb (hts _ mw_118) rfl hK hP hD hS hA (fun _ => rfl) (by decide) (by decide) (by decide) (Nat.le_of_ble_eq_true rfl) (Nat.le_of_ble_eq_true rfl) d_Ma_init_45 (fun q11 cA12 H hK hP hD hS => ?_)
  have hP : va_P (dC, dI) classes [(h0, .inr (2, [.ref q1, .ref q3, .ref q5, .ref q7, .ref q9, .null, .null, .int 0])), (q1, .inl (cA2, 4, .inl (fun _ => 0))), (q3, .inl (cA4, 4, .inl (fun _ => 0))), (q5, .inl (cA6, 4096, .inl (fun _ => 0))), (q7, .inl (cA8, 8, .inl (fun _ => 0))), (q9, .inl (cA10, 4, .inl (fun _ => 0))), (q11, .inl (cA12, 64, .inl (fun _ => 0)))] H := hP
  have hD : va_D A [(h0, .inr (2, [.ref q1, .ref q3, .ref q5, .ref q7, .ref q9, .null, .null, .int 0])), (q1, .inl (cA2, 4, .inl (fun _ => 0))), (q3, .inl (cA4, 4, .inl (fun _ => 0))), (q5, .inl (cA6, 4096, .inl (fun _ => 0))), (q7, .inl (cA8, 8, .inl (fun _ => 0))), (q9, .inl (cA10, 4, .inl (fun _ => 0))), (q11, .inl (cA12, 64, .inl (fun _ => 0)))] := hD
  have hK : va_K (dC, dI) classes [(cA2, .int), (cA4, .int), (cA6, .byte), (cA8, .byte), (cA10, .int), (cA12, .boolean)] s := hK
  refine W.widen (k := 6) (n := 4180) (by omega) (by omega) ?_
  refine va_putF (D := (dC, dI)) (ci := 2) (v := .ref q11) (ty := (.array .boolean)) (C := R_Ma) (T := F_Ma) (N := 8) hx hb hts i_Ma t_Ma t_Ma_ok n_Ma hown hK hP hD hS 0 rfl rfl 5 (by decide) (hts _ mw_94) (fun _ h9 => h9) rfl hin rfl (by decide +kernel) rfl rfl (Nat.le_of_ble_eq_true rfl) d_Ma_init_47 (fun H locs hP hD hS => ?_)
  have hP : va_P (dC, dI) classes [(h0, .inr (2, [.ref q1, .ref q3, .ref q5, .ref q7, .ref q9, .ref q11, .null, .int 0])), (q1, .inl (cA2, 4, .inl (fun _ => 0))), (q3, .inl (cA4, 4, .inl (fun _ => 0))), (q5, .inl (cA6, 4096, .inl (fun _ => 0))), (q7, .inl (cA8, 8, .inl (fun _ => 0))), (q9, .inl (cA10, 4, .inl (fun _ => 0))), (q11, .inl (cA12, 64, .inl (fun _ => 0)))] H := hP
  have hD : va_D A [(h0, .inr (2, [.ref q1, .ref q3, .ref q5, .ref q7, .ref q9, .ref q11, .null, .int 0])), (q1, .inl (cA2, 4, .inl (fun _ => 0))), (q3, .inl (cA4, 4, .inl (fun _ => 0))), (q5, .inl (cA6, 4096, .inl (fun _ => 0))), (q7, .inl (cA8, 8, .inl (fun _ => 0))), (q9, .inl (cA10, 4, .inl (fun _ => 0))), (q11, .inl (cA12, 64, .inl (fun _ => 0)))] := hD
  refine lv_aload_n hx hb d_Ma_init_50 rfl (lv_at hl 0 rfl) ?_
  refine lv_sipush (v := 512) hx hb d_Ma_init_51 (by decide) ?_
  refine va_newa (atype := .byte) (a0 := (512, .inl (fun _ => 0))) (ty := .byte) hx hb (hts _ mw_117) rfl hK hP hD hS hA (fun _ => rfl) (by decide) (by decide) (by decide) (Nat.le_of_ble_eq_true rfl) (Nat.le_of_ble_eq_true rfl) d_Ma_init_54 (fun q13 cA14 H hK hP hD hS => ?_)
  have hP : va_P (dC, dI) classes [(h0, .inr (2, [.ref q1, .ref q3, .ref q5, .ref q7, .ref q9, .ref q11, .null, .int 0])), (q1, .inl (cA2, 4, .inl (fun _ => 0))), (q3, .inl (cA4, 4, .inl (fun _ => 0))), (q5, .inl (cA6, 4096, .inl (fun _ => 0))), (q7, .inl (cA8, 8, .inl (fun _ => 0))), (q9, .inl (cA10, 4, .inl (fun _ => 0))), (q11, .inl (cA12, 64, .inl (fun _ => 0))), (q13, .inl (cA14, 512, .inl (fun _ => 0)))] H := hP
  have hD : va_D A [(h0, .inr (2, [.ref q1, .ref q3, .ref q5, .ref q7, .ref q9, .ref q11, .null, .int 0])), (q1, .inl (cA2, 4, .inl (fun _ => 0))), (q3, .inl (cA4, 4, .inl (fun _ => 0))), (q5, .inl (cA6, 4096, .inl (fun _ => 0))), (q7, .inl (cA8, 8, .inl (fun _ => 0))), (q9, .inl (cA10, 4, .inl (fun _ => 0))), (q11, .inl (cA12, 64, .inl (fun _ => 0))), (q13, .inl (cA14, 512, .inl (fun _ => 0)))] := hD
  have hK : va_K (dC, dI) classes [(cA2, .int), (cA4, .int), (cA6, .byte), (cA8, .byte), (cA10, .int), (cA12, .boolean), (cA14, .byte)] s := hK
  refine W.widen (k := 7) (n := 4692) (by omega) (by omega) ?_
  refine va_putF (D := (dC, dI)) (ci := 2) (v := .ref q13) (ty := (.array .byte)) (C := R_Ma) (T := F_Ma) (N := 8) hx hb hts i_Ma t_Ma t_Ma_ok n_Ma hown hK hP hD hS 0 rfl rfl 6 (by decide) (hts _ mw_95) (fun _ h9 => h9) rfl hin rfl (by decide +kernel) rfl rfl (Nat.le_of_ble_eq_true rfl) d_Ma_init_56 (fun H locs hP hD hS => ?_)
  have hP : va_P (dC, dI) classes [(h0, .inr (2, [.ref q1, .ref q3, .ref q5, .ref q7, .ref q9, .ref q11, .ref q13, .int 0])), (q1, .inl (cA2, 4, .inl (fun _ => 0))), (q3, .inl (cA4, 4, .inl (fun _ => 0))), (q5, .inl (cA6, 4096, .inl (fun _ => 0))), (q7, .inl (cA8, 8, .inl (fun _ => 0))), (q9, .inl (cA10, 4, .inl (fun _ => 0))), (q11, .inl (cA12, 64, .inl (fun _ => 0))), (q13, .inl (cA14, 512, .inl (fun _ => 0)))] H := hP
  have hD : va_D A [(h0, .inr (2, [.ref q1, .ref q3, .ref q5, .ref q7, .ref q9, .ref q11, .ref q13, .int 0])), (q1, .inl (cA2, 4, .inl (fun _ => 0))), (q3, .inl (cA4, 4, .inl (fun _ => 0))), (q5, .inl (cA6, 4096, .inl (fun _ => 0))), (q7, .inl (cA8, 8, .inl (fun _ => 0))), (q9, .inl (cA10, 4, .inl (fun _ => 0))), (q11, .inl (cA12, 64, .inl (fun _ => 0))), (q13, .inl (cA14, 512, .inl (fun _ => 0)))] := hD
  have hP9 := hP.sub (ws' := [(h0, .inr (2, [.ref q1, .ref q3, .ref q5, .ref q7, .ref q9, .ref q11, .ref q13, .int 0])), (q1, .inl (cA2, 4, .inl (fun _ => 0))), (q3, .inl (cA4, 4, .inl (fun _ => 0))), (q5, .inl (cA6, 4096, .inl (fun _ => 0))), (q9, .inl (cA10, 4, .inl (fun _ => 0))), (q11, .inl (cA12, 64, .inl (fun _ => 0))), (q13, .inl (cA14, 512, .inl (fun _ => 0)))]) [0, 1, 2, 3, 5, 6, 7] rfl
  have hD9 := hD.sub (ws' := [(h0, .inr (2, [.ref q1, .ref q3, .ref q5, .ref q7, .ref q9, .ref q11, .ref q13, .int 0])), (q1, .inl (cA2, 4, .inl (fun _ => 0))), (q3, .inl (cA4, 4, .inl (fun _ => 0))), (q5, .inl (cA6, 4096, .inl (fun _ => 0))), (q9, .inl (cA10, 4, .inl (fun _ => 0))), (q11, .inl (cA12, 64, .inl (fun _ => 0))), (q13, .inl (cA14, 512, .inl (fun _ => 0)))]) [0, 1, 2, 3, 5, 6, 7] (by decide) rfl
  have hK9 := hK.sub (tys' := [(cA2, .int), (cA4, .int), (cA6, .byte), (cA10, .int), (cA12, .boolean), (cA14, .byte)]) [0, 1, 2, 4, 5, 6] rfl
  refine W.widen (k := 7) (n := 4692) (by omega) (by omega) ?_
  exact W.vret hx hb hr (fun t ht hW => ⟨⟨(), rfl, trivial, q1, cA2, q3, cA4, q5, cA6, q7, q9, cA10, q11, cA12, q13, cA14, by rw [ht]; exact hP9, va_K.moved hW.alike hK9, hD9⟩, hS.F ht⟩) hS.2.2 d_Ma_init_59
set_option maxHeartbeats 4000000 in
set_option maxRecDepth 100000 in
theorem Me_init (l : Launch) (dC : Nat → ClassId) (dI : Nat → Nat → Nat) (sz : Nat) (h0 : Nat) (h1 : Nat) : Met l y_Me_init (.code y_Me_init prog_6_method_1_code 2 none :: zz_W) ({ frames := 1, cells := 2, slots := 464, locals := 12 }) (va_Pc [.ref h0, .ref h1] (zz_B dC dI [(h0, .inr (3, [.null, .null, .null, .int 0, .int 0]))] [] sz)) (va_Qv (fun (_ : Unit) => True) (fun (_ : Unit) (t : State) => ∃ (q1 : Nat) (cA2 : ClassId) (q3 : Nat), va_P (dC, dI) classes [(h0, .inr (3, [.ref h1, .ref q1, .ref q3, .int 0, .int 0])), (q1, .inl (cA2, 400, .inl (fun _ => 0)))] t.heap ∧ va_K (dC, dI) classes [(cA2, .byte)] t ∧ va_D (va_A [(h0, .inr (3, [.null, .null, .null, .int 0, .int 0]))] sz) [(h0, .inr (3, [.ref h1, .ref q1, .ref q3, .int 0, .int 0])), (q1, .inl (cA2, 400, .inl (fun _ => 0)))]) (va_A [(h0, .inr (3, [.null, .null, .null, .int 0, .int 0]))] sz)) 2 464 (va_A [(h0, .inr (3, [.null, .null, .null, .int 0, .int 0]))] sz) := by
  refine Met.ofW (cc := prog_6_method_1_code) (maxL := 2) (ret := none) (by decide) rfl ?_
  intro p e s m args below meth c s₁ B hml hv
  obtain ⟨rfl, hsz, hP, hK, hD0, hT⟩ := hv
  have hx := B.exec
  have hb := B.bytes
  have hr := B.returns
  have hts0 := atoms_spec (ws := (.code y_Me_init prog_6_method_1_code 2 none :: zz_W)) B.pre
  have hts : ∀ w ∈ zz_W, w.before _ s = true := fun w h => hts0 w (List.mem_cons_of_mem _ h)
  have hown : s.vm.findClass R_Me = some m.cls := findClass_of_methodNamed B.named
  have hlocks := B.notSynchronized
  have hin : meth.name = "<init>" := (name_of_methodNamed B.named B.method).1
  subst hsz
  have hD := hD0.self (sz := s.heap.size)
  generalize hAe : va_A [(h0, .inr (3, [.null, .null, .null, .int 0, .int 0]))] s.heap.size = A at hD ⊢
  have hA : ∀ q : Nat, s.heap.size ≤ q → A q := fun q h => by rw [← hAe]; exact Or.inr h
  have hS : va_S A s.heap s.heap [] := va_S.rf
  have hl := lv_entry ([.ref h0, .ref h1]) (n := 2) (Nat.le_of_ble_eq_true rfl)
  rw [lg_entry_eq]
  generalize (lg_sl ([.ref h0, .ref h1]) ++ List.replicate (2 - (lg_sl ([.ref h0, .ref h1])).length) Slot.unset).toArray = ls at hl ⊢
  have hl : lv_has ls 2 [(0, .ref h0), (1, .ref h1)] := hl
  refine lv_aload_n hx hb d_Me_init_0 rfl (lv_at hl 0 rfl) ?_
  refine W.objInit hx hb hown (hts _ mw_124) (hts _ mw_33) (hts _ mw_oinit) rfl (by rw [hml]; exact hl.1) rfl d_Me_init_1 (Nat.le_of_ble_eq_true rfl) (Nat.le_of_ble_eq_true rfl) ?_
  refine W.eq (g2 := F0 m 4 ls []) rfl ?_
  refine lv_aload_n hx hb d_Me_init_4 rfl (lv_at hl 0 rfl) ?_
  refine lv_sipush (v := 400) hx hb d_Me_init_5 (by decide) ?_
  refine va_newa (atype := .byte) (a0 := (400, .inl (fun _ => 0))) (ty := .byte) hx hb (hts _ mw_117) rfl hK hP hD hS hA (fun _ => rfl) (by decide) (by decide) (by decide) (Nat.le_of_ble_eq_true rfl) (Nat.le_of_ble_eq_true rfl) d_Me_init_8 (fun q1 cA2 H hK hP hD hS => ?_)
  have hP : va_P (dC, dI) classes [(h0, .inr (3, [.null, .null, .null, .int 0, .int 0])), (q1, .inl (cA2, 400, .inl (fun _ => 0)))] H := hP
  have hD : va_D A [(h0, .inr (3, [.null, .null, .null, .int 0, .int 0])), (q1, .inl (cA2, 400, .inl (fun _ => 0)))] := hD
  have hK : va_K (dC, dI) classes [(cA2, .byte)] s := hK
  refine W.widen (k := 1) (n := 400) (by omega) (by omega) ?_
  refine va_putF (D := (dC, dI)) (ci := 3) (v := .ref q1) (ty := (.array .byte)) (C := R_Me) (T := F_Me) (N := 5) hx hb hts i_Me t_Me t_Me_ok n_Me hown hK hP hD hS 0 rfl rfl 1 (by decide) (hts _ mw_127) (fun _ h9 => h9) rfl hin rfl (by decide +kernel) rfl rfl (Nat.le_of_ble_eq_true rfl) d_Me_init_10 (fun H locs hP hD hS => ?_)
  have hP : va_P (dC, dI) classes [(h0, .inr (3, [.null, .ref q1, .null, .int 0, .int 0])), (q1, .inl (cA2, 400, .inl (fun _ => 0)))] H := hP
  have hD : va_D A [(h0, .inr (3, [.null, .ref q1, .null, .int 0, .int 0])), (q1, .inl (cA2, 400, .inl (fun _ => 0)))] := hD
  refine lv_aload_n hx hb d_Me_init_13 rfl (lv_at hl 0 rfl) ?_
  refine lv_bipush (v := 64) hx hb d_Me_init_14 (by decide) ?_
  refine va_newa (atype := .byte) (a0 := (64, .inl (fun _ => 0))) (ty := .byte) hx hb (hts _ mw_117) rfl hK hP hD hS hA (fun _ => rfl) (by decide) (by decide) (by decide) (Nat.le_of_ble_eq_true rfl) (Nat.le_of_ble_eq_true rfl) d_Me_init_16 (fun q3 cA4 H hK hP hD hS => ?_)
  have hP : va_P (dC, dI) classes [(h0, .inr (3, [.null, .ref q1, .null, .int 0, .int 0])), (q1, .inl (cA2, 400, .inl (fun _ => 0))), (q3, .inl (cA4, 64, .inl (fun _ => 0)))] H := hP
  have hD : va_D A [(h0, .inr (3, [.null, .ref q1, .null, .int 0, .int 0])), (q1, .inl (cA2, 400, .inl (fun _ => 0))), (q3, .inl (cA4, 64, .inl (fun _ => 0)))] := hD
  have hK : va_K (dC, dI) classes [(cA2, .byte), (cA4, .byte)] s := hK
  refine W.widen (k := 2) (n := 464) (by omega) (by omega) ?_
  refine va_putF (D := (dC, dI)) (ci := 3) (v := .ref q3) (ty := (.array .byte)) (C := R_Me) (T := F_Me) (N := 5) hx hb hts i_Me t_Me t_Me_ok n_Me hown hK hP hD hS 0 rfl rfl 2 (by decide) (hts _ mw_129) (fun _ h9 => h9) rfl hin rfl (by decide +kernel) rfl rfl (Nat.le_of_ble_eq_true rfl) d_Me_init_18 (fun H locs hP hD hS => ?_)
  have hP : va_P (dC, dI) classes [(h0, .inr (3, [.null, .ref q1, .ref q3, .int 0, .int 0])), (q1, .inl (cA2, 400, .inl (fun _ => 0))), (q3, .inl (cA4, 64, .inl (fun _ => 0)))] H := hP
  have hD : va_D A [(h0, .inr (3, [.null, .ref q1, .ref q3, .int 0, .int 0])), (q1, .inl (cA2, 400, .inl (fun _ => 0))), (q3, .inl (cA4, 64, .inl (fun _ => 0)))] := hD
  refine lv_aload_n hx hb d_Me_init_21 rfl (lv_at hl 0 rfl) ?_
  refine lv_aload_n hx hb d_Me_init_22 rfl (lv_at hl 1 rfl) ?_
  refine va_putF (D := (dC, dI)) (ci := 3) (v := .ref h1) (ty := (.object R_Ma)) (C := R_Me) (T := F_Me) (N := 5) hx hb hts i_Me t_Me t_Me_ok n_Me hown hK hP hD hS 0 rfl rfl 0 (by decide) (hts _ mw_125) (fun _ h9 => h9) rfl hin rfl (by decide +kernel) rfl rfl (Nat.le_of_ble_eq_true rfl) d_Me_init_23 (fun H locs hP hD hS => ?_)
  have hP : va_P (dC, dI) classes [(h0, .inr (3, [.ref h1, .ref q1, .ref q3, .int 0, .int 0])), (q1, .inl (cA2, 400, .inl (fun _ => 0))), (q3, .inl (cA4, 64, .inl (fun _ => 0)))] H := hP
  have hD : va_D A [(h0, .inr (3, [.ref h1, .ref q1, .ref q3, .int 0, .int 0])), (q1, .inl (cA2, 400, .inl (fun _ => 0))), (q3, .inl (cA4, 64, .inl (fun _ => 0)))] := hD
  have hP9 := hP.sub (ws' := [(h0, .inr (3, [.ref h1, .ref q1, .ref q3, .int 0, .int 0])), (q1, .inl (cA2, 400, .inl (fun _ => 0)))]) [0, 1] rfl
  have hD9 := hD.sub (ws' := [(h0, .inr (3, [.ref h1, .ref q1, .ref q3, .int 0, .int 0])), (q1, .inl (cA2, 400, .inl (fun _ => 0)))]) [0, 1] (by decide) rfl
  have hK9 := hK.sub (tys' := [(cA2, .byte)]) [0] rfl
  refine W.widen (k := 2) (n := 464) (by omega) (by omega) ?_
  exact W.vret hx hb hr (fun t ht hW => ⟨⟨(), rfl, trivial, q1, cA2, q3, by rw [ht]; exact hP9, va_K.moved hW.alike hK9, hD9⟩, hS.F ht⟩) hS.2.2 d_Me_init_26
set_option maxHeartbeats 4000000 in
set_option maxRecDepth 100000 in
theorem Fo_init (l : Launch) (dC : Nat → ClassId) (dI : Nat → Nat → Nat) (sz : Nat) (h0 : Nat) : Met l y_Fo_init (.code y_Fo_init prog_4_method_1_code 1 none :: zz_W) ({ frames := 1, cells := 4, slots := 6800, locals := 12 }) (va_Pc [.ref h0] (zz_B dC dI [(h0, .inr (4, [.null, .null, .null, .null]))] [] sz)) (va_Qv (fun (_ : Unit) => True) (fun (_ : Unit) (t : State) => va_P (dC, dI) classes [] t.heap ∧ va_K (dC, dI) classes [] t ∧ va_D (va_A [(h0, .inr (4, [.null, .null, .null, .null]))] sz) []) (va_A [(h0, .inr (4, [.null, .null, .null, .null]))] sz)) 4 6800 (va_A [(h0, .inr (4, [.null, .null, .null, .null]))] sz) := by
  refine Met.ofW (cc := prog_4_method_1_code) (maxL := 1) (ret := none) (by decide) rfl ?_
  intro p e s m args below meth c s₁ B hml hv
  obtain ⟨rfl, hsz, hP, hK, hD0, hT⟩ := hv
  have hx := B.exec
  have hb := B.bytes
  have hr := B.returns
  have hts0 := atoms_spec (ws := (.code y_Fo_init prog_4_method_1_code 1 none :: zz_W)) B.pre
  have hts : ∀ w ∈ zz_W, w.before _ s = true := fun w h => hts0 w (List.mem_cons_of_mem _ h)
  have hown : s.vm.findClass R_Fo = some m.cls := findClass_of_methodNamed B.named
  have hlocks := B.notSynchronized
  have hin : meth.name = "<init>" := (name_of_methodNamed B.named B.method).1
  subst hsz
  have hD := hD0.self (sz := s.heap.size)
  generalize hAe : va_A [(h0, .inr (4, [.null, .null, .null, .null]))] s.heap.size = A at hD ⊢
  have hA : ∀ q : Nat, s.heap.size ≤ q → A q := fun q h => by rw [← hAe]; exact Or.inr h
  have hS : va_S A s.heap s.heap [] := va_S.rf
  have hl := lv_entry ([.ref h0]) (n := 1) (Nat.le_of_ble_eq_true rfl)
  rw [lg_entry_eq]
  generalize (lg_sl ([.ref h0]) ++ List.replicate (1 - (lg_sl ([.ref h0])).length) Slot.unset).toArray = ls at hl ⊢
  have hl : lv_has ls 1 [(0, .ref h0)] := hl
  refine lv_aload_n hx hb d_Fo_init_0 rfl (lv_at hl 0 rfl) ?_
  refine W.objInit hx hb hown (hts _ mw_151) (hts _ mw_33) (hts _ mw_oinit) rfl (by rw [hml]; exact hl.1) rfl d_Fo_init_1 (Nat.le_of_ble_eq_true rfl) (Nat.le_of_ble_eq_true rfl) ?_
  refine W.eq (g2 := F0 m 4 ls []) rfl ?_
  refine lv_aload_n hx hb d_Fo_init_4 rfl (lv_at hl 0 rfl) ?_
  refine lv_sipush (v := 200) hx hb d_Fo_init_5 (by decide) ?_
  refine va_newa (atype := .int) (a0 := (200, .inl (fun _ => 0))) (ty := .int) hx hb (hts _ mw_73) rfl hK hP hD hS hA (fun _ => rfl) (by decide) (by decide) (by decide) (Nat.le_of_ble_eq_true rfl) (Nat.le_of_ble_eq_true rfl) d_Fo_init_8 (fun q1 cA2 H hK hP hD hS => ?_)
  have hP : va_P (dC, dI) classes [(h0, .inr (4, [.null, .null, .null, .null])), (q1, .inl (cA2, 200, .inl (fun _ => 0)))] H := hP
  have hD : va_D A [(h0, .inr (4, [.null, .null, .null, .null])), (q1, .inl (cA2, 200, .inl (fun _ => 0)))] := hD
  have hK : va_K (dC, dI) classes [(cA2, .int)] s := hK
  refine W.widen (k := 1) (n := 200) (by omega) (by omega) ?_
  refine va_putF (D := (dC, dI)) (ci := 4) (v := .ref q1) (ty := (.array .int)) (C := R_Fo) (T := F_Fo) (N := 4) hx hb hts i_Fo t_Fo t_Fo_ok n_Fo hown hK hP hD hS 0 rfl rfl 0 (by decide) (hts _ mw_152) (fun _ h9 => h9) rfl hin rfl (by decide +kernel) rfl rfl (Nat.le_of_ble_eq_true rfl) d_Fo_init_10 (fun H locs hP hD hS => ?_)
  have hP : va_P (dC, dI) classes [(h0, .inr (4, [.ref q1, .null, .null, .null])), (q1, .inl (cA2, 200, .inl (fun _ => 0)))] H := hP
  have hD : va_D A [(h0, .inr (4, [.ref q1, .null, .null, .null])), (q1, .inl (cA2, 200, .inl (fun _ => 0)))] := hD
  refine lv_aload_n hx hb d_Fo_init_13 rfl (lv_at hl 0 rfl) ?_
  refine lv_sipush (v := 2200) hx hb d_Fo_init_14 (by decide) ?_
  refine va_newa (atype := .boolean) (a0 := (2200, .inl (fun _ => 0))) (ty := .boolean) hx hb (hts _ mw_118) rfl hK hP hD hS hA (fun _ => rfl) (by decide) (by decide) (by decide) (Nat.le_of_ble_eq_true rfl) (Nat.le_of_ble_eq_true rfl) d_Fo_init_17 (fun q3 cA4 H hK hP hD hS => ?_)
  have hP : va_P (dC, dI) classes [(h0, .inr (4, [.ref q1, .null, .null, .null])), (q1, .inl (cA2, 200, .inl (fun _ => 0))), (q3, .inl (cA4, 2200, .inl (fun _ => 0)))] H := hP
  have hD : va_D A [(h0, .inr (4, [.ref q1, .null, .null, .null])), (q1, .inl (cA2, 200, .inl (fun _ => 0))), (q3, .inl (cA4, 2200, .inl (fun _ => 0)))] := hD
  have hK : va_K (dC, dI) classes [(cA2, .int), (cA4, .boolean)] s := hK
  refine W.widen (k := 2) (n := 2400) (by omega) (by omega) ?_
  refine va_putF (D := (dC, dI)) (ci := 4) (v := .ref q3) (ty := (.array .boolean)) (C := R_Fo) (T := F_Fo) (N := 4) hx hb hts i_Fo t_Fo t_Fo_ok n_Fo hown hK hP hD hS 0 rfl rfl 1 (by decide) (hts _ mw_153) (fun _ h9 => h9) rfl hin rfl (by decide +kernel) rfl rfl (Nat.le_of_ble_eq_true rfl) d_Fo_init_19 (fun H locs hP hD hS => ?_)
  have hP : va_P (dC, dI) classes [(h0, .inr (4, [.ref q1, .ref q3, .null, .null])), (q1, .inl (cA2, 200, .inl (fun _ => 0))), (q3, .inl (cA4, 2200, .inl (fun _ => 0)))] H := hP
  have hD : va_D A [(h0, .inr (4, [.ref q1, .ref q3, .null, .null])), (q1, .inl (cA2, 200, .inl (fun _ => 0))), (q3, .inl (cA4, 2200, .inl (fun _ => 0)))] := hD
  refine lv_aload_n hx hb d_Fo_init_22 rfl (lv_at hl 0 rfl) ?_
  refine lv_sipush (v := 2200) hx hb d_Fo_init_23 (by decide) ?_
  refine va_newa (atype := .long) (a0 := (2200, .inr (.inl (fun _ => 0)))) (ty := .long) hx hb (hts _ mw_165) rfl hK hP hD hS hA (fun _ => rfl) (by decide) (by decide) (by decide) (Nat.le_of_ble_eq_true rfl) (Nat.le_of_ble_eq_true rfl) d_Fo_init_26 (fun q5 cA6 H hK hP hD hS => ?_)
  have hP : va_P (dC, dI) classes [(h0, .inr (4, [.ref q1, .ref q3, .null, .null])), (q1, .inl (cA2, 200, .inl (fun _ => 0))), (q3, .inl (cA4, 2200, .inl (fun _ => 0))), (q5, .inl (cA6, 2200, .inr (.inl (fun _ => 0))))] H := hP
  have hD : va_D A [(h0, .inr (4, [.ref q1, .ref q3, .null, .null])), (q1, .inl (cA2, 200, .inl (fun _ => 0))), (q3, .inl (cA4, 2200, .inl (fun _ => 0))), (q5, .inl (cA6, 2200, .inr (.inl (fun _ => 0))))] := hD
  have hK : va_K (dC, dI) classes [(cA2, .int), (cA4, .boolean), (cA6, .long)] s := hK
  refine W.widen (k := 3) (n := 4600) (by omega) (by omega) ?_
  refine va_putF (D := (dC, dI)) (ci := 4) (v := .ref q5) (ty := (.array .long)) (C := R_Fo) (T := F_Fo) (N := 4) hx hb hts i_Fo t_Fo t_Fo_ok n_Fo hown hK hP hD hS 0 rfl rfl 2 (by decide) (hts _ mw_154) (fun _ h9 => h9) rfl hin rfl (by decide +kernel) rfl rfl (Nat.le_of_ble_eq_true rfl) d_Fo_init_28 (fun H locs hP hD hS => ?_)
  have hP : va_P (dC, dI) classes [(h0, .inr (4, [.ref q1, .ref q3, .ref q5, .null])), (q1, .inl (cA2, 200, .inl (fun _ => 0))), (q3, .inl (cA4, 2200, .inl (fun _ => 0))), (q5, .inl (cA6, 2200, .inr (.inl (fun _ => 0))))] H := hP
  have hD : va_D A [(h0, .inr (4, [.ref q1, .ref q3, .ref q5, .null])), (q1, .inl (cA2, 200, .inl (fun _ => 0))), (q3, .inl (cA4, 2200, .inl (fun _ => 0))), (q5, .inl (cA6, 2200, .inr (.inl (fun _ => 0))))] := hD
  refine lv_aload_n hx hb d_Fo_init_31 rfl (lv_at hl 0 rfl) ?_
  refine lv_sipush (v := 2200) hx hb d_Fo_init_32 (by decide) ?_
  refine va_newa (atype := .long) (a0 := (2200, .inr (.inl (fun _ => 0)))) (ty := .long) hx hb (hts _ mw_165) rfl hK hP hD hS hA (fun _ => rfl) (by decide) (by decide) (by decide) (Nat.le_of_ble_eq_true rfl) (Nat.le_of_ble_eq_true rfl) d_Fo_init_35 (fun q7 cA8 H hK hP hD hS => ?_)
  have hP : va_P (dC, dI) classes [(h0, .inr (4, [.ref q1, .ref q3, .ref q5, .null])), (q1, .inl (cA2, 200, .inl (fun _ => 0))), (q3, .inl (cA4, 2200, .inl (fun _ => 0))), (q5, .inl (cA6, 2200, .inr (.inl (fun _ => 0)))), (q7, .inl (cA8, 2200, .inr (.inl (fun _ => 0))))] H := hP
  have hD : va_D A [(h0, .inr (4, [.ref q1, .ref q3, .ref q5, .null])), (q1, .inl (cA2, 200, .inl (fun _ => 0))), (q3, .inl (cA4, 2200, .inl (fun _ => 0))), (q5, .inl (cA6, 2200, .inr (.inl (fun _ => 0)))), (q7, .inl (cA8, 2200, .inr (.inl (fun _ => 0))))] := hD
  have hK : va_K (dC, dI) classes [(cA2, .int), (cA4, .boolean), (cA6, .long), (cA8, .long)] s := hK
  refine W.widen (k := 4) (n := 6800) (by omega) (by omega) ?_
  refine va_putF (D := (dC, dI)) (ci := 4) (v := .ref q7) (ty := (.array .long)) (C := R_Fo) (T := F_Fo) (N := 4) hx hb hts i_Fo t_Fo t_Fo_ok n_Fo hown hK hP hD hS 0 rfl rfl 3 (by decide) (hts _ mw_155) (fun _ h9 => h9) rfl hin rfl (by decide +kernel) rfl rfl (Nat.le_of_ble_eq_true rfl) d_Fo_init_37 (fun H locs hP hD hS => ?_)
  have hP : va_P (dC, dI) classes [(h0, .inr (4, [.ref q1, .ref q3, .ref q5, .ref q7])), (q1, .inl (cA2, 200, .inl (fun _ => 0))), (q3, .inl (cA4, 2200, .inl (fun _ => 0))), (q5, .inl (cA6, 2200, .inr (.inl (fun _ => 0)))), (q7, .inl (cA8, 2200, .inr (.inl (fun _ => 0))))] H := hP
  have hD : va_D A [(h0, .inr (4, [.ref q1, .ref q3, .ref q5, .ref q7])), (q1, .inl (cA2, 200, .inl (fun _ => 0))), (q3, .inl (cA4, 2200, .inl (fun _ => 0))), (q5, .inl (cA6, 2200, .inr (.inl (fun _ => 0)))), (q7, .inl (cA8, 2200, .inr (.inl (fun _ => 0))))] := hD
  have hP9 := hP.sub (ws' := []) [] rfl
  have hD9 := hD.sub (ws' := []) [] (by decide) rfl
  have hK9 := hK.sub (tys' := []) [] rfl
  refine W.widen (k := 4) (n := 6800) (by omega) (by omega) ?_
  exact W.vret hx hb hr (fun t ht hW => ⟨⟨(), rfl, trivial, by rw [ht]; exact hP9, va_K.moved hW.alike hK9, hD9⟩, hS.F ht⟩) hS.2.2 d_Fo_init_40
set_option maxHeartbeats 4000000 in
set_option maxRecDepth 100000 in
theorem Ru_init (l : Launch) (dC : Nat → ClassId) (dI : Nat → Nat → Nat) (sz : Nat) (h0 : Nat) (h1 : Nat) (h2 : Nat) (h3 : Nat) : Met l y_Ru_init (.code y_Ru_init prog_10_method_1_code 4 none :: zz_W) ({ frames := 1, cells := 3, slots := 130, locals := 12 }) (va_Pc [.ref h0, .ref h1, .ref h2, .ref h3] (zz_B dC dI [(h0, .inr (8, [.null, .null, .null, .null, .null, .null, .int 0, .int 0, .long 0, .int 0, .int 0, .int 0]))] [] sz)) (va_Qv (fun (_ : Unit) => True) (fun (_ : Unit) (t : State) => ∃ (q1 : Nat) (q3 : Nat) (q5 : Nat), va_P (dC, dI) classes [(h0, .inr (8, [.ref h1, .ref h2, .ref h3, .ref q1, .ref q3, .ref q5, .int 0, .int 0, .long 0, .int 0, .int 0, .int 0]))] t.heap ∧ va_K (dC, dI) classes [] t ∧ va_D (va_A [(h0, .inr (8, [.null, .null, .null, .null, .null, .null, .int 0, .int 0, .long 0, .int 0, .int 0, .int 0]))] sz) [(h0, .inr (8, [.ref h1, .ref h2, .ref h3, .ref q1, .ref q3, .ref q5, .int 0, .int 0, .long 0, .int 0, .int 0, .int 0]))]) (va_A [(h0, .inr (8, [.null, .null, .null, .null, .null, .null, .int 0, .int 0, .long 0, .int 0, .int 0, .int 0]))] sz)) 3 130 (va_A [(h0, .inr (8, [.null, .null, .null, .null, .null, .null, .int 0, .int 0, .long 0, .int 0, .int 0, .int 0]))] sz) := by
  refine Met.ofW (cc := prog_10_method_1_code) (maxL := 4) (ret := none) (by decide) rfl ?_
  intro p e s m args below meth c s₁ B hml hv
  obtain ⟨rfl, hsz, hP, hK, hD0, hT⟩ := hv
  have hx := B.exec
  have hb := B.bytes
  have hr := B.returns
  have hts0 := atoms_spec (ws := (.code y_Ru_init prog_10_method_1_code 4 none :: zz_W)) B.pre
  have hts : ∀ w ∈ zz_W, w.before _ s = true := fun w h => hts0 w (List.mem_cons_of_mem _ h)
  have hown : s.vm.findClass R_Ru = some m.cls := findClass_of_methodNamed B.named
  have hlocks := B.notSynchronized
  have hin : meth.name = "<init>" := (name_of_methodNamed B.named B.method).1
  subst hsz
  have hD := hD0.self (sz := s.heap.size)
  generalize hAe : va_A [(h0, .inr (8, [.null, .null, .null, .null, .null, .null, .int 0, .int 0, .long 0, .int 0, .int 0, .int 0]))] s.heap.size = A at hD ⊢
  have hA : ∀ q : Nat, s.heap.size ≤ q → A q := fun q h => by rw [← hAe]; exact Or.inr h
  have hS : va_S A s.heap s.heap [] := va_S.rf
  have hl := lv_entry ([.ref h0, .ref h1, .ref h2, .ref h3]) (n := 4) (Nat.le_of_ble_eq_true rfl)
  rw [lg_entry_eq]
  generalize (lg_sl ([.ref h0, .ref h1, .ref h2, .ref h3]) ++ List.replicate (4 - (lg_sl ([.ref h0, .ref h1, .ref h2, .ref h3])).length) Slot.unset).toArray = ls at hl ⊢
  have hl : lv_has ls 4 [(0, .ref h0), (1, .ref h1), (2, .ref h2), (3, .ref h3)] := hl
  refine lv_aload_n hx hb d_Ru_init_0 rfl (lv_at hl 0 rfl) ?_
  refine W.objInit hx hb hown (hts _ mw_281) (hts _ mw_33) (hts _ mw_oinit) rfl (by rw [hml]; exact hl.1) rfl d_Ru_init_1 (Nat.le_of_ble_eq_true rfl) (Nat.le_of_ble_eq_true rfl) ?_
  refine W.eq (g2 := F0 m 4 ls []) rfl ?_
  refine lv_aload_n hx hb d_Ru_init_4 rfl (lv_at hl 0 rfl) ?_
  refine lv_bipush (v := 11) hx hb d_Ru_init_5 (by decide) ?_
  refine va_newa (atype := .long) (a0 := (11, .inr (.inl (fun _ => 0)))) (ty := .long) hx hb (hts _ mw_165) rfl hK hP hD hS hA (fun _ => rfl) (by decide) (by decide) (by decide) (Nat.le_of_ble_eq_true rfl) (Nat.le_of_ble_eq_true rfl) d_Ru_init_7 (fun q1 cA2 H hK hP hD hS => ?_)
  have hP : va_P (dC, dI) classes [(h0, .inr (8, [.null, .null, .null, .null, .null, .null, .int 0, .int 0, .long 0, .int 0, .int 0, .int 0])), (q1, .inl (cA2, 11, .inr (.inl (fun _ => 0))))] H := hP
  have hD : va_D A [(h0, .inr (8, [.null, .null, .null, .null, .null, .null, .int 0, .int 0, .long 0, .int 0, .int 0, .int 0])), (q1, .inl (cA2, 11, .inr (.inl (fun _ => 0))))] := hD
  have hK : va_K (dC, dI) classes [(cA2, .long)] s := hK
  refine W.widen (k := 1) (n := 11) (by omega) (by omega) ?_
  refine va_putF (D := (dC, dI)) (ci := 8) (v := .ref q1) (ty := (.array .long)) (C := R_Ru) (T := F_Ru) (N := 12) hx hb hts i_Ru t_Ru t_Ru_ok n_Ru hown hK hP hD hS 0 rfl rfl 3 (by decide) (hts _ mw_285) (fun _ h9 => h9) rfl hin rfl (by decide +kernel) rfl rfl (Nat.le_of_ble_eq_true rfl) d_Ru_init_9 (fun H locs hP hD hS => ?_)
  have hP : va_P (dC, dI) classes [(h0, .inr (8, [.null, .null, .null, .ref q1, .null, .null, .int 0, .int 0, .long 0, .int 0, .int 0, .int 0])), (q1, .inl (cA2, 11, .inr (.inl (fun _ => 0))))] H := hP
  have hD : va_D A [(h0, .inr (8, [.null, .null, .null, .ref q1, .null, .null, .int 0, .int 0, .long 0, .int 0, .int 0, .int 0])), (q1, .inl (cA2, 11, .inr (.inl (fun _ => 0))))] := hD
  refine lv_aload_n hx hb d_Ru_init_12 rfl (lv_at hl 0 rfl) ?_
  refine lv_bipush (v := 19) hx hb d_Ru_init_13 (by decide) ?_
  refine va_newa (atype := .int) (a0 := (19, .inl (fun _ => 0))) (ty := .int) hx hb (hts _ mw_73) rfl hK hP hD hS hA (fun _ => rfl) (by decide) (by decide) (by decide) (Nat.le_of_ble_eq_true rfl) (Nat.le_of_ble_eq_true rfl) d_Ru_init_15 (fun q3 cA4 H hK hP hD hS => ?_)
  have hP : va_P (dC, dI) classes [(h0, .inr (8, [.null, .null, .null, .ref q1, .null, .null, .int 0, .int 0, .long 0, .int 0, .int 0, .int 0])), (q1, .inl (cA2, 11, .inr (.inl (fun _ => 0)))), (q3, .inl (cA4, 19, .inl (fun _ => 0)))] H := hP
  have hD : va_D A [(h0, .inr (8, [.null, .null, .null, .ref q1, .null, .null, .int 0, .int 0, .long 0, .int 0, .int 0, .int 0])), (q1, .inl (cA2, 11, .inr (.inl (fun _ => 0)))), (q3, .inl (cA4, 19, .inl (fun _ => 0)))] := hD
  have hK : va_K (dC, dI) classes [(cA2, .long), (cA4, .int)] s := hK
  refine W.widen (k := 2) (n := 30) (by omega) (by omega) ?_
  refine va_putF (D := (dC, dI)) (ci := 8) (v := .ref q3) (ty := (.array .int)) (C := R_Ru) (T := F_Ru) (N := 12) hx hb hts i_Ru t_Ru t_Ru_ok n_Ru hown hK hP hD hS 0 rfl rfl 4 (by decide) (hts _ mw_286) (fun _ h9 => h9) rfl hin rfl (by decide +kernel) rfl rfl (Nat.le_of_ble_eq_true rfl) d_Ru_init_17 (fun H locs hP hD hS => ?_)
  have hP : va_P (dC, dI) classes [(h0, .inr (8, [.null, .null, .null, .ref q1, .ref q3, .null, .int 0, .int 0, .long 0, .int 0, .int 0, .int 0])), (q1, .inl (cA2, 11, .inr (.inl (fun _ => 0)))), (q3, .inl (cA4, 19, .inl (fun _ => 0)))] H := hP
  have hD : va_D A [(h0, .inr (8, [.null, .null, .null, .ref q1, .ref q3, .null, .int 0, .int 0, .long 0, .int 0, .int 0, .int 0])), (q1, .inl (cA2, 11, .inr (.inl (fun _ => 0)))), (q3, .inl (cA4, 19, .inl (fun _ => 0)))] := hD
  refine lv_aload_n hx hb d_Ru_init_20 rfl (lv_at hl 0 rfl) ?_
  refine lv_bipush (v := 100) hx hb d_Ru_init_21 (by decide) ?_
  refine va_newa (atype := .long) (a0 := (100, .inr (.inl (fun _ => 0)))) (ty := .long) hx hb (hts _ mw_165) rfl hK hP hD hS hA (fun _ => rfl) (by decide) (by decide) (by decide) (Nat.le_of_ble_eq_true rfl) (Nat.le_of_ble_eq_true rfl) d_Ru_init_23 (fun q5 cA6 H hK hP hD hS => ?_)
  have hP : va_P (dC, dI) classes [(h0, .inr (8, [.null, .null, .null, .ref q1, .ref q3, .null, .int 0, .int 0, .long 0, .int 0, .int 0, .int 0])), (q1, .inl (cA2, 11, .inr (.inl (fun _ => 0)))), (q3, .inl (cA4, 19, .inl (fun _ => 0))), (q5, .inl (cA6, 100, .inr (.inl (fun _ => 0))))] H := hP
  have hD : va_D A [(h0, .inr (8, [.null, .null, .null, .ref q1, .ref q3, .null, .int 0, .int 0, .long 0, .int 0, .int 0, .int 0])), (q1, .inl (cA2, 11, .inr (.inl (fun _ => 0)))), (q3, .inl (cA4, 19, .inl (fun _ => 0))), (q5, .inl (cA6, 100, .inr (.inl (fun _ => 0))))] := hD
  have hK : va_K (dC, dI) classes [(cA2, .long), (cA4, .int), (cA6, .long)] s := hK
  refine W.widen (k := 3) (n := 130) (by omega) (by omega) ?_
  refine va_putF (D := (dC, dI)) (ci := 8) (v := .ref q5) (ty := (.array .long)) (C := R_Ru) (T := F_Ru) (N := 12) hx hb hts i_Ru t_Ru t_Ru_ok n_Ru hown hK hP hD hS 0 rfl rfl 5 (by decide) (hts _ mw_287) (fun _ h9 => h9) rfl hin rfl (by decide +kernel) rfl rfl (Nat.le_of_ble_eq_true rfl) d_Ru_init_25 (fun H locs hP hD hS => ?_)
  have hP : va_P (dC, dI) classes [(h0, .inr (8, [.null, .null, .null, .ref q1, .ref q3, .ref q5, .int 0, .int 0, .long 0, .int 0, .int 0, .int 0])), (q1, .inl (cA2, 11, .inr (.inl (fun _ => 0)))), (q3, .inl (cA4, 19, .inl (fun _ => 0))), (q5, .inl (cA6, 100, .inr (.inl (fun _ => 0))))] H := hP
  have hD : va_D A [(h0, .inr (8, [.null, .null, .null, .ref q1, .ref q3, .ref q5, .int 0, .int 0, .long 0, .int 0, .int 0, .int 0])), (q1, .inl (cA2, 11, .inr (.inl (fun _ => 0)))), (q3, .inl (cA4, 19, .inl (fun _ => 0))), (q5, .inl (cA6, 100, .inr (.inl (fun _ => 0))))] := hD
  refine lv_aload_n hx hb d_Ru_init_28 rfl (lv_at hl 0 rfl) ?_
  refine lv_aload_n hx hb d_Ru_init_29 rfl (lv_at hl 1 rfl) ?_
  refine va_putF (D := (dC, dI)) (ci := 8) (v := .ref h1) (ty := (.object R_Pr)) (C := R_Ru) (T := F_Ru) (N := 12) hx hb hts i_Ru t_Ru t_Ru_ok n_Ru hown hK hP hD hS 0 rfl rfl 0 (by decide) (hts _ mw_282) (fun _ h9 => h9) rfl hin rfl (by decide +kernel) rfl rfl (Nat.le_of_ble_eq_true rfl) d_Ru_init_30 (fun H locs hP hD hS => ?_)
  have hP : va_P (dC, dI) classes [(h0, .inr (8, [.ref h1, .null, .null, .ref q1, .ref q3, .ref q5, .int 0, .int 0, .long 0, .int 0, .int 0, .int 0])), (q1, .inl (cA2, 11, .inr (.inl (fun _ => 0)))), (q3, .inl (cA4, 19, .inl (fun _ => 0))), (q5, .inl (cA6, 100, .inr (.inl (fun _ => 0))))] H := hP
  have hD : va_D A [(h0, .inr (8, [.ref h1, .null, .null, .ref q1, .ref q3, .ref q5, .int 0, .int 0, .long 0, .int 0, .int 0, .int 0])), (q1, .inl (cA2, 11, .inr (.inl (fun _ => 0)))), (q3, .inl (cA4, 19, .inl (fun _ => 0))), (q5, .inl (cA6, 100, .inr (.inl (fun _ => 0))))] := hD
  refine lv_aload_n hx hb d_Ru_init_33 rfl (lv_at hl 0 rfl) ?_
  refine lv_aload_n hx hb d_Ru_init_34 rfl (lv_at hl 2 rfl) ?_
  refine va_putF (D := (dC, dI)) (ci := 8) (v := .ref h2) (ty := (.object R_Fo)) (C := R_Ru) (T := F_Ru) (N := 12) hx hb hts i_Ru t_Ru t_Ru_ok n_Ru hown hK hP hD hS 0 rfl rfl 1 (by decide) (hts _ mw_283) (fun _ h9 => h9) rfl hin rfl (by decide +kernel) rfl rfl (Nat.le_of_ble_eq_true rfl) d_Ru_init_35 (fun H locs hP hD hS => ?_)
  have hP : va_P (dC, dI) classes [(h0, .inr (8, [.ref h1, .ref h2, .null, .ref q1, .ref q3, .ref q5, .int 0, .int 0, .long 0, .int 0, .int 0, .int 0])), (q1, .inl (cA2, 11, .inr (.inl (fun _ => 0)))), (q3, .inl (cA4, 19, .inl (fun _ => 0))), (q5, .inl (cA6, 100, .inr (.inl (fun _ => 0))))] H := hP
  have hD : va_D A [(h0, .inr (8, [.ref h1, .ref h2, .null, .ref q1, .ref q3, .ref q5, .int 0, .int 0, .long 0, .int 0, .int 0, .int 0])), (q1, .inl (cA2, 11, .inr (.inl (fun _ => 0)))), (q3, .inl (cA4, 19, .inl (fun _ => 0))), (q5, .inl (cA6, 100, .inr (.inl (fun _ => 0))))] := hD
  refine lv_aload_n hx hb d_Ru_init_38 rfl (lv_at hl 0 rfl) ?_
  refine lv_aload_n hx hb d_Ru_init_39 rfl (lv_at hl 3 rfl) ?_
  refine va_putF (D := (dC, dI)) (ci := 8) (v := .ref h3) (ty := (.object R_Me)) (C := R_Ru) (T := F_Ru) (N := 12) hx hb hts i_Ru t_Ru t_Ru_ok n_Ru hown hK hP hD hS 0 rfl rfl 2 (by decide) (hts _ mw_284) (fun _ h9 => h9) rfl hin rfl (by decide +kernel) rfl rfl (Nat.le_of_ble_eq_true rfl) d_Ru_init_40 (fun H locs hP hD hS => ?_)
  have hP : va_P (dC, dI) classes [(h0, .inr (8, [.ref h1, .ref h2, .ref h3, .ref q1, .ref q3, .ref q5, .int 0, .int 0, .long 0, .int 0, .int 0, .int 0])), (q1, .inl (cA2, 11, .inr (.inl (fun _ => 0)))), (q3, .inl (cA4, 19, .inl (fun _ => 0))), (q5, .inl (cA6, 100, .inr (.inl (fun _ => 0))))] H := hP
  have hD : va_D A [(h0, .inr (8, [.ref h1, .ref h2, .ref h3, .ref q1, .ref q3, .ref q5, .int 0, .int 0, .long 0, .int 0, .int 0, .int 0])), (q1, .inl (cA2, 11, .inr (.inl (fun _ => 0)))), (q3, .inl (cA4, 19, .inl (fun _ => 0))), (q5, .inl (cA6, 100, .inr (.inl (fun _ => 0))))] := hD
  have hP9 := hP.sub (ws' := [(h0, .inr (8, [.ref h1, .ref h2, .ref h3, .ref q1, .ref q3, .ref q5, .int 0, .int 0, .long 0, .int 0, .int 0, .int 0]))]) [0] rfl
  have hD9 := hD.sub (ws' := [(h0, .inr (8, [.ref h1, .ref h2, .ref h3, .ref q1, .ref q3, .ref q5, .int 0, .int 0, .long 0, .int 0, .int 0, .int 0]))]) [0] (by decide) rfl
  have hK9 := hK.sub (tys' := []) [] rfl
  refine W.widen (k := 3) (n := 130) (by omega) (by omega) ?_
  exact W.vret hx hb hr (fun t ht hW => ⟨⟨(), rfl, trivial, q1, q3, q5, by rw [ht]; exact hP9, va_K.moved hW.alike hK9, hD9⟩, hS.F ht⟩) hS.2.2 d_Ru_init_43
set_option maxHeartbeats 4000000 in
set_option maxRecDepth 100000 in
theorem Ch_init_lp {p : Program} {e : Env} {s : State} {m : MethodId} {below : List Frame} {meth : Method} {c : Code} (l : Launch) (dC : Nat → ClassId) (dI : Nat → Nat → Nat) (h0 : Nat) (h1 : Nat) (h2 : Nat) (h3 : Nat) (q1 : Nat) (q8 : Nat) (q15 : Nat) (cA16 : ClassId) (q17 : Nat) (q18 : Nat) (q19 : Nat) (hx : p.tables.exec = Jvm.exec) (hb : c.code = prog_3_method_1_code) (hr : meth.sig.returnType = none) (hml : c.maxLocals = 5) (hown : s.vm.findClass R_Ch = some m.cls) (hts : ∀ w ∈ zz_W, w.before ([.ref h0, .ref h1, .ref h2, .ref h3] : List Value).toArray s = true) (hT : zz_T s) (hlocks : meth.locks = false) (hin : meth.name = "<init>") {A : Nat → Prop} (hA : ∀ q : Nat, s.heap.size ≤ q → A q) :
    ∀ (n i : Nat), i ≤ 100 → 100 + 1 ≤ i + n → ∀ (fv0 : Nat → Option Nat) (H : Heap) (locs : List Loc) (ls : Array Slot), va_K (dC, dI) classes [(cA16, .object R_St)] s → va_P (dC, dI) classes [(h0, .inr (5, [.ref h1, .ref h2, .ref h3, .ref q1, .ref q8, .ref q15, .ref q17, .ref q18, .ref q19, .int 0, .int 0, .int 0, .int 0, .int 0])), (q15, .inl (cA16, 100, .inr (.inr (.inr (.inr fv0)))))] H → va_D A [(h0, .inr (5, [.ref h1, .ref h2, .ref h3, .ref q1, .ref q8, .ref q15, .ref q17, .ref q18, .ref q19, .int 0, .int 0, .int 0, .int 0, .int 0])), (q15, .inl (cA16, 100, .inr (.inr (.inr (.inr fv0)))))] → va_S A s.heap H locs → lv_has ls 5 [(4, .int (nI i)), (0, .ref h0), (1, .ref h1), (2, .ref h2), (3, .ref h3)] → W p l e ({ frames := 2, cells := 718, slots := 11428, locals := 40 }) s m ([.ref h0, .ref h1, .ref h2, .ref h3] : List Value).toArray below meth c H locs (18 + 7 * i) (328 + 111 * i) (MQ below (va_Qv (fun (_ : Unit) => True) (fun (_ : Unit) (t : State) => ∃ (q1 : Nat) (q8 : Nat) (q15 : Nat) (q17 : Nat) (q18 : Nat) (q19 : Nat), va_P (dC, dI) classes [(h0, .inr (5, [.ref h1, .ref h2, .ref h3, .ref q1, .ref q8, .ref q15, .ref q17, .ref q18, .ref q19, .int 0, .int 0, .int 0, .int 0, .int (-1)]))] t.heap ∧ va_K (dC, dI) classes [] t ∧ va_D A [(h0, .inr (5, [.ref h1, .ref h2, .ref h3, .ref q1, .ref q8, .ref q15, .ref q17, .ref q18, .ref q19, .int 0, .int 0, .int 0, .int 0, .int (-1)]))]) A) ([.ref h0, .ref h1, .ref h2, .ref h3] : List Value).toArray s 718 11428 A) (F0 m 86 ls []) := by
  intro n
  induction n with
  | zero =>
    intro i h1 h2
    exact absurd h2 (by omega)
  | succ n ih =>
    intro i hi0 hn fv0 H locs ls hK hP hD hS hl
    rcases Nat.lt_or_ge i 100 with hi | hi
    · refine lv_iload hx hb d_Ch_init_86 (lv_at hl 0 rfl) ?_
      refine lv_bipush (v := 100) hx hb d_Ch_init_88 (by decide) ?_
      refine lv_icmp_ge (tgt := 113) hx hb d_Ch_init_90 (by decide) (fun h => absurd h (nI_ge (b := 100) hi (by decide))) (fun _ => ?_)
      refine lv_aload_n hx hb d_Ch_init_93 rfl (lv_at hl 1 rfl) ?_
      refine va_get (D := (dC, dI)) (ci := 5) (v := .ref q15) (C := R_Ch) (T := F_Ch) (N := 14) hx hb hts i_Ch hown hK hP 0 rfl rfl 5 (by decide) (hts _ mw_235) (fun _ h9 => h9) rfl d_Ch_init_94 ?_
      refine lv_iload hx hb d_Ch_init_97 (lv_at hl 0 rfl) ?_
      refine va_new (ci := 6) (fs := [.null, .null, .null, .null, .null, .null, .int 0, .int 0]) (C := R_St) (T := F_St) (N := 8) hx hb hts i_St t_St t_St_ok hown (hts _ mw_172) (hts _ mw_173) (hts _ mw_7) hK hP hD hS hA rfl zz_df_St (by show (18 + 7 * i) + 1 ≤ 718; omega) (by show (328 + 111 * i) + 8 ≤ 11428; omega) d_Ch_init_99 (fun q120 H hP hD hS => ?_)
      have hP : va_P (dC, dI) classes [(h0, .inr (5, [.ref h1, .ref h2, .ref h3, .ref q1, .ref q8, .ref q15, .ref q17, .ref q18, .ref q19, .int 0, .int 0, .int 0, .int 0, .int 0])), (q15, .inl (cA16, 100, .inr (.inr (.inr (.inr fv0))))), (q120, .inr (6, [.null, .null, .null, .null, .null, .null, .int 0, .int 0]))] H := hP
      have hD : va_D A [(h0, .inr (5, [.ref h1, .ref h2, .ref h3, .ref q1, .ref q8, .ref q15, .ref q17, .ref q18, .ref q19, .int 0, .int 0, .int 0, .int 0, .int 0])), (q15, .inl (cA16, 100, .inr (.inr (.inr (.inr fv0))))), (q120, .inr (6, [.null, .null, .null, .null, .null, .null, .int 0, .int 0]))] := hD
      refine W.widen (k := (19 + 7 * i)) (n := (336 + 111 * i)) (by omega) (by omega) ?_
      refine lv_dup hx hb d_Ch_init_102 rfl ?_
      have hPc := hP.sub (ws' := [(q120, .inr (6, [.null, .null, .null, .null, .null, .null, .int 0, .int 0]))]) [2] rfl
      have hKc := hK.sub (tys' := []) [] rfl
      have hDc := hD.sub (ws' := [(q120, .inr (6, [.null, .null, .null, .null, .null, .null, .int 0, .int 0]))]) [2] (by decide) rfl
      have hFc := va_free (wc := [(q120, .inr (6, [.null, .null, .null, .null, .null, .null, .int 0, .int 0]))]) hD hS hA [2] rfl
      refine va_callv (va_runIN (As := []) (rest := [.ref q120, .int (nI i), .ref q15]) ⟨hx, hb, hml, hown, hts⟩ (St_init l dC dI H.size q120) ⟨zz_cN 0 hts hT mn_174 mw_176 mw_7 rfl rfl hd_St_init ⟨Nat.le_of_ble_eq_true rfl, Nat.le_of_ble_eq_true rfl⟩, rfl, hts _ mw_175⟩ ⟨zz_blind, fun U hU hW => ⟨rfl, zz_pre hPc hKc hDc hT U hU hW⟩⟩ rfl rfl hl.1 rfl (lv_room (Nat.le_of_ble_eq_true rfl)) d_Ch_init_103 ⟨(by show (19 + 7 * i) + 6 ≤ 718; omega), (by show (336 + 111 * i) + 103 ≤ 11428; omega)⟩) hS (fun q _ h => hFc q h) hFc (fun  u t H1 locs ht hvm hw hB hz1 hk1 hS => ?_)
      obtain ⟨q121, q122, q123, q124, q125, q126, hP1, hK1, hD1⟩ := hB
      rw [ht] at hP1
      have hK1 := va_K.moved hvm.symm hK1
      obtain ⟨hP, hD⟩ := va_join (wr := [(h0, .inr (5, [.ref h1, .ref h2, .ref h3, .ref q1, .ref q8, .ref q15, .ref q17, .ref q18, .ref q19, .int 0, .int 0, .int 0, .int 0, .int 0])), (q15, .inl (cA16, 100, .inr (.inr (.inr (.inr fv0)))))]) (w1 := [(q120, .inr (6, [.ref q121, .ref q122, .ref q123, .ref q124, .ref q125, .ref q126, .int 0, .int 0]))]) hP hD [2] [0, 1] rfl rfl (by decide) (by decide) hk1 hFc hP1 hD1
      have hK := (hK.sub (tys' := [(cA16, .object R_St)]) [0] rfl).app hK1
      generalize H1 = H at hP hS ⊢
      have hP : va_P (dC, dI) classes [(h0, .inr (5, [.ref h1, .ref h2, .ref h3, .ref q1, .ref q8, .ref q15, .ref q17, .ref q18, .ref q19, .int 0, .int 0, .int 0, .int 0, .int 0])), (q15, .inl (cA16, 100, .inr (.inr (.inr (.inr fv0))))), (q120, .inr (6, [.ref q121, .ref q122, .ref q123, .ref q124, .ref q125, .ref q126, .int 0, .int 0]))] H := hP
      have hD : va_D A [(h0, .inr (5, [.ref h1, .ref h2, .ref h3, .ref q1, .ref q8, .ref q15, .ref q17, .ref q18, .ref q19, .int 0, .int 0, .int 0, .int 0, .int 0])), (q15, .inl (cA16, 100, .inr (.inr (.inr (.inr fv0))))), (q120, .inr (6, [.ref q121, .ref q122, .ref q123, .ref q124, .ref q125, .ref q126, .int 0, .int 0]))] := hD
      have hK : va_K (dC, dI) classes [(cA16, .object R_St)] s := hK
      refine W.widen (k := (25 + 7 * i)) (n := (439 + 111 * i)) (by omega) (by omega) ?_
      refine va_astq hx hb hK hP hD hS 1 0 2 6 rfl rfl rfl rfl (vp_in_nI hi (by decide)) d_Ch_init_106 (fun H locs hP hD hS => ?_)
      have hP : va_P (dC, dI) classes [(h0, .inr (5, [.ref h1, .ref h2, .ref h3, .ref q1, .ref q8, .ref q15, .ref q17, .ref q18, .ref q19, .int 0, .int 0, .int 0, .int 0, .int 0])), (q15, .inl (cA16, 100, .inr (.inr (.inr (.inr (va_up fv0 (nI i : Int32).toNatClampNeg (some q120))))))), (q120, .inr (6, [.ref q121, .ref q122, .ref q123, .ref q124, .ref q125, .ref q126, .int 0, .int 0]))] H := hP
      have hD : va_D A [(h0, .inr (5, [.ref h1, .ref h2, .ref h3, .ref q1, .ref q8, .ref q15, .ref q17, .ref q18, .ref q19, .int 0, .int 0, .int 0, .int 0, .int 0])), (q15, .inl (cA16, 100, .inr (.inr (.inr (.inr (va_up fv0 (nI i : Int32).toNatClampNeg (some q120))))))), (q120, .inr (6, [.ref q121, .ref q122, .ref q123, .ref q124, .ref q125, .ref q126, .int 0, .int 0]))] := hD
      obtain ⟨f127, ef127⟩ : ∃ f : Nat → Option Nat, f = va_up fv0 (nI i : Int32).toNatClampNeg (some q120) := ⟨_, rfl⟩
      rw [← ef127] at hP hD
      refine lv_iinc (v := nI (i + 1)) (lv' := [(4, .int (nI (i + 1))), (0, .ref h0), (1, .ref h1), (2, .ref h2), (3, .ref h3)]) hx hb d_Ch_init_107 hl (k := 0) rfl (nI_1 i) (by decide) rfl (fun ls hl => ?_)
      refine lv_goto (tgt := 86) hx hb d_Ch_init_110 (by decide) ?_
      have hP := hP.sub (ws' := [(h0, .inr (5, [.ref h1, .ref h2, .ref h3, .ref q1, .ref q8, .ref q15, .ref q17, .ref q18, .ref q19, .int 0, .int 0, .int 0, .int 0, .int 0])), (q15, .inl (cA16, 100, .inr (.inr (.inr (.inr f127)))))]) [0, 1] rfl
      have hD := hD.sub (ws' := [(h0, .inr (5, [.ref h1, .ref h2, .ref h3, .ref q1, .ref q8, .ref q15, .ref q17, .ref q18, .ref q19, .int 0, .int 0, .int 0, .int 0, .int 0])), (q15, .inl (cA16, 100, .inr (.inr (.inr (.inr f127)))))]) [0, 1] (by decide) rfl
      have hK := hK.sub (tys' := [(cA16, .object R_St)]) [0] rfl
      refine W.widen (k := (18 + 7 * (i + 1))) (n := (328 + 111 * (i + 1))) (by omega) (by omega) ?_
      exact ih (i + 1) (by omega) (by omega) f127 _ _ ls hK hP hD hS (lv_sub hl [0, 1, 2, 3, 4] rfl)
    · obtain rfl : i = 100 := by omega
      refine lv_iload hx hb d_Ch_init_86 (lv_at hl 0 rfl) ?_
      refine lv_bipush (v := 100) hx hb d_Ch_init_88 (by decide) ?_
      refine lv_icmp_ge (tgt := 113) hx hb d_Ch_init_90 (by decide) (fun _ => ?_) (fun h => absurd (nI_le (a := 100) hi (by decide)) h)
      refine lv_aload_n hx hb d_Ch_init_113 rfl (lv_at hl 1 rfl) ?_
      refine lv_iconst (v := (-1)) hx hb d_Ch_init_114 (by decide) ?_
      refine va_put (D := (dC, dI)) (ci := 5) (v := .int (-1)) (ty := .int) (C := R_Ch) (T := F_Ch) (N := 14) hx hb hts i_Ch t_Ch t_Ch_ok n_Ch hown hK hP hD hS 0 rfl rfl 13 (by decide) (hts _ mw_245) (fun _ h9 => h9) rfl (by decide +kernel) rfl rfl (Nat.le_of_ble_eq_true rfl) d_Ch_init_115 (fun H locs hP hD hS => ?_)
      have hP : va_P (dC, dI) classes [(h0, .inr (5, [.ref h1, .ref h2, .ref h3, .ref q1, .ref q8, .ref q15, .ref q17, .ref q18, .ref q19, .int 0, .int 0, .int 0, .int 0, .int (-1)])), (q15, .inl (cA16, 100, .inr (.inr (.inr (.inr fv0)))))] H := hP
      have hD : va_D A [(h0, .inr (5, [.ref h1, .ref h2, .ref h3, .ref q1, .ref q8, .ref q15, .ref q17, .ref q18, .ref q19, .int 0, .int 0, .int 0, .int 0, .int (-1)])), (q15, .inl (cA16, 100, .inr (.inr (.inr (.inr fv0)))))] := hD
      have hP9 := hP.sub (ws' := [(h0, .inr (5, [.ref h1, .ref h2, .ref h3, .ref q1, .ref q8, .ref q15, .ref q17, .ref q18, .ref q19, .int 0, .int 0, .int 0, .int 0, .int (-1)]))]) [0] rfl
      have hD9 := hD.sub (ws' := [(h0, .inr (5, [.ref h1, .ref h2, .ref h3, .ref q1, .ref q8, .ref q15, .ref q17, .ref q18, .ref q19, .int 0, .int 0, .int 0, .int 0, .int (-1)]))]) [0] (by decide) rfl
      have hK9 := hK.sub (tys' := []) [] rfl
      refine W.widen (k := 718) (n := 11428) (by omega) (by omega) ?_
      exact W.vret hx hb hr (fun t ht hW => ⟨⟨(), rfl, trivial, q1, q8, q15, q17, q18, q19, by rw [ht]; exact hP9, va_K.moved hW.alike hK9, hD9⟩, hS.F ht⟩) hS.2.2 d_Ch_init_118
set_option maxHeartbeats 4000000 in
set_option maxRecDepth 100000 in
theorem Ch_init (l : Launch) (dC : Nat → ClassId) (dI : Nat → Nat → Nat) (sz : Nat) (h0 : Nat) (h1 : Nat) (h2 : Nat) (h3 : Nat) : Met l y_Ch_init (.code y_Ch_init prog_3_method_1_code 5 none :: zz_W) ({ frames := 2, cells := 718, slots := 11428, locals := 40 }) (va_Pc [.ref h0, .ref h1, .ref h2, .ref h3] (zz_B dC dI [(h0, .inr (5, [.null, .null, .null, .null, .null, .null, .null, .null, .null, .int 0, .int 0, .int 0, .int 0, .int 0]))] [] sz)) (va_Qv (fun (_ : Unit) => True) (fun (_ : Unit) (t : State) => ∃ (q1 : Nat) (q8 : Nat) (q15 : Nat) (q17 : Nat) (q18 : Nat) (q19 : Nat), va_P (dC, dI) classes [(h0, .inr (5, [.ref h1, .ref h2, .ref h3, .ref q1, .ref q8, .ref q15, .ref q17, .ref q18, .ref q19, .int 0, .int 0, .int 0, .int 0, .int (-1)]))] t.heap ∧ va_K (dC, dI) classes [] t ∧ va_D (va_A [(h0, .inr (5, [.null, .null, .null, .null, .null, .null, .null, .null, .null, .int 0, .int 0, .int 0, .int 0, .int 0]))] sz) [(h0, .inr (5, [.ref h1, .ref h2, .ref h3, .ref q1, .ref q8, .ref q15, .ref q17, .ref q18, .ref q19, .int 0, .int 0, .int 0, .int 0, .int (-1)]))]) (va_A [(h0, .inr (5, [.null, .null, .null, .null, .null, .null, .null, .null, .null, .int 0, .int 0, .int 0, .int 0, .int 0]))] sz)) 718 11428 (va_A [(h0, .inr (5, [.null, .null, .null, .null, .null, .null, .null, .null, .null, .int 0, .int 0, .int 0, .int 0, .int 0]))] sz) := by
  refine Met.ofW (cc := prog_3_method_1_code) (maxL := 5) (ret := none) (by decide) rfl ?_
  intro p e s m args below meth c s₁ B hml hv
  obtain ⟨rfl, hsz, hP, hK, hD0, hT⟩ := hv
  have hx := B.exec
  have hb := B.bytes
  have hr := B.returns
  have hts0 := atoms_spec (ws := (.code y_Ch_init prog_3_method_1_code 5 none :: zz_W)) B.pre
  have hts : ∀ w ∈ zz_W, w.before _ s = true := fun w h => hts0 w (List.mem_cons_of_mem _ h)
  have hown : s.vm.findClass R_Ch = some m.cls := findClass_of_methodNamed B.named
  have hlocks := B.notSynchronized
  have hin : meth.name = "<init>" := (name_of_methodNamed B.named B.method).1
  subst hsz
  have hD := hD0.self (sz := s.heap.size)
  generalize hAe : va_A [(h0, .inr (5, [.null, .null, .null, .null, .null, .null, .null, .null, .null, .int 0, .int 0, .int 0, .int 0, .int 0]))] s.heap.size = A at hD ⊢
  have hA : ∀ q : Nat, s.heap.size ≤ q → A q := fun q h => by rw [← hAe]; exact Or.inr h
  have hS : va_S A s.heap s.heap [] := va_S.rf
  have hl := lv_entry ([.ref h0, .ref h1, .ref h2, .ref h3]) (n := 5) (Nat.le_of_ble_eq_true rfl)
  rw [lg_entry_eq]
  generalize (lg_sl ([.ref h0, .ref h1, .ref h2, .ref h3]) ++ List.replicate (5 - (lg_sl ([.ref h0, .ref h1, .ref h2, .ref h3])).length) Slot.unset).toArray = ls at hl ⊢
  have hl : lv_has ls 5 [(0, .ref h0), (1, .ref h1), (2, .ref h2), (3, .ref h3)] := hl
  refine lv_aload_n hx hb d_Ch_init_0 rfl (lv_at hl 0 rfl) ?_
  refine W.objInit hx hb hown (hts _ mw_171) (hts _ mw_33) (hts _ mw_oinit) rfl (by rw [hml]; exact hl.1) rfl d_Ch_init_1 (Nat.le_of_ble_eq_true rfl) (Nat.le_of_ble_eq_true rfl) ?_
  refine W.eq (g2 := F0 m 4 ls []) rfl ?_
  refine lv_aload_n hx hb d_Ch_init_4 rfl (lv_at hl 0 rfl) ?_
  refine va_new (ci := 6) (fs := [.null, .null, .null, .null, .null, .null, .int 0, .int 0]) (C := R_St) (T := F_St) (N := 8) hx hb hts i_St t_St t_St_ok hown (hts _ mw_172) (hts _ mw_173) (hts _ mw_7) hK hP hD hS hA rfl zz_df_St (Nat.le_of_ble_eq_true rfl) (Nat.le_of_ble_eq_true rfl) d_Ch_init_5 (fun q1 H hP hD hS => ?_)
  have hP : va_P (dC, dI) classes [(h0, .inr (5, [.null, .null, .null, .null, .null, .null, .null, .null, .null, .int 0, .int 0, .int 0, .int 0, .int 0])), (q1, .inr (6, [.null, .null, .null, .null, .null, .null, .int 0, .int 0]))] H := hP
  have hD : va_D A [(h0, .inr (5, [.null, .null, .null, .null, .null, .null, .null, .null, .null, .int 0, .int 0, .int 0, .int 0, .int 0])), (q1, .inr (6, [.null, .null, .null, .null, .null, .null, .int 0, .int 0]))] := hD
  refine W.widen (k := 1) (n := 8) (by omega) (by omega) ?_
  refine lv_dup hx hb d_Ch_init_8 rfl ?_
  have hPc := hP.sub (ws' := [(q1, .inr (6, [.null, .null, .null, .null, .null, .null, .int 0, .int 0]))]) [1] rfl
  have hKc := hK.sub (tys' := []) [] rfl
  have hDc := hD.sub (ws' := [(q1, .inr (6, [.null, .null, .null, .null, .null, .null, .int 0, .int 0]))]) [1] (by decide) rfl
  have hFc := va_free (wc := [(q1, .inr (6, [.null, .null, .null, .null, .null, .null, .int 0, .int 0]))]) hD hS hA [1] rfl
  refine va_callv (va_runIN (As := []) (rest := [.ref q1, .ref h0]) ⟨hx, hb, hml, hown, hts⟩ (St_init l dC dI H.size q1) ⟨zz_cN 0 hts hT mn_174 mw_176 mw_7 rfl rfl hd_St_init ⟨Nat.le_of_ble_eq_true rfl, Nat.le_of_ble_eq_true rfl⟩, rfl, hts _ mw_175⟩ ⟨zz_blind, fun U hU hW => ⟨rfl, zz_pre hPc hKc hDc hT U hU hW⟩⟩ rfl rfl hl.1 rfl (lv_room (Nat.le_of_ble_eq_true rfl)) d_Ch_init_9 ⟨(Nat.le_of_ble_eq_true rfl), (Nat.le_of_ble_eq_true rfl)⟩) hS (fun q _ h => hFc q h) hFc (fun  u t H1 locs ht hvm hw hB hz1 hk1 hS => ?_)
  obtain ⟨q2, q3, q4, q5, q6, q7, hP1, hK1, hD1⟩ := hB
  rw [ht] at hP1
  have hK1 := va_K.moved hvm.symm hK1
  obtain ⟨hP, hD⟩ := va_join (wr := [(h0, .inr (5, [.null, .null, .null, .null, .null, .null, .null, .null, .null, .int 0, .int 0, .int 0, .int 0, .int 0]))]) (w1 := [(q1, .inr (6, [.ref q2, .ref q3, .ref q4, .ref q5, .ref q6, .ref q7, .int 0, .int 0]))]) hP hD [1] [0] rfl rfl (by decide) (by decide) hk1 hFc hP1 hD1
  have hK := (hK.sub (tys' := []) [] rfl).app hK1
  generalize H1 = H at hP hS ⊢
  have hP : va_P (dC, dI) classes [(h0, .inr (5, [.null, .null, .null, .null, .null, .null, .null, .null, .null, .int 0, .int 0, .int 0, .int 0, .int 0])), (q1, .inr (6, [.ref q2, .ref q3, .ref q4, .ref q5, .ref q6, .ref q7, .int 0, .int 0]))] H := hP
  have hD : va_D A [(h0, .inr (5, [.null, .null, .null, .null, .null, .null, .null, .null, .null, .int 0, .int 0, .int 0, .int 0, .int 0])), (q1, .inr (6, [.ref q2, .ref q3, .ref q4, .ref q5, .ref q6, .ref q7, .int 0, .int 0]))] := hD
  have hK : va_K (dC, dI) classes [] s := hK
  refine W.widen (k := 7) (n := 111) (by omega) (by omega) ?_
  refine va_putF (D := (dC, dI)) (ci := 5) (v := .ref q1) (ty := (.object R_St)) (C := R_Ch) (T := F_Ch) (N := 14) hx hb hts i_Ch t_Ch t_Ch_ok n_Ch hown hK hP hD hS 0 rfl rfl 3 (by decide) (hts _ mw_233) (fun _ h9 => h9) rfl hin rfl (by decide +kernel) rfl rfl (Nat.le_of_ble_eq_true rfl) d_Ch_init_12 (fun H locs hP hD hS => ?_)
  have hP : va_P (dC, dI) classes [(h0, .inr (5, [.null, .null, .null, .ref q1, .null, .null, .null, .null, .null, .int 0, .int 0, .int 0, .int 0, .int 0])), (q1, .inr (6, [.ref q2, .ref q3, .ref q4, .ref q5, .ref q6, .ref q7, .int 0, .int 0]))] H := hP
  have hD : va_D A [(h0, .inr (5, [.null, .null, .null, .ref q1, .null, .null, .null, .null, .null, .int 0, .int 0, .int 0, .int 0, .int 0])), (q1, .inr (6, [.ref q2, .ref q3, .ref q4, .ref q5, .ref q6, .ref q7, .int 0, .int 0]))] := hD
  have hP := hP.sub (ws' := [(h0, .inr (5, [.null, .null, .null, .ref q1, .null, .null, .null, .null, .null, .int 0, .int 0, .int 0, .int 0, .int 0]))]) [0] rfl
  have hD := hD.sub (ws' := [(h0, .inr (5, [.null, .null, .null, .ref q1, .null, .null, .null, .null, .null, .int 0, .int 0, .int 0, .int 0, .int 0]))]) [0] (by decide) rfl
  have hK := hK.sub (tys' := []) [] rfl
  refine lv_aload_n hx hb d_Ch_init_15 rfl (lv_at hl 0 rfl) ?_
  refine va_new (ci := 6) (fs := [.null, .null, .null, .null, .null, .null, .int 0, .int 0]) (C := R_St) (T := F_St) (N := 8) hx hb hts i_St t_St t_St_ok hown (hts _ mw_172) (hts _ mw_173) (hts _ mw_7) hK hP hD hS hA rfl zz_df_St (Nat.le_of_ble_eq_true rfl) (Nat.le_of_ble_eq_true rfl) d_Ch_init_16 (fun q8 H hP hD hS => ?_)
  have hP : va_P (dC, dI) classes [(h0, .inr (5, [.null, .null, .null, .ref q1, .null, .null, .null, .null, .null, .int 0, .int 0, .int 0, .int 0, .int 0])), (q8, .inr (6, [.null, .null, .null, .null, .null, .null, .int 0, .int 0]))] H := hP
  have hD : va_D A [(h0, .inr (5, [.null, .null, .null, .ref q1, .null, .null, .null, .null, .null, .int 0, .int 0, .int 0, .int 0, .int 0])), (q8, .inr (6, [.null, .null, .null, .null, .null, .null, .int 0, .int 0]))] := hD
  refine W.widen (k := 8) (n := 119) (by omega) (by omega) ?_
  refine lv_dup hx hb d_Ch_init_19 rfl ?_
  have hPc := hP.sub (ws' := [(q8, .inr (6, [.null, .null, .null, .null, .null, .null, .int 0, .int 0]))]) [1] rfl
  have hKc := hK.sub (tys' := []) [] rfl
  have hDc := hD.sub (ws' := [(q8, .inr (6, [.null, .null, .null, .null, .null, .null, .int 0, .int 0]))]) [1] (by decide) rfl
  have hFc := va_free (wc := [(q8, .inr (6, [.null, .null, .null, .null, .null, .null, .int 0, .int 0]))]) hD hS hA [1] rfl
  refine va_callv (va_runIN (As := []) (rest := [.ref q8, .ref h0]) ⟨hx, hb, hml, hown, hts⟩ (St_init l dC dI H.size q8) ⟨zz_cN 0 hts hT mn_174 mw_176 mw_7 rfl rfl hd_St_init ⟨Nat.le_of_ble_eq_true rfl, Nat.le_of_ble_eq_true rfl⟩, rfl, hts _ mw_175⟩ ⟨zz_blind, fun U hU hW => ⟨rfl, zz_pre hPc hKc hDc hT U hU hW⟩⟩ rfl rfl hl.1 rfl (lv_room (Nat.le_of_ble_eq_true rfl)) d_Ch_init_20 ⟨(Nat.le_of_ble_eq_true rfl), (Nat.le_of_ble_eq_true rfl)⟩) hS (fun q _ h => hFc q h) hFc (fun  u t H1 locs ht hvm hw hB hz1 hk1 hS => ?_)
  obtain ⟨q9, q10, q11, q12, q13, q14, hP1, hK1, hD1⟩ := hB
  rw [ht] at hP1
  have hK1 := va_K.moved hvm.symm hK1
  obtain ⟨hP, hD⟩ := va_join (wr := [(h0, .inr (5, [.null, .null, .null, .ref q1, .null, .null, .null, .null, .null, .int 0, .int 0, .int 0, .int 0, .int 0]))]) (w1 := [(q8, .inr (6, [.ref q9, .ref q10, .ref q11, .ref q12, .ref q13, .ref q14, .int 0, .int 0]))]) hP hD [1] [0] rfl rfl (by decide) (by decide) hk1 hFc hP1 hD1
  have hK := (hK.sub (tys' := []) [] rfl).app hK1
  generalize H1 = H at hP hS ⊢
  have hP : va_P (dC, dI) classes [(h0, .inr (5, [.null, .null, .null, .ref q1, .null, .null, .null, .null, .null, .int 0, .int 0, .int 0, .int 0, .int 0])), (q8, .inr (6, [.ref q9, .ref q10, .ref q11, .ref q12, .ref q13, .ref q14, .int 0, .int 0]))] H := hP
  have hD : va_D A [(h0, .inr (5, [.null, .null, .null, .ref q1, .null, .null, .null, .null, .null, .int 0, .int 0, .int 0, .int 0, .int 0])), (q8, .inr (6, [.ref q9, .ref q10, .ref q11, .ref q12, .ref q13, .ref q14, .int 0, .int 0]))] := hD
  have hK : va_K (dC, dI) classes [] s := hK
  refine W.widen (k := 14) (n := 222) (by omega) (by omega) ?_
  refine va_putF (D := (dC, dI)) (ci := 5) (v := .ref q8) (ty := (.object R_St)) (C := R_Ch) (T := F_Ch) (N := 14) hx hb hts i_Ch t_Ch t_Ch_ok n_Ch hown hK hP hD hS 0 rfl rfl 4 (by decide) (hts _ mw_234) (fun _ h9 => h9) rfl hin rfl (by decide +kernel) rfl rfl (Nat.le_of_ble_eq_true rfl) d_Ch_init_23 (fun H locs hP hD hS => ?_)
  have hP : va_P (dC, dI) classes [(h0, .inr (5, [.null, .null, .null, .ref q1, .ref q8, .null, .null, .null, .null, .int 0, .int 0, .int 0, .int 0, .int 0])), (q8, .inr (6, [.ref q9, .ref q10, .ref q11, .ref q12, .ref q13, .ref q14, .int 0, .int 0]))] H := hP
  have hD : va_D A [(h0, .inr (5, [.null, .null, .null, .ref q1, .ref q8, .null, .null, .null, .null, .int 0, .int 0, .int 0, .int 0, .int 0])), (q8, .inr (6, [.ref q9, .ref q10, .ref q11, .ref q12, .ref q13, .ref q14, .int 0, .int 0]))] := hD
  have hP := hP.sub (ws' := [(h0, .inr (5, [.null, .null, .null, .ref q1, .ref q8, .null, .null, .null, .null, .int 0, .int 0, .int 0, .int 0, .int 0]))]) [0] rfl
  have hD := hD.sub (ws' := [(h0, .inr (5, [.null, .null, .null, .ref q1, .ref q8, .null, .null, .null, .null, .int 0, .int 0, .int 0, .int 0, .int 0]))]) [0] (by decide) rfl
  have hK := hK.sub (tys' := []) [] rfl
  refine lv_aload_n hx hb d_Ch_init_26 rfl (lv_at hl 0 rfl) ?_
  refine lv_bipush (v := 100) hx hb d_Ch_init_27 (by decide) ?_
  refine va_newq (C := R_St) (N' := 100) hx hb hown (hts _ mw_172) hT.2.1 hK hP hD hS hA (by decide) (by decide) (by decide) (Nat.le_of_ble_eq_true rfl) (Nat.le_of_ble_eq_true rfl) d_Ch_init_29 (fun q15 cA16 H hK hP hD hS => ?_)
  have hP : va_P (dC, dI) classes [(h0, .inr (5, [.null, .null, .null, .ref q1, .ref q8, .null, .null, .null, .null, .int 0, .int 0, .int 0, .int 0, .int 0])), (q15, .inl (cA16, 100, .inr (.inr (.inr (.inr (fun _ => none))))))] H := hP
  have hD : va_D A [(h0, .inr (5, [.null, .null, .null, .ref q1, .ref q8, .null, .null, .null, .null, .int 0, .int 0, .int 0, .int 0, .int 0])), (q15, .inl (cA16, 100, .inr (.inr (.inr (.inr (fun _ => none))))))] := hD
  have hK : va_K (dC, dI) classes [(cA16, .object R_St)] s := hK
  refine W.widen (k := 15) (n := 322) (by omega) (by omega) ?_
  refine va_putF (D := (dC, dI)) (ci := 5) (v := .ref q15) (ty := (.array (.object R_St))) (C := R_Ch) (T := F_Ch) (N := 14) hx hb hts i_Ch t_Ch t_Ch_ok n_Ch hown hK hP hD hS 0 rfl rfl 5 (by decide) (hts _ mw_235) (fun _ h9 => h9) rfl hin rfl (by decide +kernel) rfl rfl (Nat.le_of_ble_eq_true rfl) d_Ch_init_32 (fun H locs hP hD hS => ?_)
  have hP : va_P (dC, dI) classes [(h0, .inr (5, [.null, .null, .null, .ref q1, .ref q8, .ref q15, .null, .null, .null, .int 0, .int 0, .int 0, .int 0, .int 0])), (q15, .inl (cA16, 100, .inr (.inr (.inr (.inr (fun _ => none))))))] H := hP
  have hD : va_D A [(h0, .inr (5, [.null, .null, .null, .ref q1, .ref q8, .ref q15, .null, .null, .null, .int 0, .int 0, .int 0, .int 0, .int 0])), (q15, .inl (cA16, 100, .inr (.inr (.inr (.inr (fun _ => none))))))] := hD
  refine lv_aload_n hx hb d_Ch_init_35 rfl (lv_at hl 0 rfl) ?_
  refine va_new (ci := 7) (fs := [.long 0, .long 0]) (C := R_Ra) (T := F_Ra) (N := 2) hx hb hts i_Ra t_Ra t_Ra_ok hown (hts _ mw_213) (hts _ mw_214) (hts _ mw_8) hK hP hD hS hA rfl zz_df_Ra (Nat.le_of_ble_eq_true rfl) (Nat.le_of_ble_eq_true rfl) d_Ch_init_36 (fun q17 H hP hD hS => ?_)
  have hP : va_P (dC, dI) classes [(h0, .inr (5, [.null, .null, .null, .ref q1, .ref q8, .ref q15, .null, .null, .null, .int 0, .int 0, .int 0, .int 0, .int 0])), (q15, .inl (cA16, 100, .inr (.inr (.inr (.inr (fun _ => none)))))), (q17, .inr (7, [.long 0, .long 0]))] H := hP
  have hD : va_D A [(h0, .inr (5, [.null, .null, .null, .ref q1, .ref q8, .ref q15, .null, .null, .null, .int 0, .int 0, .int 0, .int 0, .int 0])), (q15, .inl (cA16, 100, .inr (.inr (.inr (.inr (fun _ => none)))))), (q17, .inr (7, [.long 0, .long 0]))] := hD
  refine W.widen (k := 16) (n := 324) (by omega) (by omega) ?_
  refine lv_dup hx hb d_Ch_init_39 rfl ?_
  have hPc := hP.sub (ws' := [(q17, .inr (7, [.long 0, .long 0]))]) [2] rfl
  have hKc := hK.sub (tys' := []) [] rfl
  have hDc := hD.sub (ws' := [(q17, .inr (7, [.long 0, .long 0]))]) [2] (by decide) rfl
  have hFc := va_free (wc := [(q17, .inr (7, [.long 0, .long 0]))]) hD hS hA [2] rfl
  refine va_callv (va_runIN (As := []) (rest := [.ref q17, .ref h0]) ⟨hx, hb, hml, hown, hts⟩ (Ra_init l dC dI H.size q17) ⟨zz_cN 0 hts hT mn_215 mw_217 mw_8 rfl rfl hd_Ra_init ⟨Nat.le_of_ble_eq_true rfl, Nat.le_of_ble_eq_true rfl⟩, rfl, hts _ mw_216⟩ ⟨zz_blind, fun U hU hW => ⟨rfl, zz_pre hPc hKc hDc hT U hU hW⟩⟩ rfl rfl hl.1 rfl (lv_room (Nat.le_of_ble_eq_true rfl)) d_Ch_init_40 ⟨(Nat.le_of_ble_eq_true rfl), (Nat.le_of_ble_eq_true rfl)⟩) hS (fun q _ h => hFc q h) hFc (fun  u t H1 locs ht hvm hw hB hz1 hk1 hS => ?_)
  obtain ⟨hP1, hK1, hD1⟩ := hB
  rw [ht] at hP1
  have hK1 := va_K.moved hvm.symm hK1
  obtain ⟨hP, hD⟩ := va_join (wr := [(h0, .inr (5, [.null, .null, .null, .ref q1, .ref q8, .ref q15, .null, .null, .null, .int 0, .int 0, .int 0, .int 0, .int 0])), (q15, .inl (cA16, 100, .inr (.inr (.inr (.inr (fun _ => none))))))]) (w1 := []) hP hD [2] [0, 1] rfl rfl (by decide) (by decide) hk1 hFc hP1 hD1
  have hK := (hK.sub (tys' := [(cA16, .object R_St)]) [0] rfl).app hK1
  generalize H1 = H at hP hS ⊢
  have hP : va_P (dC, dI) classes [(h0, .inr (5, [.null, .null, .null, .ref q1, .ref q8, .ref q15, .null, .null, .null, .int 0, .int 0, .int 0, .int 0, .int 0])), (q15, .inl (cA16, 100, .inr (.inr (.inr (.inr (fun _ => none))))))] H := hP
  have hD : va_D A [(h0, .inr (5, [.null, .null, .null, .ref q1, .ref q8, .ref q15, .null, .null, .null, .int 0, .int 0, .int 0, .int 0, .int 0])), (q15, .inl (cA16, 100, .inr (.inr (.inr (.inr (fun _ => none))))))] := hD
  have hK : va_K (dC, dI) classes [(cA16, .object R_St)] s := hK
  refine va_putF (D := (dC, dI)) (ci := 5) (v := .ref q17) (ty := (.object R_Ra)) (C := R_Ch) (T := F_Ch) (N := 14) hx hb hts i_Ch t_Ch t_Ch_ok n_Ch hown hK hP hD hS 0 rfl rfl 6 (by decide) (hts _ mw_236) (fun _ h9 => h9) rfl hin rfl (by decide +kernel) rfl rfl (Nat.le_of_ble_eq_true rfl) d_Ch_init_43 (fun H locs hP hD hS => ?_)
  have hP : va_P (dC, dI) classes [(h0, .inr (5, [.null, .null, .null, .ref q1, .ref q8, .ref q15, .ref q17, .null, .null, .int 0, .int 0, .int 0, .int 0, .int 0])), (q15, .inl (cA16, 100, .inr (.inr (.inr (.inr (fun _ => none))))))] H := hP
  have hD : va_D A [(h0, .inr (5, [.null, .null, .null, .ref q1, .ref q8, .ref q15, .ref q17, .null, .null, .int 0, .int 0, .int 0, .int 0, .int 0])), (q15, .inl (cA16, 100, .inr (.inr (.inr (.inr (fun _ => none))))))] := hD
  refine lv_aload_n hx hb d_Ch_init_46 rfl (lv_at hl 0 rfl) ?_
  refine va_new (ci := 7) (fs := [.long 0, .long 0]) (C := R_Ra) (T := F_Ra) (N := 2) hx hb hts i_Ra t_Ra t_Ra_ok hown (hts _ mw_213) (hts _ mw_214) (hts _ mw_8) hK hP hD hS hA rfl zz_df_Ra (Nat.le_of_ble_eq_true rfl) (Nat.le_of_ble_eq_true rfl) d_Ch_init_47 (fun q18 H hP hD hS => ?_)
  have hP : va_P (dC, dI) classes [(h0, .inr (5, [.null, .null, .null, .ref q1, .ref q8, .ref q15, .ref q17, .null, .null, .int 0, .int 0, .int 0, .int 0, .int 0])), (q15, .inl (cA16, 100, .inr (.inr (.inr (.inr (fun _ => none)))))), (q18, .inr (7, [.long 0, .long 0]))] H := hP
  have hD : va_D A [(h0, .inr (5, [.null, .null, .null, .ref q1, .ref q8, .ref q15, .ref q17, .null, .null, .int 0, .int 0, .int 0, .int 0, .int 0])), (q15, .inl (cA16, 100, .inr (.inr (.inr (.inr (fun _ => none)))))), (q18, .inr (7, [.long 0, .long 0]))] := hD
  refine W.widen (k := 17) (n := 326) (by omega) (by omega) ?_
  refine lv_dup hx hb d_Ch_init_50 rfl ?_
  have hPc := hP.sub (ws' := [(q18, .inr (7, [.long 0, .long 0]))]) [2] rfl
  have hKc := hK.sub (tys' := []) [] rfl
  have hDc := hD.sub (ws' := [(q18, .inr (7, [.long 0, .long 0]))]) [2] (by decide) rfl
  have hFc := va_free (wc := [(q18, .inr (7, [.long 0, .long 0]))]) hD hS hA [2] rfl
  refine va_callv (va_runIN (As := []) (rest := [.ref q18, .ref h0]) ⟨hx, hb, hml, hown, hts⟩ (Ra_init l dC dI H.size q18) ⟨zz_cN 0 hts hT mn_215 mw_217 mw_8 rfl rfl hd_Ra_init ⟨Nat.le_of_ble_eq_true rfl, Nat.le_of_ble_eq_true rfl⟩, rfl, hts _ mw_216⟩ ⟨zz_blind, fun U hU hW => ⟨rfl, zz_pre hPc hKc hDc hT U hU hW⟩⟩ rfl rfl hl.1 rfl (lv_room (Nat.le_of_ble_eq_true rfl)) d_Ch_init_51 ⟨(Nat.le_of_ble_eq_true rfl), (Nat.le_of_ble_eq_true rfl)⟩) hS (fun q _ h => hFc q h) hFc (fun  u t H1 locs ht hvm hw hB hz1 hk1 hS => ?_)
  obtain ⟨hP1, hK1, hD1⟩ := hB
  rw [ht] at hP1
  have hK1 := va_K.moved hvm.symm hK1
  obtain ⟨hP, hD⟩ := va_join (wr := [(h0, .inr (5, [.null, .null, .null, .ref q1, .ref q8, .ref q15, .ref q17, .null, .null, .int 0, .int 0, .int 0, .int 0, .int 0])), (q15, .inl (cA16, 100, .inr (.inr (.inr (.inr (fun _ => none))))))]) (w1 := []) hP hD [2] [0, 1] rfl rfl (by decide) (by decide) hk1 hFc hP1 hD1
  have hK := (hK.sub (tys' := [(cA16, .object R_St)]) [0] rfl).app hK1
  generalize H1 = H at hP hS ⊢
  have hP : va_P (dC, dI) classes [(h0, .inr (5, [.null, .null, .null, .ref q1, .ref q8, .ref q15, .ref q17, .null, .null, .int 0, .int 0, .int 0, .int 0, .int 0])), (q15, .inl (cA16, 100, .inr (.inr (.inr (.inr (fun _ => none))))))] H := hP
  have hD : va_D A [(h0, .inr (5, [.null, .null, .null, .ref q1, .ref q8, .ref q15, .ref q17, .null, .null, .int 0, .int 0, .int 0, .int 0, .int 0])), (q15, .inl (cA16, 100, .inr (.inr (.inr (.inr (fun _ => none))))))] := hD
  have hK : va_K (dC, dI) classes [(cA16, .object R_St)] s := hK
  refine va_putF (D := (dC, dI)) (ci := 5) (v := .ref q18) (ty := (.object R_Ra)) (C := R_Ch) (T := F_Ch) (N := 14) hx hb hts i_Ch t_Ch t_Ch_ok n_Ch hown hK hP hD hS 0 rfl rfl 7 (by decide) (hts _ mw_237) (fun _ h9 => h9) rfl hin rfl (by decide +kernel) rfl rfl (Nat.le_of_ble_eq_true rfl) d_Ch_init_54 (fun H locs hP hD hS => ?_)
  have hP : va_P (dC, dI) classes [(h0, .inr (5, [.null, .null, .null, .ref q1, .ref q8, .ref q15, .ref q17, .ref q18, .null, .int 0, .int 0, .int 0, .int 0, .int 0])), (q15, .inl (cA16, 100, .inr (.inr (.inr (.inr (fun _ => none))))))] H := hP
  have hD : va_D A [(h0, .inr (5, [.null, .null, .null, .ref q1, .ref q8, .ref q15, .ref q17, .ref q18, .null, .int 0, .int 0, .int 0, .int 0, .int 0])), (q15, .inl (cA16, 100, .inr (.inr (.inr (.inr (fun _ => none))))))] := hD
  refine lv_aload_n hx hb d_Ch_init_57 rfl (lv_at hl 0 rfl) ?_
  refine va_new (ci := 7) (fs := [.long 0, .long 0]) (C := R_Ra) (T := F_Ra) (N := 2) hx hb hts i_Ra t_Ra t_Ra_ok hown (hts _ mw_213) (hts _ mw_214) (hts _ mw_8) hK hP hD hS hA rfl zz_df_Ra (Nat.le_of_ble_eq_true rfl) (Nat.le_of_ble_eq_true rfl) d_Ch_init_58 (fun q19 H hP hD hS => ?_)
  have hP : va_P (dC, dI) classes [(h0, .inr (5, [.null, .null, .null, .ref q1, .ref q8, .ref q15, .ref q17, .ref q18, .null, .int 0, .int 0, .int 0, .int 0, .int 0])), (q15, .inl (cA16, 100, .inr (.inr (.inr (.inr (fun _ => none)))))), (q19, .inr (7, [.long 0, .long 0]))] H := hP
  have hD : va_D A [(h0, .inr (5, [.null, .null, .null, .ref q1, .ref q8, .ref q15, .ref q17, .ref q18, .null, .int 0, .int 0, .int 0, .int 0, .int 0])), (q15, .inl (cA16, 100, .inr (.inr (.inr (.inr (fun _ => none)))))), (q19, .inr (7, [.long 0, .long 0]))] := hD
  refine W.widen (k := 18) (n := 328) (by omega) (by omega) ?_
  refine lv_dup hx hb d_Ch_init_61 rfl ?_
  have hPc := hP.sub (ws' := [(q19, .inr (7, [.long 0, .long 0]))]) [2] rfl
  have hKc := hK.sub (tys' := []) [] rfl
  have hDc := hD.sub (ws' := [(q19, .inr (7, [.long 0, .long 0]))]) [2] (by decide) rfl
  have hFc := va_free (wc := [(q19, .inr (7, [.long 0, .long 0]))]) hD hS hA [2] rfl
  refine va_callv (va_runIN (As := []) (rest := [.ref q19, .ref h0]) ⟨hx, hb, hml, hown, hts⟩ (Ra_init l dC dI H.size q19) ⟨zz_cN 0 hts hT mn_215 mw_217 mw_8 rfl rfl hd_Ra_init ⟨Nat.le_of_ble_eq_true rfl, Nat.le_of_ble_eq_true rfl⟩, rfl, hts _ mw_216⟩ ⟨zz_blind, fun U hU hW => ⟨rfl, zz_pre hPc hKc hDc hT U hU hW⟩⟩ rfl rfl hl.1 rfl (lv_room (Nat.le_of_ble_eq_true rfl)) d_Ch_init_62 ⟨(Nat.le_of_ble_eq_true rfl), (Nat.le_of_ble_eq_true rfl)⟩) hS (fun q _ h => hFc q h) hFc (fun  u t H1 locs ht hvm hw hB hz1 hk1 hS => ?_)
  obtain ⟨hP1, hK1, hD1⟩ := hB
  rw [ht] at hP1
  have hK1 := va_K.moved hvm.symm hK1
  obtain ⟨hP, hD⟩ := va_join (wr := [(h0, .inr (5, [.null, .null, .null, .ref q1, .ref q8, .ref q15, .ref q17, .ref q18, .null, .int 0, .int 0, .int 0, .int 0, .int 0])), (q15, .inl (cA16, 100, .inr (.inr (.inr (.inr (fun _ => none))))))]) (w1 := []) hP hD [2] [0, 1] rfl rfl (by decide) (by decide) hk1 hFc hP1 hD1
  have hK := (hK.sub (tys' := [(cA16, .object R_St)]) [0] rfl).app hK1
  generalize H1 = H at hP hS ⊢
  have hP : va_P (dC, dI) classes [(h0, .inr (5, [.null, .null, .null, .ref q1, .ref q8, .ref q15, .ref q17, .ref q18, .null, .int 0, .int 0, .int 0, .int 0, .int 0])), (q15, .inl (cA16, 100, .inr (.inr (.inr (.inr (fun _ => none))))))] H := hP
  have hD : va_D A [(h0, .inr (5, [.null, .null, .null, .ref q1, .ref q8, .ref q15, .ref q17, .ref q18, .null, .int 0, .int 0, .int 0, .int 0, .int 0])), (q15, .inl (cA16, 100, .inr (.inr (.inr (.inr (fun _ => none))))))] := hD
  have hK : va_K (dC, dI) classes [(cA16, .object R_St)] s := hK
  refine va_putF (D := (dC, dI)) (ci := 5) (v := .ref q19) (ty := (.object R_Ra)) (C := R_Ch) (T := F_Ch) (N := 14) hx hb hts i_Ch t_Ch t_Ch_ok n_Ch hown hK hP hD hS 0 rfl rfl 8 (by decide) (hts _ mw_238) (fun _ h9 => h9) rfl hin rfl (by decide +kernel) rfl rfl (Nat.le_of_ble_eq_true rfl) d_Ch_init_65 (fun H locs hP hD hS => ?_)
  have hP : va_P (dC, dI) classes [(h0, .inr (5, [.null, .null, .null, .ref q1, .ref q8, .ref q15, .ref q17, .ref q18, .ref q19, .int 0, .int 0, .int 0, .int 0, .int 0])), (q15, .inl (cA16, 100, .inr (.inr (.inr (.inr (fun _ => none))))))] H := hP
  have hD : va_D A [(h0, .inr (5, [.null, .null, .null, .ref q1, .ref q8, .ref q15, .ref q17, .ref q18, .ref q19, .int 0, .int 0, .int 0, .int 0, .int 0])), (q15, .inl (cA16, 100, .inr (.inr (.inr (.inr (fun _ => none))))))] := hD
  refine lv_aload_n hx hb d_Ch_init_68 rfl (lv_at hl 0 rfl) ?_
  refine lv_aload_n hx hb d_Ch_init_69 rfl (lv_at hl 1 rfl) ?_
  refine va_putF (D := (dC, dI)) (ci := 5) (v := .ref h1) (ty := (.object R_Pr)) (C := R_Ch) (T := F_Ch) (N := 14) hx hb hts i_Ch t_Ch t_Ch_ok n_Ch hown hK hP hD hS 0 rfl rfl 0 (by decide) (hts _ mw_230) (fun _ h9 => h9) rfl hin rfl (by decide +kernel) rfl rfl (Nat.le_of_ble_eq_true rfl) d_Ch_init_70 (fun H locs hP hD hS => ?_)
  have hP : va_P (dC, dI) classes [(h0, .inr (5, [.ref h1, .null, .null, .ref q1, .ref q8, .ref q15, .ref q17, .ref q18, .ref q19, .int 0, .int 0, .int 0, .int 0, .int 0])), (q15, .inl (cA16, 100, .inr (.inr (.inr (.inr (fun _ => none))))))] H := hP
  have hD : va_D A [(h0, .inr (5, [.ref h1, .null, .null, .ref q1, .ref q8, .ref q15, .ref q17, .ref q18, .ref q19, .int 0, .int 0, .int 0, .int 0, .int 0])), (q15, .inl (cA16, 100, .inr (.inr (.inr (.inr (fun _ => none))))))] := hD
  refine lv_aload_n hx hb d_Ch_init_73 rfl (lv_at hl 0 rfl) ?_
  refine lv_aload_n hx hb d_Ch_init_74 rfl (lv_at hl 2 rfl) ?_
  refine va_putF (D := (dC, dI)) (ci := 5) (v := .ref h2) (ty := (.object R_Ma)) (C := R_Ch) (T := F_Ch) (N := 14) hx hb hts i_Ch t_Ch t_Ch_ok n_Ch hown hK hP hD hS 0 rfl rfl 1 (by decide) (hts _ mw_231) (fun _ h9 => h9) rfl hin rfl (by decide +kernel) rfl rfl (Nat.le_of_ble_eq_true rfl) d_Ch_init_75 (fun H locs hP hD hS => ?_)
  have hP : va_P (dC, dI) classes [(h0, .inr (5, [.ref h1, .ref h2, .null, .ref q1, .ref q8, .ref q15, .ref q17, .ref q18, .ref q19, .int 0, .int 0, .int 0, .int 0, .int 0])), (q15, .inl (cA16, 100, .inr (.inr (.inr (.inr (fun _ => none))))))] H := hP
  have hD : va_D A [(h0, .inr (5, [.ref h1, .ref h2, .null, .ref q1, .ref q8, .ref q15, .ref q17, .ref q18, .ref q19, .int 0, .int 0, .int 0, .int 0, .int 0])), (q15, .inl (cA16, 100, .inr (.inr (.inr (.inr (fun _ => none))))))] := hD
  refine lv_aload_n hx hb d_Ch_init_78 rfl (lv_at hl 0 rfl) ?_
  refine lv_aload_n hx hb d_Ch_init_79 rfl (lv_at hl 3 rfl) ?_
  refine va_putF (D := (dC, dI)) (ci := 5) (v := .ref h3) (ty := (.object R_Fo)) (C := R_Ch) (T := F_Ch) (N := 14) hx hb hts i_Ch t_Ch t_Ch_ok n_Ch hown hK hP hD hS 0 rfl rfl 2 (by decide) (hts _ mw_232) (fun _ h9 => h9) rfl hin rfl (by decide +kernel) rfl rfl (Nat.le_of_ble_eq_true rfl) d_Ch_init_80 (fun H locs hP hD hS => ?_)
  have hP : va_P (dC, dI) classes [(h0, .inr (5, [.ref h1, .ref h2, .ref h3, .ref q1, .ref q8, .ref q15, .ref q17, .ref q18, .ref q19, .int 0, .int 0, .int 0, .int 0, .int 0])), (q15, .inl (cA16, 100, .inr (.inr (.inr (.inr (fun _ => none))))))] H := hP
  have hD : va_D A [(h0, .inr (5, [.ref h1, .ref h2, .ref h3, .ref q1, .ref q8, .ref q15, .ref q17, .ref q18, .ref q19, .int 0, .int 0, .int 0, .int 0, .int 0])), (q15, .inl (cA16, 100, .inr (.inr (.inr (.inr (fun _ => none))))))] := hD
  refine lv_iconst (v := 0) hx hb d_Ch_init_83 (by decide) ?_
  refine lv_istore (lv' := [(4, .int 0), (0, .ref h0), (1, .ref h1), (2, .ref h2), (3, .ref h3)]) hx hb d_Ch_init_84 hl (by decide) rfl (fun ls hl => ?_)
  exact Ch_init_lp l dC dI h0 h1 h2 h3 q1 q8 q15 cA16 q17 q18 q19 hx hb hr hml hown hts hT hlocks hin hA (100 + 1) 0 (by omega) (by omega) (fun _ => none) _ _ ls hK hP hD hS hl
end
section
set_option maxHeartbeats 4000000 in
set_option maxRecDepth 100000 in
theorem FG_init (l : Launch) (dC : Nat → ClassId) (dI : Nat → Nat → Nat) (sz : Nat) (h0 : Nat) : Met l y_FG_init (.code y_FG_init prog_1_method_1_code 1 none :: zz_W) ({ frames := 3, cells := 745, slots := 24563, locals := 64 }) (va_Pc [.ref h0] (zz_B dC dI [(h0, .inr (0, [.null, .null, .null, .null, .null, .null, .int 0]))] [] sz)) (va_Qv (fun (_ : Unit) => True) (fun (_ : Unit) (t : State) => ∃ (q1 : Nat) (q2 : Nat) (cA3 : ClassId) (q4 : Nat) (cA5 : ClassId) (q6 : Nat) (cA7 : ClassId) (q8 : Nat) (cA9 : ClassId) (q10 : Nat) (cA11 : ClassId) (q12 : Nat) (q13 : Nat) (cA14 : ClassId) (q15 : Nat) (cA16 : ClassId) (q17 : Nat) (cA18 : ClassId) (q19 : Nat) (q20 : Nat) (cA21 : ClassId) (q22 : Nat) (cA23 : ClassId) (q24 : Nat) (cA25 : ClassId) (q26 : Nat) (q27 : Nat) (cA28 : ClassId) (q29 : Nat) (q30 : Nat) (q31 : Nat) (q32 : Nat) (q33 : Nat) (q34 : Nat) (q35 : Nat) (q36 : Nat) (q37 : Nat) (q38 : Nat) (q39 : Nat) (q40 : Nat) (q41 : Nat), va_P (dC, dI) classes [(h0, .inr (0, [.ref q1, .ref q12, .ref q26, .ref q30, .ref q31, .ref q38, .int 0])), (q1, .inr (1, [.ref q2, .ref q4, .ref q6, .ref q8, .ref q10, .int 0])), (q2, .inl (cA3, 200, .inl (fun _ => 0))), (q4, .inl (cA5, 200, .inl (fun _ => 0))), (q6, .inl (cA7, 200, .inl (fun _ => 0))), (q8, .inl (cA9, 200, .inl (fun _ => 0))), (q10, .inl (cA11, 200, .inl (fun _ => 0))), (q12, .inr (2, [.ref q13, .ref q15, .ref q17, .ref q19, .ref q20, .ref q22, .ref q24, .int 0])), (q13, .inl (cA14, 4, .inl (fun _ => 0))), (q15, .inl (cA16, 4, .inl (fun _ => 0))), (q17, .inl (cA18, 4096, .inl (fun _ => 0))), (q20, .inl (cA21, 4, .inl (fun _ => 0))), (q22, .inl (cA23, 64, .inl (fun _ => 0))), (q24, .inl (cA25, 512, .inl (fun _ => 0))), (q26, .inr (3, [.ref q12, .ref q27, .ref q29, .int 0, .int 0])), (q27, .inl (cA28, 400, .inl (fun _ => 0))), (q31, .inr (5, [.ref q1, .ref q12, .ref q30, .ref q32, .ref q33, .ref q34, .ref q35, .ref q36, .ref q37, .int 0, .int 0, .int 0, .int 0, .int (-1)])), (q38, .inr (8, [.ref q1, .ref q30, .ref q26, .ref q39, .ref q40, .ref q41, .int 0, .int 0, .long 0, .int 0, .int 0, .int 0]))] t.heap ∧ va_K (dC, dI) classes [(cA3, .int), (cA5, .int), (cA7, .int), (cA9, .int), (cA11, .int), (cA14, .int), (cA16, .int), (cA18, .byte), (cA21, .int), (cA23, .boolean), (cA25, .byte), (cA28, .byte)] t ∧ va_D (va_A [(h0, .inr (0, [.null, .null, .null, .null, .null, .null, .int 0]))] sz) [(h0, .inr (0, [.ref q1, .ref q12, .ref q26, .ref q30, .ref q31, .ref q38, .int 0])), (q1, .inr (1, [.ref q2, .ref q4, .ref q6, .ref q8, .ref q10, .int 0])), (q2, .inl (cA3, 200, .inl (fun _ => 0))), (q4, .inl (cA5, 200, .inl (fun _ => 0))), (q6, .inl (cA7, 200, .inl (fun _ => 0))), (q8, .inl (cA9, 200, .inl (fun _ => 0))), (q10, .inl (cA11, 200, .inl (fun _ => 0))), (q12, .inr (2, [.ref q13, .ref q15, .ref q17, .ref q19, .ref q20, .ref q22, .ref q24, .int 0])), (q13, .inl (cA14, 4, .inl (fun _ => 0))), (q15, .inl (cA16, 4, .inl (fun _ => 0))), (q17, .inl (cA18, 4096, .inl (fun _ => 0))), (q20, .inl (cA21, 4, .inl (fun _ => 0))), (q22, .inl (cA23, 64, .inl (fun _ => 0))), (q24, .inl (cA25, 512, .inl (fun _ => 0))), (q26, .inr (3, [.ref q12, .ref q27, .ref q29, .int 0, .int 0])), (q27, .inl (cA28, 400, .inl (fun _ => 0))), (q31, .inr (5, [.ref q1, .ref q12, .ref q30, .ref q32, .ref q33, .ref q34, .ref q35, .ref q36, .ref q37, .int 0, .int 0, .int 0, .int 0, .int (-1)])), (q38, .inr (8, [.ref q1, .ref q30, .ref q26, .ref q39, .ref q40, .ref q41, .int 0, .int 0, .long 0, .int 0, .int 0, .int 0]))]) (va_A [(h0, .inr (0, [.null, .null, .null, .null, .null, .null, .int 0]))] sz)) 745 24563 (va_A [(h0, .inr (0, [.null, .null, .null, .null, .null, .null, .int 0]))] sz) := by
  refine Met.ofW (cc := prog_1_method_1_code) (maxL := 1) (ret := none) (by decide) rfl ?_
  intro p e s m args below meth c s₁ B hml hv
  obtain ⟨rfl, hsz, hP, hK, hD0, hT⟩ := hv
  have hx := B.exec
  have hb := B.bytes
  have hr := B.returns
  have hts0 := atoms_spec (ws := (.code y_FG_init prog_1_method_1_code 1 none :: zz_W)) B.pre
  have hts : ∀ w ∈ zz_W, w.before _ s = true := fun w h => hts0 w (List.mem_cons_of_mem _ h)
  have hown : s.vm.findClass R_FG = some m.cls := findClass_of_methodNamed B.named
  have hlocks := B.notSynchronized
  have hin : meth.name = "<init>" := (name_of_methodNamed B.named B.method).1
  subst hsz
  have hD := hD0.self (sz := s.heap.size)
  generalize hAe : va_A [(h0, .inr (0, [.null, .null, .null, .null, .null, .null, .int 0]))] s.heap.size = A at hD ⊢
  have hA : ∀ q : Nat, s.heap.size ≤ q → A q := fun q h => by rw [← hAe]; exact Or.inr h
  have hS : va_S A s.heap s.heap [] := va_S.rf
  have hl := lv_entry ([.ref h0]) (n := 1) (Nat.le_of_ble_eq_true rfl)
  rw [lg_entry_eq]
  generalize (lg_sl ([.ref h0]) ++ List.replicate (1 - (lg_sl ([.ref h0])).length) Slot.unset).toArray = ls at hl ⊢
  have hl : lv_has ls 1 [(0, .ref h0)] := hl
  refine lv_aload_n hx hb d_FG_init_0 rfl (lv_at hl 0 rfl) ?_
  refine W.objInit hx hb hown (hts _ mw_32) (hts _ mw_33) (hts _ mw_oinit) rfl (by rw [hml]; exact hl.1) rfl d_FG_init_1 (Nat.le_of_ble_eq_true rfl) (Nat.le_of_ble_eq_true rfl) ?_
  refine W.eq (g2 := F0 m 4 ls []) rfl ?_
  refine lv_aload_n hx hb d_FG_init_4 rfl (lv_at hl 0 rfl) ?_
  refine va_new (ci := 1) (fs := [.null, .null, .null, .null, .null, .int 0]) (C := R_Pr) (T := F_Pr) (N := 6) hx hb hts i_Pr t_Pr t_Pr_ok hown (hts _ mw_35) (hts _ mw_36) (hts _ mw_2) hK hP hD hS hA rfl zz_df_Pr (Nat.le_of_ble_eq_true rfl) (Nat.le_of_ble_eq_true rfl) d_FG_init_5 (fun q1 H hP hD hS => ?_)
  have hP : va_P (dC, dI) classes [(h0, .inr (0, [.null, .null, .null, .null, .null, .null, .int 0])), (q1, .inr (1, [.null, .null, .null, .null, .null, .int 0]))] H := hP
  have hD : va_D A [(h0, .inr (0, [.null, .null, .null, .null, .null, .null, .int 0])), (q1, .inr (1, [.null, .null, .null, .null, .null, .int 0]))] := hD
  refine W.widen (k := 1) (n := 6) (by omega) (by omega) ?_
  refine lv_dup hx hb d_FG_init_8 rfl ?_
  have hPc := hP.sub (ws' := [(q1, .inr (1, [.null, .null, .null, .null, .null, .int 0]))]) [1] rfl
  have hKc := hK.sub (tys' := []) [] rfl
  have hDc := hD.sub (ws' := [(q1, .inr (1, [.null, .null, .null, .null, .null, .int 0]))]) [1] (by decide) rfl
  have hFc := va_free (wc := [(q1, .inr (1, [.null, .null, .null, .null, .null, .int 0]))]) hD hS hA [1] rfl
  refine va_callv (va_runIN (As := []) (rest := [.ref q1, .ref h0]) ⟨hx, hb, hml, hown, hts⟩ (Pr_init l dC dI H.size q1) ⟨zz_cN 0 hts hT mn_37 mw_39 mw_2 rfl rfl hd_Pr_init ⟨Nat.le_of_ble_eq_true rfl, Nat.le_of_ble_eq_true rfl⟩, rfl, hts _ mw_38⟩ ⟨zz_blind, fun U hU hW => ⟨rfl, zz_pre hPc hKc hDc hT U hU hW⟩⟩ rfl rfl hl.1 rfl (lv_room (Nat.le_of_ble_eq_true rfl)) d_FG_init_9 ⟨(Nat.le_of_ble_eq_true rfl), (Nat.le_of_ble_eq_true rfl)⟩) hS (fun q _ h => hFc q h) hFc (fun  u t H1 locs ht hvm hw hB hz1 hk1 hS => ?_)
  obtain ⟨q2, cA3, q4, cA5, q6, cA7, q8, cA9, q10, cA11, hP1, hK1, hD1⟩ := hB
  rw [ht] at hP1
  have hK1 := va_K.moved hvm.symm hK1
  obtain ⟨hP, hD⟩ := va_join (wr := [(h0, .inr (0, [.null, .null, .null, .null, .null, .null, .int 0]))]) (w1 := [(q1, .inr (1, [.ref q2, .ref q4, .ref q6, .ref q8, .ref q10, .int 0])), (q2, .inl (cA3, 200, .inl (fun _ => 0))), (q4, .inl (cA5, 200, .inl (fun _ => 0))), (q6, .inl (cA7, 200, .inl (fun _ => 0))), (q8, .inl (cA9, 200, .inl (fun _ => 0))), (q10, .inl (cA11, 200, .inl (fun _ => 0)))]) hP hD [1] [0] rfl rfl (by decide) (by decide) hk1 hFc hP1 hD1
  have hK := (hK.sub (tys' := []) [] rfl).app hK1
  generalize H1 = H at hP hS ⊢
  have hP : va_P (dC, dI) classes [(h0, .inr (0, [.null, .null, .null, .null, .null, .null, .int 0])), (q1, .inr (1, [.ref q2, .ref q4, .ref q6, .ref q8, .ref q10, .int 0])), (q2, .inl (cA3, 200, .inl (fun _ => 0))), (q4, .inl (cA5, 200, .inl (fun _ => 0))), (q6, .inl (cA7, 200, .inl (fun _ => 0))), (q8, .inl (cA9, 200, .inl (fun _ => 0))), (q10, .inl (cA11, 200, .inl (fun _ => 0)))] H := hP
  have hD : va_D A [(h0, .inr (0, [.null, .null, .null, .null, .null, .null, .int 0])), (q1, .inr (1, [.ref q2, .ref q4, .ref q6, .ref q8, .ref q10, .int 0])), (q2, .inl (cA3, 200, .inl (fun _ => 0))), (q4, .inl (cA5, 200, .inl (fun _ => 0))), (q6, .inl (cA7, 200, .inl (fun _ => 0))), (q8, .inl (cA9, 200, .inl (fun _ => 0))), (q10, .inl (cA11, 200, .inl (fun _ => 0)))] := hD
  have hK : va_K (dC, dI) classes [(cA3, .int), (cA5, .int), (cA7, .int), (cA9, .int), (cA11, .int)] s := hK
  refine W.widen (k := 6) (n := 1006) (by omega) (by omega) ?_
  refine va_putF (D := (dC, dI)) (ci := 0) (v := .ref q1) (ty := (.object R_Pr)) (C := R_FG) (T := F_FG) (N := 7) hx hb hts i_FG t_FG t_FG_ok n_FG hown hK hP hD hS 0 rfl rfl 0 (by decide) (hts _ mw_323) (fun _ h9 => h9) rfl hin rfl (by decide +kernel) rfl rfl (Nat.le_of_ble_eq_true rfl) d_FG_init_12 (fun H locs hP hD hS => ?_)
  have hP : va_P (dC, dI) classes [(h0, .inr (0, [.ref q1, .null, .null, .null, .null, .null, .int 0])), (q1, .inr (1, [.ref q2, .ref q4, .ref q6, .ref q8, .ref q10, .int 0])), (q2, .inl (cA3, 200, .inl (fun _ => 0))), (q4, .inl (cA5, 200, .inl (fun _ => 0))), (q6, .inl (cA7, 200, .inl (fun _ => 0))), (q8, .inl (cA9, 200, .inl (fun _ => 0))), (q10, .inl (cA11, 200, .inl (fun _ => 0)))] H := hP
  have hD : va_D A [(h0, .inr (0, [.ref q1, .null, .null, .null, .null, .null, .int 0])), (q1, .inr (1, [.ref q2, .ref q4, .ref q6, .ref q8, .ref q10, .int 0])), (q2, .inl (cA3, 200, .inl (fun _ => 0))), (q4, .inl (cA5, 200, .inl (fun _ => 0))), (q6, .inl (cA7, 200, .inl (fun _ => 0))), (q8, .inl (cA9, 200, .inl (fun _ => 0))), (q10, .inl (cA11, 200, .inl (fun _ => 0)))] := hD
  refine lv_aload_n hx hb d_FG_init_15 rfl (lv_at hl 0 rfl) ?_
  refine va_new (ci := 2) (fs := [.null, .null, .null, .null, .null, .null, .null, .int 0]) (C := R_Ma) (T := F_Ma) (N := 8) hx hb hts i_Ma t_Ma t_Ma_ok hown (hts _ mw_74) (hts _ mw_75) (hts _ mw_3) hK hP hD hS hA rfl zz_df_Ma (Nat.le_of_ble_eq_true rfl) (Nat.le_of_ble_eq_true rfl) d_FG_init_16 (fun q12 H hP hD hS => ?_)
  have hP : va_P (dC, dI) classes [(h0, .inr (0, [.ref q1, .null, .null, .null, .null, .null, .int 0])), (q1, .inr (1, [.ref q2, .ref q4, .ref q6, .ref q8, .ref q10, .int 0])), (q2, .inl (cA3, 200, .inl (fun _ => 0))), (q4, .inl (cA5, 200, .inl (fun _ => 0))), (q6, .inl (cA7, 200, .inl (fun _ => 0))), (q8, .inl (cA9, 200, .inl (fun _ => 0))), (q10, .inl (cA11, 200, .inl (fun _ => 0))), (q12, .inr (2, [.null, .null, .null, .null, .null, .null, .null, .int 0]))] H := hP
  have hD : va_D A [(h0, .inr (0, [.ref q1, .null, .null, .null, .null, .null, .int 0])), (q1, .inr (1, [.ref q2, .ref q4, .ref q6, .ref q8, .ref q10, .int 0])), (q2, .inl (cA3, 200, .inl (fun _ => 0))), (q4, .inl (cA5, 200, .inl (fun _ => 0))), (q6, .inl (cA7, 200, .inl (fun _ => 0))), (q8, .inl (cA9, 200, .inl (fun _ => 0))), (q10, .inl (cA11, 200, .inl (fun _ => 0))), (q12, .inr (2, [.null, .null, .null, .null, .null, .null, .null, .int 0]))] := hD
  refine W.widen (k := 7) (n := 1014) (by omega) (by omega) ?_
  refine lv_dup hx hb d_FG_init_19 rfl ?_
  have hPc := hP.sub (ws' := [(q12, .inr (2, [.null, .null, .null, .null, .null, .null, .null, .int 0]))]) [7] rfl
  have hKc := hK.sub (tys' := []) [] rfl
  have hDc := hD.sub (ws' := [(q12, .inr (2, [.null, .null, .null, .null, .null, .null, .null, .int 0]))]) [7] (by decide) rfl
  have hFc := va_free (wc := [(q12, .inr (2, [.null, .null, .null, .null, .null, .null, .null, .int 0]))]) hD hS hA [7] rfl
  refine va_callv (va_runIN (As := []) (rest := [.ref q12, .ref h0]) ⟨hx, hb, hml, hown, hts⟩ (Ma_init l dC dI H.size q12) ⟨zz_cN 0 hts hT mn_76 mw_78 mw_3 rfl rfl hd_Ma_init ⟨Nat.le_of_ble_eq_true rfl, Nat.le_of_ble_eq_true rfl⟩, rfl, hts _ mw_77⟩ ⟨zz_blind, fun U hU hW => ⟨rfl, zz_pre hPc hKc hDc hT U hU hW⟩⟩ rfl rfl hl.1 rfl (lv_room (Nat.le_of_ble_eq_true rfl)) d_FG_init_20 ⟨(Nat.le_of_ble_eq_true rfl), (Nat.le_of_ble_eq_true rfl)⟩) hS (fun q _ h => hFc q h) hFc (fun  u t H1 locs ht hvm hw hB hz1 hk1 hS => ?_)
  obtain ⟨q13, cA14, q15, cA16, q17, cA18, q19, q20, cA21, q22, cA23, q24, cA25, hP1, hK1, hD1⟩ := hB
  rw [ht] at hP1
  have hK1 := va_K.moved hvm.symm hK1
  obtain ⟨hP, hD⟩ := va_join (wr := [(h0, .inr (0, [.ref q1, .null, .null, .null, .null, .null, .int 0])), (q1, .inr (1, [.ref q2, .ref q4, .ref q6, .ref q8, .ref q10, .int 0])), (q2, .inl (cA3, 200, .inl (fun _ => 0))), (q4, .inl (cA5, 200, .inl (fun _ => 0))), (q6, .inl (cA7, 200, .inl (fun _ => 0))), (q8, .inl (cA9, 200, .inl (fun _ => 0))), (q10, .inl (cA11, 200, .inl (fun _ => 0)))]) (w1 := [(q12, .inr (2, [.ref q13, .ref q15, .ref q17, .ref q19, .ref q20, .ref q22, .ref q24, .int 0])), (q13, .inl (cA14, 4, .inl (fun _ => 0))), (q15, .inl (cA16, 4, .inl (fun _ => 0))), (q17, .inl (cA18, 4096, .inl (fun _ => 0))), (q20, .inl (cA21, 4, .inl (fun _ => 0))), (q22, .inl (cA23, 64, .inl (fun _ => 0))), (q24, .inl (cA25, 512, .inl (fun _ => 0)))]) hP hD [7] [0, 1, 2, 3, 4, 5, 6] rfl rfl (by decide) (by decide) hk1 hFc hP1 hD1
  have hK := (hK.sub (tys' := [(cA3, .int), (cA5, .int), (cA7, .int), (cA9, .int), (cA11, .int)]) [0, 1, 2, 3, 4] rfl).app hK1
  generalize H1 = H at hP hS ⊢
  have hP : va_P (dC, dI) classes [(h0, .inr (0, [.ref q1, .null, .null, .null, .null, .null, .int 0])), (q1, .inr (1, [.ref q2, .ref q4, .ref q6, .ref q8, .ref q10, .int 0])), (q2, .inl (cA3, 200, .inl (fun _ => 0))), (q4, .inl (cA5, 200, .inl (fun _ => 0))), (q6, .inl (cA7, 200, .inl (fun _ => 0))), (q8, .inl (cA9, 200, .inl (fun _ => 0))), (q10, .inl (cA11, 200, .inl (fun _ => 0))), (q12, .inr (2, [.ref q13, .ref q15, .ref q17, .ref q19, .ref q20, .ref q22, .ref q24, .int 0])), (q13, .inl (cA14, 4, .inl (fun _ => 0))), (q15, .inl (cA16, 4, .inl (fun _ => 0))), (q17, .inl (cA18, 4096, .inl (fun _ => 0))), (q20, .inl (cA21, 4, .inl (fun _ => 0))), (q22, .inl (cA23, 64, .inl (fun _ => 0))), (q24, .inl (cA25, 512, .inl (fun _ => 0)))] H := hP
  have hD : va_D A [(h0, .inr (0, [.ref q1, .null, .null, .null, .null, .null, .int 0])), (q1, .inr (1, [.ref q2, .ref q4, .ref q6, .ref q8, .ref q10, .int 0])), (q2, .inl (cA3, 200, .inl (fun _ => 0))), (q4, .inl (cA5, 200, .inl (fun _ => 0))), (q6, .inl (cA7, 200, .inl (fun _ => 0))), (q8, .inl (cA9, 200, .inl (fun _ => 0))), (q10, .inl (cA11, 200, .inl (fun _ => 0))), (q12, .inr (2, [.ref q13, .ref q15, .ref q17, .ref q19, .ref q20, .ref q22, .ref q24, .int 0])), (q13, .inl (cA14, 4, .inl (fun _ => 0))), (q15, .inl (cA16, 4, .inl (fun _ => 0))), (q17, .inl (cA18, 4096, .inl (fun _ => 0))), (q20, .inl (cA21, 4, .inl (fun _ => 0))), (q22, .inl (cA23, 64, .inl (fun _ => 0))), (q24, .inl (cA25, 512, .inl (fun _ => 0)))] := hD
  have hK : va_K (dC, dI) classes [(cA3, .int), (cA5, .int), (cA7, .int), (cA9, .int), (cA11, .int), (cA14, .int), (cA16, .int), (cA18, .byte), (cA21, .int), (cA23, .boolean), (cA25, .byte)] s := hK
  refine W.widen (k := 14) (n := 5706) (by omega) (by omega) ?_
  refine va_putF (D := (dC, dI)) (ci := 0) (v := .ref q12) (ty := (.object R_Ma)) (C := R_FG) (T := F_FG) (N := 7) hx hb hts i_FG t_FG t_FG_ok n_FG hown hK hP hD hS 0 rfl rfl 1 (by decide) (hts _ mw_324) (fun _ h9 => h9) rfl hin rfl (by decide +kernel) rfl rfl (Nat.le_of_ble_eq_true rfl) d_FG_init_23 (fun H locs hP hD hS => ?_)
  have hP : va_P (dC, dI) classes [(h0, .inr (0, [.ref q1, .ref q12, .null, .null, .null, .null, .int 0])), (q1, .inr (1, [.ref q2, .ref q4, .ref q6, .ref q8, .ref q10, .int 0])), (q2, .inl (cA3, 200, .inl (fun _ => 0))), (q4, .inl (cA5, 200, .inl (fun _ => 0))), (q6, .inl (cA7, 200, .inl (fun _ => 0))), (q8, .inl (cA9, 200, .inl (fun _ => 0))), (q10, .inl (cA11, 200, .inl (fun _ => 0))), (q12, .inr (2, [.ref q13, .ref q15, .ref q17, .ref q19, .ref q20, .ref q22, .ref q24, .int 0])), (q13, .inl (cA14, 4, .inl (fun _ => 0))), (q15, .inl (cA16, 4, .inl (fun _ => 0))), (q17, .inl (cA18, 4096, .inl (fun _ => 0))), (q20, .inl (cA21, 4, .inl (fun _ => 0))), (q22, .inl (cA23, 64, .inl (fun _ => 0))), (q24, .inl (cA25, 512, .inl (fun _ => 0)))] H := hP
  have hD : va_D A [(h0, .inr (0, [.ref q1, .ref q12, .null, .null, .null, .null, .int 0])), (q1, .inr (1, [.ref q2, .ref q4, .ref q6, .ref q8, .ref q10, .int 0])), (q2, .inl (cA3, 200, .inl (fun _ => 0))), (q4, .inl (cA5, 200, .inl (fun _ => 0))), (q6, .inl (cA7, 200, .inl (fun _ => 0))), (q8, .inl (cA9, 200, .inl (fun _ => 0))), (q10, .inl (cA11, 200, .inl (fun _ => 0))), (q12, .inr (2, [.ref q13, .ref q15, .ref q17, .ref q19, .ref q20, .ref q22, .ref q24, .int 0])), (q13, .inl (cA14, 4, .inl (fun _ => 0))), (q15, .inl (cA16, 4, .inl (fun _ => 0))), (q17, .inl (cA18, 4096, .inl (fun _ => 0))), (q20, .inl (cA21, 4, .inl (fun _ => 0))), (q22, .inl (cA23, 64, .inl (fun _ => 0))), (q24, .inl (cA25, 512, .inl (fun _ => 0)))] := hD
  refine lv_aload_n hx hb d_FG_init_26 rfl (lv_at hl 0 rfl) ?_
  refine va_new (ci := 3) (fs := [.null, .null, .null, .int 0, .int 0]) (C := R_Me) (T := F_Me) (N := 5) hx hb hts i_Me t_Me t_Me_ok hown (hts _ mw_119) (hts _ mw_120) (hts _ mw_4) hK hP hD hS hA rfl zz_df_Me (Nat.le_of_ble_eq_true rfl) (Nat.le_of_ble_eq_true rfl) d_FG_init_27 (fun q26 H hP hD hS => ?_)
  have hP : va_P (dC, dI) classes [(h0, .inr (0, [.ref q1, .ref q12, .null, .null, .null, .null, .int 0])), (q1, .inr (1, [.ref q2, .ref q4, .ref q6, .ref q8, .ref q10, .int 0])), (q2, .inl (cA3, 200, .inl (fun _ => 0))), (q4, .inl (cA5, 200, .inl (fun _ => 0))), (q6, .inl (cA7, 200, .inl (fun _ => 0))), (q8, .inl (cA9, 200, .inl (fun _ => 0))), (q10, .inl (cA11, 200, .inl (fun _ => 0))), (q12, .inr (2, [.ref q13, .ref q15, .ref q17, .ref q19, .ref q20, .ref q22, .ref q24, .int 0])), (q13, .inl (cA14, 4, .inl (fun _ => 0))), (q15, .inl (cA16, 4, .inl (fun _ => 0))), (q17, .inl (cA18, 4096, .inl (fun _ => 0))), (q20, .inl (cA21, 4, .inl (fun _ => 0))), (q22, .inl (cA23, 64, .inl (fun _ => 0))), (q24, .inl (cA25, 512, .inl (fun _ => 0))), (q26, .inr (3, [.null, .null, .null, .int 0, .int 0]))] H := hP
  have hD : va_D A [(h0, .inr (0, [.ref q1, .ref q12, .null, .null, .null, .null, .int 0])), (q1, .inr (1, [.ref q2, .ref q4, .ref q6, .ref q8, .ref q10, .int 0])), (q2, .inl (cA3, 200, .inl (fun _ => 0))), (q4, .inl (cA5, 200, .inl (fun _ => 0))), (q6, .inl (cA7, 200, .inl (fun _ => 0))), (q8, .inl (cA9, 200, .inl (fun _ => 0))), (q10, .inl (cA11, 200, .inl (fun _ => 0))), (q12, .inr (2, [.ref q13, .ref q15, .ref q17, .ref q19, .ref q20, .ref q22, .ref q24, .int 0])), (q13, .inl (cA14, 4, .inl (fun _ => 0))), (q15, .inl (cA16, 4, .inl (fun _ => 0))), (q17, .inl (cA18, 4096, .inl (fun _ => 0))), (q20, .inl (cA21, 4, .inl (fun _ => 0))), (q22, .inl (cA23, 64, .inl (fun _ => 0))), (q24, .inl (cA25, 512, .inl (fun _ => 0))), (q26, .inr (3, [.null, .null, .null, .int 0, .int 0]))] := hD
  refine W.widen (k := 15) (n := 5711) (by omega) (by omega) ?_
  refine lv_dup hx hb d_FG_init_30 rfl ?_
  refine lv_aload_n hx hb d_FG_init_31 rfl (lv_at hl 0 rfl) ?_
  refine va_get (D := (dC, dI)) (ci := 0) (v := .ref q12) (C := R_FG) (T := F_FG) (N := 7) hx hb hts i_FG hown hK hP 0 rfl rfl 1 (by decide) (hts _ mw_324) (fun _ h9 => h9) rfl d_FG_init_32 ?_
  have hPc := hP.sub (ws' := [(q26, .inr (3, [.null, .null, .null, .int 0, .int 0]))]) [14] rfl
  have hKc := hK.sub (tys' := []) [] rfl
  have hDc := hD.sub (ws' := [(q26, .inr (3, [.null, .null, .null, .int 0, .int 0]))]) [14] (by decide) rfl
  have hFc := va_free (wc := [(q26, .inr (3, [.null, .null, .null, .int 0, .int 0]))]) hD hS hA [14] rfl
  refine va_callv (va_runI (As := [.ref q12]) (rest := [.ref q26, .ref h0]) ⟨hx, hb, hml, hown, hts⟩ (Me_init l dC dI H.size q26 q12) (zz_cI 1 hts mw_121 mw_123 mw_4 mw_122 rfl rfl rfl hd_Me_init ⟨Nat.le_of_ble_eq_true rfl, Nat.le_of_ble_eq_true rfl⟩) ⟨zz_blind, fun U hU hW => ⟨rfl, zz_pre hPc hKc hDc hT U hU hW⟩⟩ rfl rfl hl.1 rfl (lv_room (Nat.le_of_ble_eq_true rfl)) d_FG_init_35 ⟨(Nat.le_of_ble_eq_true rfl), (Nat.le_of_ble_eq_true rfl)⟩) hS (fun q _ h => hFc q h) hFc (fun  u t H1 locs ht hvm hw hB hz1 hk1 hS => ?_)
  obtain ⟨q27, cA28, q29, hP1, hK1, hD1⟩ := hB
  rw [ht] at hP1
  have hK1 := va_K.moved hvm.symm hK1
  obtain ⟨hP, hD⟩ := va_join (wr := [(h0, .inr (0, [.ref q1, .ref q12, .null, .null, .null, .null, .int 0])), (q1, .inr (1, [.ref q2, .ref q4, .ref q6, .ref q8, .ref q10, .int 0])), (q2, .inl (cA3, 200, .inl (fun _ => 0))), (q4, .inl (cA5, 200, .inl (fun _ => 0))), (q6, .inl (cA7, 200, .inl (fun _ => 0))), (q8, .inl (cA9, 200, .inl (fun _ => 0))), (q10, .inl (cA11, 200, .inl (fun _ => 0))), (q12, .inr (2, [.ref q13, .ref q15, .ref q17, .ref q19, .ref q20, .ref q22, .ref q24, .int 0])), (q13, .inl (cA14, 4, .inl (fun _ => 0))), (q15, .inl (cA16, 4, .inl (fun _ => 0))), (q17, .inl (cA18, 4096, .inl (fun _ => 0))), (q20, .inl (cA21, 4, .inl (fun _ => 0))), (q22, .inl (cA23, 64, .inl (fun _ => 0))), (q24, .inl (cA25, 512, .inl (fun _ => 0)))]) (w1 := [(q26, .inr (3, [.ref q12, .ref q27, .ref q29, .int 0, .int 0])), (q27, .inl (cA28, 400, .inl (fun _ => 0)))]) hP hD [14] [0, 1, 2, 3, 4, 5, 6, 7, 8, 9, 10, 11, 12, 13] rfl rfl (by decide) (by decide) hk1 hFc hP1 hD1
  have hK := (hK.sub (tys' := [(cA3, .int), (cA5, .int), (cA7, .int), (cA9, .int), (cA11, .int), (cA14, .int), (cA16, .int), (cA18, .byte), (cA21, .int), (cA23, .boolean), (cA25, .byte)]) [0, 1, 2, 3, 4, 5, 6, 7, 8, 9, 10] rfl).app hK1
  generalize H1 = H at hP hS ⊢
  have hP : va_P (dC, dI) classes [(h0, .inr (0, [.ref q1, .ref q12, .null, .null, .null, .null, .int 0])), (q1, .inr (1, [.ref q2, .ref q4, .ref q6, .ref q8, .ref q10, .int 0])), (q2, .inl (cA3, 200, .inl (fun _ => 0))), (q4, .inl (cA5, 200, .inl (fun _ => 0))), (q6, .inl (cA7, 200, .inl (fun _ => 0))), (q8, .inl (cA9, 200, .inl (fun _ => 0))), (q10, .inl (cA11, 200, .inl (fun _ => 0))), (q12, .inr (2, [.ref q13, .ref q15, .ref q17, .ref q19, .ref q20, .ref q22, .ref q24, .int 0])), (q13, .inl (cA14, 4, .inl (fun _ => 0))), (q15, .inl (cA16, 4, .inl (fun _ => 0))), (q17, .inl (cA18, 4096, .inl (fun _ => 0))), (q20, .inl (cA21, 4, .inl (fun _ => 0))), (q22, .inl (cA23, 64, .inl (fun _ => 0))), (q24, .inl (cA25, 512, .inl (fun _ => 0))), (q26, .inr (3, [.ref q12, .ref q27, .ref q29, .int 0, .int 0])), (q27, .inl (cA28, 400, .inl (fun _ => 0)))] H := hP
  have hD : va_D A [(h0, .inr (0, [.ref q1, .ref q12, .null, .null, .null, .null, .int 0])), (q1, .inr (1, [.ref q2, .ref q4, .ref q6, .ref q8, .ref q10, .int 0])), (q2, .inl (cA3, 200, .inl (fun _ => 0))), (q4, .inl (cA5, 200, .inl (fun _ => 0))), (q6, .inl (cA7, 200, .inl (fun _ => 0))), (q8, .inl (cA9, 200, .inl (fun _ => 0))), (q10, .inl (cA11, 200, .inl (fun _ => 0))), (q12, .inr (2, [.ref q13, .ref q15, .ref q17, .ref q19, .ref q20, .ref q22, .ref q24, .int 0])), (q13, .inl (cA14, 4, .inl (fun _ => 0))), (q15, .inl (cA16, 4, .inl (fun _ => 0))), (q17, .inl (cA18, 4096, .inl (fun _ => 0))), (q20, .inl (cA21, 4, .inl (fun _ => 0))), (q22, .inl (cA23, 64, .inl (fun _ => 0))), (q24, .inl (cA25, 512, .inl (fun _ => 0))), (q26, .inr (3, [.ref q12, .ref q27, .ref q29, .int 0, .int 0])), (q27, .inl (cA28, 400, .inl (fun _ => 0)))] := hD
  have hK : va_K (dC, dI) classes [(cA3, .int), (cA5, .int), (cA7, .int), (cA9, .int), (cA11, .int), (cA14, .int), (cA16, .int), (cA18, .byte), (cA21, .int), (cA23, .boolean), (cA25, .byte), (cA28, .byte)] s := hK
  refine W.widen (k := 17) (n := 6175) (by omega) (by omega) ?_
  refine va_putF (D := (dC, dI)) (ci := 0) (v := .ref q26) (ty := (.object R_Me)) (C := R_FG) (T := F_FG) (N := 7) hx hb hts i_FG t_FG t_FG_ok n_FG hown hK hP hD hS 0 rfl rfl 2 (by decide) (hts _ mw_325) (fun _ h9 => h9) rfl hin rfl (by decide +kernel) rfl rfl (Nat.le_of_ble_eq_true rfl) d_FG_init_38 (fun H locs hP hD hS => ?_)
  have hP : va_P (dC, dI) classes [(h0, .inr (0, [.ref q1, .ref q12, .ref q26, .null, .null, .null, .int 0])), (q1, .inr (1, [.ref q2, .ref q4, .ref q6, .ref q8, .ref q10, .int 0])), (q2, .inl (cA3, 200, .inl (fun _ => 0))), (q4, .inl (cA5, 200, .inl (fun _ => 0))), (q6, .inl (cA7, 200, .inl (fun _ => 0))), (q8, .inl (cA9, 200, .inl (fun _ => 0))), (q10, .inl (cA11, 200, .inl (fun _ => 0))), (q12, .inr (2, [.ref q13, .ref q15, .ref q17, .ref q19, .ref q20, .ref q22, .ref q24, .int 0])), (q13, .inl (cA14, 4, .inl (fun _ => 0))), (q15, .inl (cA16, 4, .inl (fun _ => 0))), (q17, .inl (cA18, 4096, .inl (fun _ => 0))), (q20, .inl (cA21, 4, .inl (fun _ => 0))), (q22, .inl (cA23, 64, .inl (fun _ => 0))), (q24, .inl (cA25, 512, .inl (fun _ => 0))), (q26, .inr (3, [.ref q12, .ref q27, .ref q29, .int 0, .int 0])), (q27, .inl (cA28, 400, .inl (fun _ => 0)))] H := hP
  have hD : va_D A [(h0, .inr (0, [.ref q1, .ref q12, .ref q26, .null, .null, .null, .int 0])), (q1, .inr (1, [.ref q2, .ref q4, .ref q6, .ref q8, .ref q10, .int 0])), (q2, .inl (cA3, 200, .inl (fun _ => 0))), (q4, .inl (cA5, 200, .inl (fun _ => 0))), (q6, .inl (cA7, 200, .inl (fun _ => 0))), (q8, .inl (cA9, 200, .inl (fun _ => 0))), (q10, .inl (cA11, 200, .inl (fun _ => 0))), (q12, .inr (2, [.ref q13, .ref q15, .ref q17, .ref q19, .ref q20, .ref q22, .ref q24, .int 0])), (q13, .inl (cA14, 4, .inl (fun _ => 0))), (q15, .inl (cA16, 4, .inl (fun _ => 0))), (q17, .inl (cA18, 4096, .inl (fun _ => 0))), (q20, .inl (cA21, 4, .inl (fun _ => 0))), (q22, .inl (cA23, 64, .inl (fun _ => 0))), (q24, .inl (cA25, 512, .inl (fun _ => 0))), (q26, .inr (3, [.ref q12, .ref q27, .ref q29, .int 0, .int 0])), (q27, .inl (cA28, 400, .inl (fun _ => 0)))] := hD
  refine lv_aload_n hx hb d_FG_init_41 rfl (lv_at hl 0 rfl) ?_
  refine va_new (ci := 4) (fs := [.null, .null, .null, .null]) (C := R_Fo) (T := F_Fo) (N := 4) hx hb hts i_Fo t_Fo t_Fo_ok hown (hts _ mw_146) (hts _ mw_147) (hts _ mw_5) hK hP hD hS hA rfl zz_df_Fo (Nat.le_of_ble_eq_true rfl) (Nat.le_of_ble_eq_true rfl) d_FG_init_42 (fun q30 H hP hD hS => ?_)
  have hP : va_P (dC, dI) classes [(h0, .inr (0, [.ref q1, .ref q12, .ref q26, .null, .null, .null, .int 0])), (q1, .inr (1, [.ref q2, .ref q4, .ref q6, .ref q8, .ref q10, .int 0])), (q2, .inl (cA3, 200, .inl (fun _ => 0))), (q4, .inl (cA5, 200, .inl (fun _ => 0))), (q6, .inl (cA7, 200, .inl (fun _ => 0))), (q8, .inl (cA9, 200, .inl (fun _ => 0))), (q10, .inl (cA11, 200, .inl (fun _ => 0))), (q12, .inr (2, [.ref q13, .ref q15, .ref q17, .ref q19, .ref q20, .ref q22, .ref q24, .int 0])), (q13, .inl (cA14, 4, .inl (fun _ => 0))), (q15, .inl (cA16, 4, .inl (fun _ => 0))), (q17, .inl (cA18, 4096, .inl (fun _ => 0))), (q20, .inl (cA21, 4, .inl (fun _ => 0))), (q22, .inl (cA23, 64, .inl (fun _ => 0))), (q24, .inl (cA25, 512, .inl (fun _ => 0))), (q26, .inr (3, [.ref q12, .ref q27, .ref q29, .int 0, .int 0])), (q27, .inl (cA28, 400, .inl (fun _ => 0))), (q30, .inr (4, [.null, .null, .null, .null]))] H := hP
  have hD : va_D A [(h0, .inr (0, [.ref q1, .ref q12, .ref q26, .null, .null, .null, .int 0])), (q1, .inr (1, [.ref q2, .ref q4, .ref q6, .ref q8, .ref q10, .int 0])), (q2, .inl (cA3, 200, .inl (fun _ => 0))), (q4, .inl (cA5, 200, .inl (fun _ => 0))), (q6, .inl (cA7, 200, .inl (fun _ => 0))), (q8, .inl (cA9, 200, .inl (fun _ => 0))), (q10, .inl (cA11, 200, .inl (fun _ => 0))), (q12, .inr (2, [.ref q13, .ref q15, .ref q17, .ref q19, .ref q20, .ref q22, .ref q24, .int 0])), (q13, .inl (cA14, 4, .inl (fun _ => 0))), (q15, .inl (cA16, 4, .inl (fun _ => 0))), (q17, .inl (cA18, 4096, .inl (fun _ => 0))), (q20, .inl (cA21, 4, .inl (fun _ => 0))), (q22, .inl (cA23, 64, .inl (fun _ => 0))), (q24, .inl (cA25, 512, .inl (fun _ => 0))), (q26, .inr (3, [.ref q12, .ref q27, .ref q29, .int 0, .int 0])), (q27, .inl (cA28, 400, .inl (fun _ => 0))), (q30, .inr (4, [.null, .null, .null, .null]))] := hD
  refine W.widen (k := 18) (n := 6179) (by omega) (by omega) ?_
  refine lv_dup hx hb d_FG_init_45 rfl ?_
  have hPc := hP.sub (ws' := [(q30, .inr (4, [.null, .null, .null, .null]))]) [16] rfl
  have hKc := hK.sub (tys' := []) [] rfl
  have hDc := hD.sub (ws' := [(q30, .inr (4, [.null, .null, .null, .null]))]) [16] (by decide) rfl
  have hFc := va_free (wc := [(q30, .inr (4, [.null, .null, .null, .null]))]) hD hS hA [16] rfl
  refine va_callv (va_runIN (As := []) (rest := [.ref q30, .ref h0]) ⟨hx, hb, hml, hown, hts⟩ (Fo_init l dC dI H.size q30) ⟨zz_cN 0 hts hT mn_148 mw_150 mw_5 rfl rfl hd_Fo_init ⟨Nat.le_of_ble_eq_true rfl, Nat.le_of_ble_eq_true rfl⟩, rfl, hts _ mw_149⟩ ⟨zz_blind, fun U hU hW => ⟨rfl, zz_pre hPc hKc hDc hT U hU hW⟩⟩ rfl rfl hl.1 rfl (lv_room (Nat.le_of_ble_eq_true rfl)) d_FG_init_46 ⟨(Nat.le_of_ble_eq_true rfl), (Nat.le_of_ble_eq_true rfl)⟩) hS (fun q _ h => hFc q h) hFc (fun  u t H1 locs ht hvm hw hB hz1 hk1 hS => ?_)
  obtain ⟨hP1, hK1, hD1⟩ := hB
  rw [ht] at hP1
  have hK1 := va_K.moved hvm.symm hK1
  obtain ⟨hP, hD⟩ := va_join (wr := [(h0, .inr (0, [.ref q1, .ref q12, .ref q26, .null, .null, .null, .int 0])), (q1, .inr (1, [.ref q2, .ref q4, .ref q6, .ref q8, .ref q10, .int 0])), (q2, .inl (cA3, 200, .inl (fun _ => 0))), (q4, .inl (cA5, 200, .inl (fun _ => 0))), (q6, .inl (cA7, 200, .inl (fun _ => 0))), (q8, .inl (cA9, 200, .inl (fun _ => 0))), (q10, .inl (cA11, 200, .inl (fun _ => 0))), (q12, .inr (2, [.ref q13, .ref q15, .ref q17, .ref q19, .ref q20, .ref q22, .ref q24, .int 0])), (q13, .inl (cA14, 4, .inl (fun _ => 0))), (q15, .inl (cA16, 4, .inl (fun _ => 0))), (q17, .inl (cA18, 4096, .inl (fun _ => 0))), (q20, .inl (cA21, 4, .inl (fun _ => 0))), (q22, .inl (cA23, 64, .inl (fun _ => 0))), (q24, .inl (cA25, 512, .inl (fun _ => 0))), (q26, .inr (3, [.ref q12, .ref q27, .ref q29, .int 0, .int 0])), (q27, .inl (cA28, 400, .inl (fun _ => 0)))]) (w1 := []) hP hD [16] [0, 1, 2, 3, 4, 5, 6, 7, 8, 9, 10, 11, 12, 13, 14, 15] rfl rfl (by decide) (by decide) hk1 hFc hP1 hD1
  have hK := (hK.sub (tys' := [(cA3, .int), (cA5, .int), (cA7, .int), (cA9, .int), (cA11, .int), (cA14, .int), (cA16, .int), (cA18, .byte), (cA21, .int), (cA23, .boolean), (cA25, .byte), (cA28, .byte)]) [0, 1, 2, 3, 4, 5, 6, 7, 8, 9, 10, 11] rfl).app hK1
  generalize H1 = H at hP hS ⊢
  have hP : va_P (dC, dI) classes [(h0, .inr (0, [.ref q1, .ref q12, .ref q26, .null, .null, .null, .int 0])), (q1, .inr (1, [.ref q2, .ref q4, .ref q6, .ref q8, .ref q10, .int 0])), (q2, .inl (cA3, 200, .inl (fun _ => 0))), (q4, .inl (cA5, 200, .inl (fun _ => 0))), (q6, .inl (cA7, 200, .inl (fun _ => 0))), (q8, .inl (cA9, 200, .inl (fun _ => 0))), (q10, .inl (cA11, 200, .inl (fun _ => 0))), (q12, .inr (2, [.ref q13, .ref q15, .ref q17, .ref q19, .ref q20, .ref q22, .ref q24, .int 0])), (q13, .inl (cA14, 4, .inl (fun _ => 0))), (q15, .inl (cA16, 4, .inl (fun _ => 0))), (q17, .inl (cA18, 4096, .inl (fun _ => 0))), (q20, .inl (cA21, 4, .inl (fun _ => 0))), (q22, .inl (cA23, 64, .inl (fun _ => 0))), (q24, .inl (cA25, 512, .inl (fun _ => 0))), (q26, .inr (3, [.ref q12, .ref q27, .ref q29, .int 0, .int 0])), (q27, .inl (cA28, 400, .inl (fun _ => 0)))] H := hP
  have hD : va_D A [(h0, .inr (0, [.ref q1, .ref q12, .ref q26, .null, .null, .null, .int 0])), (q1, .inr (1, [.ref q2, .ref q4, .ref q6, .ref q8, .ref q10, .int 0])), (q2, .inl (cA3, 200, .inl (fun _ => 0))), (q4, .inl (cA5, 200, .inl (fun _ => 0))), (q6, .inl (cA7, 200, .inl (fun _ => 0))), (q8, .inl (cA9, 200, .inl (fun _ => 0))), (q10, .inl (cA11, 200, .inl (fun _ => 0))), (q12, .inr (2, [.ref q13, .ref q15, .ref q17, .ref q19, .ref q20, .ref q22, .ref q24, .int 0])), (q13, .inl (cA14, 4, .inl (fun _ => 0))), (q15, .inl (cA16, 4, .inl (fun _ => 0))), (q17, .inl (cA18, 4096, .inl (fun _ => 0))), (q20, .inl (cA21, 4, .inl (fun _ => 0))), (q22, .inl (cA23, 64, .inl (fun _ => 0))), (q24, .inl (cA25, 512, .inl (fun _ => 0))), (q26, .inr (3, [.ref q12, .ref q27, .ref q29, .int 0, .int 0])), (q27, .inl (cA28, 400, .inl (fun _ => 0)))] := hD
  have hK : va_K (dC, dI) classes [(cA3, .int), (cA5, .int), (cA7, .int), (cA9, .int), (cA11, .int), (cA14, .int), (cA16, .int), (cA18, .byte), (cA21, .int), (cA23, .boolean), (cA25, .byte), (cA28, .byte)] s := hK
  refine W.widen (k := 22) (n := 12979) (by omega) (by omega) ?_
  refine va_putF (D := (dC, dI)) (ci := 0) (v := .ref q30) (ty := (.object R_Fo)) (C := R_FG) (T := F_FG) (N := 7) hx hb hts i_FG t_FG t_FG_ok n_FG hown hK hP hD hS 0 rfl rfl 3 (by decide) (hts _ mw_326) (fun _ h9 => h9) rfl hin rfl (by decide +kernel) rfl rfl (Nat.le_of_ble_eq_true rfl) d_FG_init_49 (fun H locs hP hD hS => ?_)
  have hP : va_P (dC, dI) classes [(h0, .inr (0, [.ref q1, .ref q12, .ref q26, .ref q30, .null, .null, .int 0])), (q1, .inr (1, [.ref q2, .ref q4, .ref q6, .ref q8, .ref q10, .int 0])), (q2, .inl (cA3, 200, .inl (fun _ => 0))), (q4, .inl (cA5, 200, .inl (fun _ => 0))), (q6, .inl (cA7, 200, .inl (fun _ => 0))), (q8, .inl (cA9, 200, .inl (fun _ => 0))), (q10, .inl (cA11, 200, .inl (fun _ => 0))), (q12, .inr (2, [.ref q13, .ref q15, .ref q17, .ref q19, .ref q20, .ref q22, .ref q24, .int 0])), (q13, .inl (cA14, 4, .inl (fun _ => 0))), (q15, .inl (cA16, 4, .inl (fun _ => 0))), (q17, .inl (cA18, 4096, .inl (fun _ => 0))), (q20, .inl (cA21, 4, .inl (fun _ => 0))), (q22, .inl (cA23, 64, .inl (fun _ => 0))), (q24, .inl (cA25, 512, .inl (fun _ => 0))), (q26, .inr (3, [.ref q12, .ref q27, .ref q29, .int 0, .int 0])), (q27, .inl (cA28, 400, .inl (fun _ => 0)))] H := hP
  have hD : va_D A [(h0, .inr (0, [.ref q1, .ref q12, .ref q26, .ref q30, .null, .null, .int 0])), (q1, .inr (1, [.ref q2, .ref q4, .ref q6, .ref q8, .ref q10, .int 0])), (q2, .inl (cA3, 200, .inl (fun _ => 0))), (q4, .inl (cA5, 200, .inl (fun _ => 0))), (q6, .inl (cA7, 200, .inl (fun _ => 0))), (q8, .inl (cA9, 200, .inl (fun _ => 0))), (q10, .inl (cA11, 200, .inl (fun _ => 0))), (q12, .inr (2, [.ref q13, .ref q15, .ref q17, .ref q19, .ref q20, .ref q22, .ref q24, .int 0])), (q13, .inl (cA14, 4, .inl (fun _ => 0))), (q15, .inl (cA16, 4, .inl (fun _ => 0))), (q17, .inl (cA18, 4096, .inl (fun _ => 0))), (q20, .inl (cA21, 4, .inl (fun _ => 0))), (q22, .inl (cA23, 64, .inl (fun _ => 0))), (q24, .inl (cA25, 512, .inl (fun _ => 0))), (q26, .inr (3, [.ref q12, .ref q27, .ref q29, .int 0, .int 0])), (q27, .inl (cA28, 400, .inl (fun _ => 0)))] := hD
  refine lv_aload_n hx hb d_FG_init_52 rfl (lv_at hl 0 rfl) ?_
  refine va_new (ci := 5) (fs := [.null, .null, .null, .null, .null, .null, .null, .null, .null, .int 0, .int 0, .int 0, .int 0, .int 0]) (C := R_Ch) (T := F_Ch) (N := 14) hx hb hts i_Ch t_Ch t_Ch_ok hown (hts _ mw_166) (hts _ mw_167) (hts _ mw_6) hK hP hD hS hA rfl zz_df_Ch (Nat.le_of_ble_eq_true rfl) (Nat.le_of_ble_eq_true rfl) d_FG_init_53 (fun q31 H hP hD hS => ?_)
  have hP : va_P (dC, dI) classes [(h0, .inr (0, [.ref q1, .ref q12, .ref q26, .ref q30, .null, .null, .int 0])), (q1, .inr (1, [.ref q2, .ref q4, .ref q6, .ref q8, .ref q10, .int 0])), (q2, .inl (cA3, 200, .inl (fun _ => 0))), (q4, .inl (cA5, 200, .inl (fun _ => 0))), (q6, .inl (cA7, 200, .inl (fun _ => 0))), (q8, .inl (cA9, 200, .inl (fun _ => 0))), (q10, .inl (cA11, 200, .inl (fun _ => 0))), (q12, .inr (2, [.ref q13, .ref q15, .ref q17, .ref q19, .ref q20, .ref q22, .ref q24, .int 0])), (q13, .inl (cA14, 4, .inl (fun _ => 0))), (q15, .inl (cA16, 4, .inl (fun _ => 0))), (q17, .inl (cA18, 4096, .inl (fun _ => 0))), (q20, .inl (cA21, 4, .inl (fun _ => 0))), (q22, .inl (cA23, 64, .inl (fun _ => 0))), (q24, .inl (cA25, 512, .inl (fun _ => 0))), (q26, .inr (3, [.ref q12, .ref q27, .ref q29, .int 0, .int 0])), (q27, .inl (cA28, 400, .inl (fun _ => 0))), (q31, .inr (5, [.null, .null, .null, .null, .null, .null, .null, .null, .null, .int 0, .int 0, .int 0, .int 0, .int 0]))] H := hP
  have hD : va_D A [(h0, .inr (0, [.ref q1, .ref q12, .ref q26, .ref q30, .null, .null, .int 0])), (q1, .inr (1, [.ref q2, .ref q4, .ref q6, .ref q8, .ref q10, .int 0])), (q2, .inl (cA3, 200, .inl (fun _ => 0))), (q4, .inl (cA5, 200, .inl (fun _ => 0))), (q6, .inl (cA7, 200, .inl (fun _ => 0))), (q8, .inl (cA9, 200, .inl (fun _ => 0))), (q10, .inl (cA11, 200, .inl (fun _ => 0))), (q12, .inr (2, [.ref q13, .ref q15, .ref q17, .ref q19, .ref q20, .ref q22, .ref q24, .int 0])), (q13, .inl (cA14, 4, .inl (fun _ => 0))), (q15, .inl (cA16, 4, .inl (fun _ => 0))), (q17, .inl (cA18, 4096, .inl (fun _ => 0))), (q20, .inl (cA21, 4, .inl (fun _ => 0))), (q22, .inl (cA23, 64, .inl (fun _ => 0))), (q24, .inl (cA25, 512, .inl (fun _ => 0))), (q26, .inr (3, [.ref q12, .ref q27, .ref q29, .int 0, .int 0])), (q27, .inl (cA28, 400, .inl (fun _ => 0))), (q31, .inr (5, [.null, .null, .null, .null, .null, .null, .null, .null, .null, .int 0, .int 0, .int 0, .int 0, .int 0]))] := hD
  refine W.widen (k := 23) (n := 12993) (by omega) (by omega) ?_
  refine lv_dup hx hb d_FG_init_56 rfl ?_
  refine lv_aload_n hx hb d_FG_init_57 rfl (lv_at hl 0 rfl) ?_
  refine va_get (D := (dC, dI)) (ci := 0) (v := .ref q1) (C := R_FG) (T := F_FG) (N := 7) hx hb hts i_FG hown hK hP 0 rfl rfl 0 (by decide) (hts _ mw_323) (fun _ h9 => h9) rfl d_FG_init_58 ?_
  refine lv_aload_n hx hb d_FG_init_61 rfl (lv_at hl 0 rfl) ?_
  refine va_get (D := (dC, dI)) (ci := 0) (v := .ref q12) (C := R_FG) (T := F_FG) (N := 7) hx hb hts i_FG hown hK hP 0 rfl rfl 1 (by decide) (hts _ mw_324) (fun _ h9 => h9) rfl d_FG_init_62 ?_
  refine lv_aload_n hx hb d_FG_init_65 rfl (lv_at hl 0 rfl) ?_
  refine va_get (D := (dC, dI)) (ci := 0) (v := .ref q30) (C := R_FG) (T := F_FG) (N := 7) hx hb hts i_FG hown hK hP 0 rfl rfl 3 (by decide) (hts _ mw_326) (fun _ h9 => h9) rfl d_FG_init_66 ?_
  have hPc := hP.sub (ws' := [(q31, .inr (5, [.null, .null, .null, .null, .null, .null, .null, .null, .null, .int 0, .int 0, .int 0, .int 0, .int 0]))]) [16] rfl
  have hKc := hK.sub (tys' := []) [] rfl
  have hDc := hD.sub (ws' := [(q31, .inr (5, [.null, .null, .null, .null, .null, .null, .null, .null, .null, .int 0, .int 0, .int 0, .int 0, .int 0]))]) [16] (by decide) rfl
  have hFc := va_free (wc := [(q31, .inr (5, [.null, .null, .null, .null, .null, .null, .null, .null, .null, .int 0, .int 0, .int 0, .int 0, .int 0]))]) hD hS hA [16] rfl
  refine va_callv (va_runI (As := [.ref q1, .ref q12, .ref q30]) (rest := [.ref q31, .ref h0]) ⟨hx, hb, hml, hown, hts⟩ (Ch_init l dC dI H.size q31 q1 q12 q30) (zz_cI 3 hts mw_168 mw_170 mw_6 mw_169 rfl rfl rfl hd_Ch_init ⟨Nat.le_of_ble_eq_true rfl, Nat.le_of_ble_eq_true rfl⟩) ⟨zz_blind, fun U hU hW => ⟨rfl, zz_pre hPc hKc hDc hT U hU hW⟩⟩ rfl rfl hl.1 rfl (lv_room (Nat.le_of_ble_eq_true rfl)) d_FG_init_69 ⟨(Nat.le_of_ble_eq_true rfl), (Nat.le_of_ble_eq_true rfl)⟩) hS (fun q _ h => hFc q h) hFc (fun  u t H1 locs ht hvm hw hB hz1 hk1 hS => ?_)
  obtain ⟨q32, q33, q34, q35, q36, q37, hP1, hK1, hD1⟩ := hB
  rw [ht] at hP1
  have hK1 := va_K.moved hvm.symm hK1
  obtain ⟨hP, hD⟩ := va_join (wr := [(h0, .inr (0, [.ref q1, .ref q12, .ref q26, .ref q30, .null, .null, .int 0])), (q1, .inr (1, [.ref q2, .ref q4, .ref q6, .ref q8, .ref q10, .int 0])), (q2, .inl (cA3, 200, .inl (fun _ => 0))), (q4, .inl (cA5, 200, .inl (fun _ => 0))), (q6, .inl (cA7, 200, .inl (fun _ => 0))), (q8, .inl (cA9, 200, .inl (fun _ => 0))), (q10, .inl (cA11, 200, .inl (fun _ => 0))), (q12, .inr (2, [.ref q13, .ref q15, .ref q17, .ref q19, .ref q20, .ref q22, .ref q24, .int 0])), (q13, .inl (cA14, 4, .inl (fun _ => 0))), (q15, .inl (cA16, 4, .inl (fun _ => 0))), (q17, .inl (cA18, 4096, .inl (fun _ => 0))), (q20, .inl (cA21, 4, .inl (fun _ => 0))), (q22, .inl (cA23, 64, .inl (fun _ => 0))), (q24, .inl (cA25, 512, .inl (fun _ => 0))), (q26, .inr (3, [.ref q12, .ref q27, .ref q29, .int 0, .int 0])), (q27, .inl (cA28, 400, .inl (fun _ => 0)))]) (w1 := [(q31, .inr (5, [.ref q1, .ref q12, .ref q30, .ref q32, .ref q33, .ref q34, .ref q35, .ref q36, .ref q37, .int 0, .int 0, .int 0, .int 0, .int (-1)]))]) hP hD [16] [0, 1, 2, 3, 4, 5, 6, 7, 8, 9, 10, 11, 12, 13, 14, 15] rfl rfl (by decide) (by decide) hk1 hFc hP1 hD1
  have hK := (hK.sub (tys' := [(cA3, .int), (cA5, .int), (cA7, .int), (cA9, .int), (cA11, .int), (cA14, .int), (cA16, .int), (cA18, .byte), (cA21, .int), (cA23, .boolean), (cA25, .byte), (cA28, .byte)]) [0, 1, 2, 3, 4, 5, 6, 7, 8, 9, 10, 11] rfl).app hK1
  generalize H1 = H at hP hS ⊢
  have hP : va_P (dC, dI) classes [(h0, .inr (0, [.ref q1, .ref q12, .ref q26, .ref q30, .null, .null, .int 0])), (q1, .inr (1, [.ref q2, .ref q4, .ref q6, .ref q8, .ref q10, .int 0])), (q2, .inl (cA3, 200, .inl (fun _ => 0))), (q4, .inl (cA5, 200, .inl (fun _ => 0))), (q6, .inl (cA7, 200, .inl (fun _ => 0))), (q8, .inl (cA9, 200, .inl (fun _ => 0))), (q10, .inl (cA11, 200, .inl (fun _ => 0))), (q12, .inr (2, [.ref q13, .ref q15, .ref q17, .ref q19, .ref q20, .ref q22, .ref q24, .int 0])), (q13, .inl (cA14, 4, .inl (fun _ => 0))), (q15, .inl (cA16, 4, .inl (fun _ => 0))), (q17, .inl (cA18, 4096, .inl (fun _ => 0))), (q20, .inl (cA21, 4, .inl (fun _ => 0))), (q22, .inl (cA23, 64, .inl (fun _ => 0))), (q24, .inl (cA25, 512, .inl (fun _ => 0))), (q26, .inr (3, [.ref q12, .ref q27, .ref q29, .int 0, .int 0])), (q27, .inl (cA28, 400, .inl (fun _ => 0))), (q31, .inr (5, [.ref q1, .ref q12, .ref q30, .ref q32, .ref q33, .ref q34, .ref q35, .ref q36, .ref q37, .int 0, .int 0, .int 0, .int 0, .int (-1)]))] H := hP
  have hD : va_D A [(h0, .inr (0, [.ref q1, .ref q12, .ref q26, .ref q30, .null, .null, .int 0])), (q1, .inr (1, [.ref q2, .ref q4, .ref q6, .ref q8, .ref q10, .int 0])), (q2, .inl (cA3, 200, .inl (fun _ => 0))), (q4, .inl (cA5, 200, .inl (fun _ => 0))), (q6, .inl (cA7, 200, .inl (fun _ => 0))), (q8, .inl (cA9, 200, .inl (fun _ => 0))), (q10, .inl (cA11, 200, .inl (fun _ => 0))), (q12, .inr (2, [.ref q13, .ref q15, .ref q17, .ref q19, .ref q20, .ref q22, .ref q24, .int 0])), (q13, .inl (cA14, 4, .inl (fun _ => 0))), (q15, .inl (cA16, 4, .inl (fun _ => 0))), (q17, .inl (cA18, 4096, .inl (fun _ => 0))), (q20, .inl (cA21, 4, .inl (fun _ => 0))), (q22, .inl (cA23, 64, .inl (fun _ => 0))), (q24, .inl (cA25, 512, .inl (fun _ => 0))), (q26, .inr (3, [.ref q12, .ref q27, .ref q29, .int 0, .int 0])), (q27, .inl (cA28, 400, .inl (fun _ => 0))), (q31, .inr (5, [.ref q1, .ref q12, .ref q30, .ref q32, .ref q33, .ref q34, .ref q35, .ref q36, .ref q37, .int 0, .int 0, .int 0, .int 0, .int (-1)]))] := hD
  have hK : va_K (dC, dI) classes [(cA3, .int), (cA5, .int), (cA7, .int), (cA9, .int), (cA11, .int), (cA14, .int), (cA16, .int), (cA18, .byte), (cA21, .int), (cA23, .boolean), (cA25, .byte), (cA28, .byte)] s := hK
  refine W.widen (k := 741) (n := 24421) (by omega) (by omega) ?_
  refine va_putF (D := (dC, dI)) (ci := 0) (v := .ref q31) (ty := (.object R_Ch)) (C := R_FG) (T := F_FG) (N := 7) hx hb hts i_FG t_FG t_FG_ok n_FG hown hK hP hD hS 0 rfl rfl 4 (by decide) (hts _ mw_327) (fun _ h9 => h9) rfl hin rfl (by decide +kernel) rfl rfl (Nat.le_of_ble_eq_true rfl) d_FG_init_72 (fun H locs hP hD hS => ?_)
  have hP : va_P (dC, dI) classes [(h0, .inr (0, [.ref q1, .ref q12, .ref q26, .ref q30, .ref q31, .null, .int 0])), (q1, .inr (1, [.ref q2, .ref q4, .ref q6, .ref q8, .ref q10, .int 0])), (q2, .inl (cA3, 200, .inl (fun _ => 0))), (q4, .inl (cA5, 200, .inl (fun _ => 0))), (q6, .inl (cA7, 200, .inl (fun _ => 0))), (q8, .inl (cA9, 200, .inl (fun _ => 0))), (q10, .inl (cA11, 200, .inl (fun _ => 0))), (q12, .inr (2, [.ref q13, .ref q15, .ref q17, .ref q19, .ref q20, .ref q22, .ref q24, .int 0])), (q13, .inl (cA14, 4, .inl (fun _ => 0))), (q15, .inl (cA16, 4, .inl (fun _ => 0))), (q17, .inl (cA18, 4096, .inl (fun _ => 0))), (q20, .inl (cA21, 4, .inl (fun _ => 0))), (q22, .inl (cA23, 64, .inl (fun _ => 0))), (q24, .inl (cA25, 512, .inl (fun _ => 0))), (q26, .inr (3, [.ref q12, .ref q27, .ref q29, .int 0, .int 0])), (q27, .inl (cA28, 400, .inl (fun _ => 0))), (q31, .inr (5, [.ref q1, .ref q12, .ref q30, .ref q32, .ref q33, .ref q34, .ref q35, .ref q36, .ref q37, .int 0, .int 0, .int 0, .int 0, .int (-1)]))] H := hP
  have hD : va_D A [(h0, .inr (0, [.ref q1, .ref q12, .ref q26, .ref q30, .ref q31, .null, .int 0])), (q1, .inr (1, [.ref q2, .ref q4, .ref q6, .ref q8, .ref q10, .int 0])), (q2, .inl (cA3, 200, .inl (fun _ => 0))), (q4, .inl (cA5, 200, .inl (fun _ => 0))), (q6, .inl (cA7, 200, .inl (fun _ => 0))), (q8, .inl (cA9, 200, .inl (fun _ => 0))), (q10, .inl (cA11, 200, .inl (fun _ => 0))), (q12, .inr (2, [.ref q13, .ref q15, .ref q17, .ref q19, .ref q20, .ref q22, .ref q24, .int 0])), (q13, .inl (cA14, 4, .inl (fun _ => 0))), (q15, .inl (cA16, 4, .inl (fun _ => 0))), (q17, .inl (cA18, 4096, .inl (fun _ => 0))), (q20, .inl (cA21, 4, .inl (fun _ => 0))), (q22, .inl (cA23, 64, .inl (fun _ => 0))), (q24, .inl (cA25, 512, .inl (fun _ => 0))), (q26, .inr (3, [.ref q12, .ref q27, .ref q29, .int 0, .int 0])), (q27, .inl (cA28, 400, .inl (fun _ => 0))), (q31, .inr (5, [.ref q1, .ref q12, .ref q30, .ref q32, .ref q33, .ref q34, .ref q35, .ref q36, .ref q37, .int 0, .int 0, .int 0, .int 0, .int (-1)]))] := hD
  refine lv_aload_n hx hb d_FG_init_75 rfl (lv_at hl 0 rfl) ?_
  refine va_new (ci := 8) (fs := [.null, .null, .null, .null, .null, .null, .int 0, .int 0, .long 0, .int 0, .int 0, .int 0]) (C := R_Ru) (T := F_Ru) (N := 12) hx hb hts i_Ru t_Ru t_Ru_ok hown (hts _ mw_276) (hts _ mw_277) (hts _ mw_9) hK hP hD hS hA rfl zz_df_Ru (Nat.le_of_ble_eq_true rfl) (Nat.le_of_ble_eq_true rfl) d_FG_init_76 (fun q38 H hP hD hS => ?_)
  have hP : va_P (dC, dI) classes [(h0, .inr (0, [.ref q1, .ref q12, .ref q26, .ref q30, .ref q31, .null, .int 0])), (q1, .inr (1, [.ref q2, .ref q4, .ref q6, .ref q8, .ref q10, .int 0])), (q2, .inl (cA3, 200, .inl (fun _ => 0))), (q4, .inl (cA5, 200, .inl (fun _ => 0))), (q6, .inl (cA7, 200, .inl (fun _ => 0))), (q8, .inl (cA9, 200, .inl (fun _ => 0))), (q10, .inl (cA11, 200, .inl (fun _ => 0))), (q12, .inr (2, [.ref q13, .ref q15, .ref q17, .ref q19, .ref q20, .ref q22, .ref q24, .int 0])), (q13, .inl (cA14, 4, .inl (fun _ => 0))), (q15, .inl (cA16, 4, .inl (fun _ => 0))), (q17, .inl (cA18, 4096, .inl (fun _ => 0))), (q20, .inl (cA21, 4, .inl (fun _ => 0))), (q22, .inl (cA23, 64, .inl (fun _ => 0))), (q24, .inl (cA25, 512, .inl (fun _ => 0))), (q26, .inr (3, [.ref q12, .ref q27, .ref q29, .int 0, .int 0])), (q27, .inl (cA28, 400, .inl (fun _ => 0))), (q31, .inr (5, [.ref q1, .ref q12, .ref q30, .ref q32, .ref q33, .ref q34, .ref q35, .ref q36, .ref q37, .int 0, .int 0, .int 0, .int 0, .int (-1)])), (q38, .inr (8, [.null, .null, .null, .null, .null, .null, .int 0, .int 0, .long 0, .int 0, .int 0, .int 0]))] H := hP
  have hD : va_D A [(h0, .inr (0, [.ref q1, .ref q12, .ref q26, .ref q30, .ref q31, .null, .int 0])), (q1, .inr (1, [.ref q2, .ref q4, .ref q6, .ref q8, .ref q10, .int 0])), (q2, .inl (cA3, 200, .inl (fun _ => 0))), (q4, .inl (cA5, 200, .inl (fun _ => 0))), (q6, .inl (cA7, 200, .inl (fun _ => 0))), (q8, .inl (cA9, 200, .inl (fun _ => 0))), (q10, .inl (cA11, 200, .inl (fun _ => 0))), (q12, .inr (2, [.ref q13, .ref q15, .ref q17, .ref q19, .ref q20, .ref q22, .ref q24, .int 0])), (q13, .inl (cA14, 4, .inl (fun _ => 0))), (q15, .inl (cA16, 4, .inl (fun _ => 0))), (q17, .inl (cA18, 4096, .inl (fun _ => 0))), (q20, .inl (cA21, 4, .inl (fun _ => 0))), (q22, .inl (cA23, 64, .inl (fun _ => 0))), (q24, .inl (cA25, 512, .inl (fun _ => 0))), (q26, .inr (3, [.ref q12, .ref q27, .ref q29, .int 0, .int 0])), (q27, .inl (cA28, 400, .inl (fun _ => 0))), (q31, .inr (5, [.ref q1, .ref q12, .ref q30, .ref q32, .ref q33, .ref q34, .ref q35, .ref q36, .ref q37, .int 0, .int 0, .int 0, .int 0, .int (-1)])), (q38, .inr (8, [.null, .null, .null, .null, .null, .null, .int 0, .int 0, .long 0, .int 0, .int 0, .int 0]))] := hD
  refine W.widen (k := 742) (n := 24433) (by omega) (by omega) ?_
  refine lv_dup hx hb d_FG_init_79 rfl ?_
  refine lv_aload_n hx hb d_FG_init_80 rfl (lv_at hl 0 rfl) ?_
  refine va_get (D := (dC, dI)) (ci := 0) (v := .ref q1) (C := R_FG) (T := F_FG) (N := 7) hx hb hts i_FG hown hK hP 0 rfl rfl 0 (by decide) (hts _ mw_323) (fun _ h9 => h9) rfl d_FG_init_81 ?_
  refine lv_aload_n hx hb d_FG_init_84 rfl (lv_at hl 0 rfl) ?_
  refine va_get (D := (dC, dI)) (ci := 0) (v := .ref q30) (C := R_FG) (T := F_FG) (N := 7) hx hb hts i_FG hown hK hP 0 rfl rfl 3 (by decide) (hts _ mw_326) (fun _ h9 => h9) rfl d_FG_init_85 ?_
  refine lv_aload_n hx hb d_FG_init_88 rfl (lv_at hl 0 rfl) ?_
  refine va_get (D := (dC, dI)) (ci := 0) (v := .ref q26) (C := R_FG) (T := F_FG) (N := 7) hx hb hts i_FG hown hK hP 0 rfl rfl 2 (by decide) (hts _ mw_325) (fun _ h9 => h9) rfl d_FG_init_89 ?_
  have hPc := hP.sub (ws' := [(q38, .inr (8, [.null, .null, .null, .null, .null, .null, .int 0, .int 0, .long 0, .int 0, .int 0, .int 0]))]) [17] rfl
  have hKc := hK.sub (tys' := []) [] rfl
  have hDc := hD.sub (ws' := [(q38, .inr (8, [.null, .null, .null, .null, .null, .null, .int 0, .int 0, .long 0, .int 0, .int 0, .int 0]))]) [17] (by decide) rfl
  have hFc := va_free (wc := [(q38, .inr (8, [.null, .null, .null, .null, .null, .null, .int 0, .int 0, .long 0, .int 0, .int 0, .int 0]))]) hD hS hA [17] rfl
  refine va_callv (va_runI (As := [.ref q1, .ref q30, .ref q26]) (rest := [.ref q38, .ref h0]) ⟨hx, hb, hml, hown, hts⟩ (Ru_init l dC dI H.size q38 q1 q30 q26) (zz_cI 3 hts mw_278 mw_280 mw_9 mw_279 rfl rfl rfl hd_Ru_init ⟨Nat.le_of_ble_eq_true rfl, Nat.le_of_ble_eq_true rfl⟩) ⟨zz_blind, fun U hU hW => ⟨rfl, zz_pre hPc hKc hDc hT U hU hW⟩⟩ rfl rfl hl.1 rfl (lv_room (Nat.le_of_ble_eq_true rfl)) d_FG_init_92 ⟨(Nat.le_of_ble_eq_true rfl), (Nat.le_of_ble_eq_true rfl)⟩) hS (fun q _ h => hFc q h) hFc (fun  u t H1 locs ht hvm hw hB hz1 hk1 hS => ?_)
  obtain ⟨q39, q40, q41, hP1, hK1, hD1⟩ := hB
  rw [ht] at hP1
  have hK1 := va_K.moved hvm.symm hK1
  obtain ⟨hP, hD⟩ := va_join (wr := [(h0, .inr (0, [.ref q1, .ref q12, .ref q26, .ref q30, .ref q31, .null, .int 0])), (q1, .inr (1, [.ref q2, .ref q4, .ref q6, .ref q8, .ref q10, .int 0])), (q2, .inl (cA3, 200, .inl (fun _ => 0))), (q4, .inl (cA5, 200, .inl (fun _ => 0))), (q6, .inl (cA7, 200, .inl (fun _ => 0))), (q8, .inl (cA9, 200, .inl (fun _ => 0))), (q10, .inl (cA11, 200, .inl (fun _ => 0))), (q12, .inr (2, [.ref q13, .ref q15, .ref q17, .ref q19, .ref q20, .ref q22, .ref q24, .int 0])), (q13, .inl (cA14, 4, .inl (fun _ => 0))), (q15, .inl (cA16, 4, .inl (fun _ => 0))), (q17, .inl (cA18, 4096, .inl (fun _ => 0))), (q20, .inl (cA21, 4, .inl (fun _ => 0))), (q22, .inl (cA23, 64, .inl (fun _ => 0))), (q24, .inl (cA25, 512, .inl (fun _ => 0))), (q26, .inr (3, [.ref q12, .ref q27, .ref q29, .int 0, .int 0])), (q27, .inl (cA28, 400, .inl (fun _ => 0))), (q31, .inr (5, [.ref q1, .ref q12, .ref q30, .ref q32, .ref q33, .ref q34, .ref q35, .ref q36, .ref q37, .int 0, .int 0, .int 0, .int 0, .int (-1)]))]) (w1 := [(q38, .inr (8, [.ref q1, .ref q30, .ref q26, .ref q39, .ref q40, .ref q41, .int 0, .int 0, .long 0, .int 0, .int 0, .int 0]))]) hP hD [17] [0, 1, 2, 3, 4, 5, 6, 7, 8, 9, 10, 11, 12, 13, 14, 15, 16] rfl rfl (by decide) (by decide) hk1 hFc hP1 hD1
  have hK := (hK.sub (tys' := [(cA3, .int), (cA5, .int), (cA7, .int), (cA9, .int), (cA11, .int), (cA14, .int), (cA16, .int), (cA18, .byte), (cA21, .int), (cA23, .boolean), (cA25, .byte), (cA28, .byte)]) [0, 1, 2, 3, 4, 5, 6, 7, 8, 9, 10, 11] rfl).app hK1
  generalize H1 = H at hP hS ⊢
  have hP : va_P (dC, dI) classes [(h0, .inr (0, [.ref q1, .ref q12, .ref q26, .ref q30, .ref q31, .null, .int 0])), (q1, .inr (1, [.ref q2, .ref q4, .ref q6, .ref q8, .ref q10, .int 0])), (q2, .inl (cA3, 200, .inl (fun _ => 0))), (q4, .inl (cA5, 200, .inl (fun _ => 0))), (q6, .inl (cA7, 200, .inl (fun _ => 0))), (q8, .inl (cA9, 200, .inl (fun _ => 0))), (q10, .inl (cA11, 200, .inl (fun _ => 0))), (q12, .inr (2, [.ref q13, .ref q15, .ref q17, .ref q19, .ref q20, .ref q22, .ref q24, .int 0])), (q13, .inl (cA14, 4, .inl (fun _ => 0))), (q15, .inl (cA16, 4, .inl (fun _ => 0))), (q17, .inl (cA18, 4096, .inl (fun _ => 0))), (q20, .inl (cA21, 4, .inl (fun _ => 0))), (q22, .inl (cA23, 64, .inl (fun _ => 0))), (q24, .inl (cA25, 512, .inl (fun _ => 0))), (q26, .inr (3, [.ref q12, .ref q27, .ref q29, .int 0, .int 0])), (q27, .inl (cA28, 400, .inl (fun _ => 0))), (q31, .inr (5, [.ref q1, .ref q12, .ref q30, .ref q32, .ref q33, .ref q34, .ref q35, .ref q36, .ref q37, .int 0, .int 0, .int 0, .int 0, .int (-1)])), (q38, .inr (8, [.ref q1, .ref q30, .ref q26, .ref q39, .ref q40, .ref q41, .int 0, .int 0, .long 0, .int 0, .int 0, .int 0]))] H := hP
  have hD : va_D A [(h0, .inr (0, [.ref q1, .ref q12, .ref q26, .ref q30, .ref q31, .null, .int 0])), (q1, .inr (1, [.ref q2, .ref q4, .ref q6, .ref q8, .ref q10, .int 0])), (q2, .inl (cA3, 200, .inl (fun _ => 0))), (q4, .inl (cA5, 200, .inl (fun _ => 0))), (q6, .inl (cA7, 200, .inl (fun _ => 0))), (q8, .inl (cA9, 200, .inl (fun _ => 0))), (q10, .inl (cA11, 200, .inl (fun _ => 0))), (q12, .inr (2, [.ref q13, .ref q15, .ref q17, .ref q19, .ref q20, .ref q22, .ref q24, .int 0])), (q13, .inl (cA14, 4, .inl (fun _ => 0))), (q15, .inl (cA16, 4, .inl (fun _ => 0))), (q17, .inl (cA18, 4096, .inl (fun _ => 0))), (q20, .inl (cA21, 4, .inl (fun _ => 0))), (q22, .inl (cA23, 64, .inl (fun _ => 0))), (q24, .inl (cA25, 512, .inl (fun _ => 0))), (q26, .inr (3, [.ref q12, .ref q27, .ref q29, .int 0, .int 0])), (q27, .inl (cA28, 400, .inl (fun _ => 0))), (q31, .inr (5, [.ref q1, .ref q12, .ref q30, .ref q32, .ref q33, .ref q34, .ref q35, .ref q36, .ref q37, .int 0, .int 0, .int 0, .int 0, .int (-1)])), (q38, .inr (8, [.ref q1, .ref q30, .ref q26, .ref q39, .ref q40, .ref q41, .int 0, .int 0, .long 0, .int 0, .int 0, .int 0]))] := hD
  have hK : va_K (dC, dI) classes [(cA3, .int), (cA5, .int), (cA7, .int), (cA9, .int), (cA11, .int), (cA14, .int), (cA16, .int), (cA18, .byte), (cA21, .int), (cA23, .boolean), (cA25, .byte), (cA28, .byte)] s := hK
  refine W.widen (k := 745) (n := 24563) (by omega) (by omega) ?_
  refine va_putF (D := (dC, dI)) (ci := 0) (v := .ref q38) (ty := (.object R_Ru)) (C := R_FG) (T := F_FG) (N := 7) hx hb hts i_FG t_FG t_FG_ok n_FG hown hK hP hD hS 0 rfl rfl 5 (by decide) (hts _ mw_328) (fun _ h9 => h9) rfl hin rfl (by decide +kernel) rfl rfl (Nat.le_of_ble_eq_true rfl) d_FG_init_95 (fun H locs hP hD hS => ?_)
  have hP : va_P (dC, dI) classes [(h0, .inr (0, [.ref q1, .ref q12, .ref q26, .ref q30, .ref q31, .ref q38, .int 0])), (q1, .inr (1, [.ref q2, .ref q4, .ref q6, .ref q8, .ref q10, .int 0])), (q2, .inl (cA3, 200, .inl (fun _ => 0))), (q4, .inl (cA5, 200, .inl (fun _ => 0))), (q6, .inl (cA7, 200, .inl (fun _ => 0))), (q8, .inl (cA9, 200, .inl (fun _ => 0))), (q10, .inl (cA11, 200, .inl (fun _ => 0))), (q12, .inr (2, [.ref q13, .ref q15, .ref q17, .ref q19, .ref q20, .ref q22, .ref q24, .int 0])), (q13, .inl (cA14, 4, .inl (fun _ => 0))), (q15, .inl (cA16, 4, .inl (fun _ => 0))), (q17, .inl (cA18, 4096, .inl (fun _ => 0))), (q20, .inl (cA21, 4, .inl (fun _ => 0))), (q22, .inl (cA23, 64, .inl (fun _ => 0))), (q24, .inl (cA25, 512, .inl (fun _ => 0))), (q26, .inr (3, [.ref q12, .ref q27, .ref q29, .int 0, .int 0])), (q27, .inl (cA28, 400, .inl (fun _ => 0))), (q31, .inr (5, [.ref q1, .ref q12, .ref q30, .ref q32, .ref q33, .ref q34, .ref q35, .ref q36, .ref q37, .int 0, .int 0, .int 0, .int 0, .int (-1)])), (q38, .inr (8, [.ref q1, .ref q30, .ref q26, .ref q39, .ref q40, .ref q41, .int 0, .int 0, .long 0, .int 0, .int 0, .int 0]))] H := hP
  have hD : va_D A [(h0, .inr (0, [.ref q1, .ref q12, .ref q26, .ref q30, .ref q31, .ref q38, .int 0])), (q1, .inr (1, [.ref q2, .ref q4, .ref q6, .ref q8, .ref q10, .int 0])), (q2, .inl (cA3, 200, .inl (fun _ => 0))), (q4, .inl (cA5, 200, .inl (fun _ => 0))), (q6, .inl (cA7, 200, .inl (fun _ => 0))), (q8, .inl (cA9, 200, .inl (fun _ => 0))), (q10, .inl (cA11, 200, .inl (fun _ => 0))), (q12, .inr (2, [.ref q13, .ref q15, .ref q17, .ref q19, .ref q20, .ref q22, .ref q24, .int 0])), (q13, .inl (cA14, 4, .inl (fun _ => 0))), (q15, .inl (cA16, 4, .inl (fun _ => 0))), (q17, .inl (cA18, 4096, .inl (fun _ => 0))), (q20, .inl (cA21, 4, .inl (fun _ => 0))), (q22, .inl (cA23, 64, .inl (fun _ => 0))), (q24, .inl (cA25, 512, .inl (fun _ => 0))), (q26, .inr (3, [.ref q12, .ref q27, .ref q29, .int 0, .int 0])), (q27, .inl (cA28, 400, .inl (fun _ => 0))), (q31, .inr (5, [.ref q1, .ref q12, .ref q30, .ref q32, .ref q33, .ref q34, .ref q35, .ref q36, .ref q37, .int 0, .int 0, .int 0, .int 0, .int (-1)])), (q38, .inr (8, [.ref q1, .ref q30, .ref q26, .ref q39, .ref q40, .ref q41, .int 0, .int 0, .long 0, .int 0, .int 0, .int 0]))] := hD
  refine lv_aload_n hx hb d_FG_init_98 rfl (lv_at hl 0 rfl) ?_
  refine lv_iconst (v := 0) hx hb d_FG_init_99 (by decide) ?_
  refine va_put (D := (dC, dI)) (ci := 0) (v := .int 0) (ty := .boolean) (C := R_FG) (T := F_FG) (N := 7) hx hb hts i_FG t_FG t_FG_ok n_FG hown hK hP hD hS 0 rfl rfl 6 (by decide) (hts _ mw_329) (fun _ h9 => h9) rfl (by decide +kernel) rfl rfl (Nat.le_of_ble_eq_true rfl) d_FG_init_100 (fun H locs hP hD hS => ?_)
  have hP : va_P (dC, dI) classes [(h0, .inr (0, [.ref q1, .ref q12, .ref q26, .ref q30, .ref q31, .ref q38, .int 0])), (q1, .inr (1, [.ref q2, .ref q4, .ref q6, .ref q8, .ref q10, .int 0])), (q2, .inl (cA3, 200, .inl (fun _ => 0))), (q4, .inl (cA5, 200, .inl (fun _ => 0))), (q6, .inl (cA7, 200, .inl (fun _ => 0))), (q8, .inl (cA9, 200, .inl (fun _ => 0))), (q10, .inl (cA11, 200, .inl (fun _ => 0))), (q12, .inr (2, [.ref q13, .ref q15, .ref q17, .ref q19, .ref q20, .ref q22, .ref q24, .int 0])), (q13, .inl (cA14, 4, .inl (fun _ => 0))), (q15, .inl (cA16, 4, .inl (fun _ => 0))), (q17, .inl (cA18, 4096, .inl (fun _ => 0))), (q20, .inl (cA21, 4, .inl (fun _ => 0))), (q22, .inl (cA23, 64, .inl (fun _ => 0))), (q24, .inl (cA25, 512, .inl (fun _ => 0))), (q26, .inr (3, [.ref q12, .ref q27, .ref q29, .int 0, .int 0])), (q27, .inl (cA28, 400, .inl (fun _ => 0))), (q31, .inr (5, [.ref q1, .ref q12, .ref q30, .ref q32, .ref q33, .ref q34, .ref q35, .ref q36, .ref q37, .int 0, .int 0, .int 0, .int 0, .int (-1)])), (q38, .inr (8, [.ref q1, .ref q30, .ref q26, .ref q39, .ref q40, .ref q41, .int 0, .int 0, .long 0, .int 0, .int 0, .int 0]))] H := hP
  have hD : va_D A [(h0, .inr (0, [.ref q1, .ref q12, .ref q26, .ref q30, .ref q31, .ref q38, .int 0])), (q1, .inr (1, [.ref q2, .ref q4, .ref q6, .ref q8, .ref q10, .int 0])), (q2, .inl (cA3, 200, .inl (fun _ => 0))), (q4, .inl (cA5, 200, .inl (fun _ => 0))), (q6, .inl (cA7, 200, .inl (fun _ => 0))), (q8, .inl (cA9, 200, .inl (fun _ => 0))), (q10, .inl (cA11, 200, .inl (fun _ => 0))), (q12, .inr (2, [.ref q13, .ref q15, .ref q17, .ref q19, .ref q20, .ref q22, .ref q24, .int 0])), (q13, .inl (cA14, 4, .inl (fun _ => 0))), (q15, .inl (cA16, 4, .inl (fun _ => 0))), (q17, .inl (cA18, 4096, .inl (fun _ => 0))), (q20, .inl (cA21, 4, .inl (fun _ => 0))), (q22, .inl (cA23, 64, .inl (fun _ => 0))), (q24, .inl (cA25, 512, .inl (fun _ => 0))), (q26, .inr (3, [.ref q12, .ref q27, .ref q29, .int 0, .int 0])), (q27, .inl (cA28, 400, .inl (fun _ => 0))), (q31, .inr (5, [.ref q1, .ref q12, .ref q30, .ref q32, .ref q33, .ref q34, .ref q35, .ref q36, .ref q37, .int 0, .int 0, .int 0, .int 0, .int (-1)])), (q38, .inr (8, [.ref q1, .ref q30, .ref q26, .ref q39, .ref q40, .ref q41, .int 0, .int 0, .long 0, .int 0, .int 0, .int 0]))] := hD
  have hP9 := hP.sub (ws' := [(h0, .inr (0, [.ref q1, .ref q12, .ref q26, .ref q30, .ref q31, .ref q38, .int 0])), (q1, .inr (1, [.ref q2, .ref q4, .ref q6, .ref q8, .ref q10, .int 0])), (q2, .inl (cA3, 200, .inl (fun _ => 0))), (q4, .inl (cA5, 200, .inl (fun _ => 0))), (q6, .inl (cA7, 200, .inl (fun _ => 0))), (q8, .inl (cA9, 200, .inl (fun _ => 0))), (q10, .inl (cA11, 200, .inl (fun _ => 0))), (q12, .inr (2, [.ref q13, .ref q15, .ref q17, .ref q19, .ref q20, .ref q22, .ref q24, .int 0])), (q13, .inl (cA14, 4, .inl (fun _ => 0))), (q15, .inl (cA16, 4, .inl (fun _ => 0))), (q17, .inl (cA18, 4096, .inl (fun _ => 0))), (q20, .inl (cA21, 4, .inl (fun _ => 0))), (q22, .inl (cA23, 64, .inl (fun _ => 0))), (q24, .inl (cA25, 512, .inl (fun _ => 0))), (q26, .inr (3, [.ref q12, .ref q27, .ref q29, .int 0, .int 0])), (q27, .inl (cA28, 400, .inl (fun _ => 0))), (q31, .inr (5, [.ref q1, .ref q12, .ref q30, .ref q32, .ref q33, .ref q34, .ref q35, .ref q36, .ref q37, .int 0, .int 0, .int 0, .int 0, .int (-1)])), (q38, .inr (8, [.ref q1, .ref q30, .ref q26, .ref q39, .ref q40, .ref q41, .int 0, .int 0, .long 0, .int 0, .int 0, .int 0]))]) [0, 1, 2, 3, 4, 5, 6, 7, 8, 9, 10, 11, 12, 13, 14, 15, 16, 17] rfl
  have hD9 := hD.sub (ws' := [(h0, .inr (0, [.ref q1, .ref q12, .ref q26, .ref q30, .ref q31, .ref q38, .int 0])), (q1, .inr (1, [.ref q2, .ref q4, .ref q6, .ref q8, .ref q10, .int 0])), (q2, .inl (cA3, 200, .inl (fun _ => 0))), (q4, .inl (cA5, 200, .inl (fun _ => 0))), (q6, .inl (cA7, 200, .inl (fun _ => 0))), (q8, .inl (cA9, 200, .inl (fun _ => 0))), (q10, .inl (cA11, 200, .inl (fun _ => 0))), (q12, .inr (2, [.ref q13, .ref q15, .ref q17, .ref q19, .ref q20, .ref q22, .ref q24, .int 0])), (q13, .inl (cA14, 4, .inl (fun _ => 0))), (q15, .inl (cA16, 4, .inl (fun _ => 0))), (q17, .inl (cA18, 4096, .inl (fun _ => 0))), (q20, .inl (cA21, 4, .inl (fun _ => 0))), (q22, .inl (cA23, 64, .inl (fun _ => 0))), (q24, .inl (cA25, 512, .inl (fun _ => 0))), (q26, .inr (3, [.ref q12, .ref q27, .ref q29, .int 0, .int 0])), (q27, .inl (cA28, 400, .inl (fun _ => 0))), (q31, .inr (5, [.ref q1, .ref q12, .ref q30, .ref q32, .ref q33, .ref q34, .ref q35, .ref q36, .ref q37, .int 0, .int 0, .int 0, .int 0, .int (-1)])), (q38, .inr (8, [.ref q1, .ref q30, .ref q26, .ref q39, .ref q40, .ref q41, .int 0, .int 0, .long 0, .int 0, .int 0, .int 0]))]) [0, 1, 2, 3, 4, 5, 6, 7, 8, 9, 10, 11, 12, 13, 14, 15, 16, 17] (by decide) rfl
  have hK9 := hK.sub (tys' := [(cA3, .int), (cA5, .int), (cA7, .int), (cA9, .int), (cA11, .int), (cA14, .int), (cA16, .int), (cA18, .byte), (cA21, .int), (cA23, .boolean), (cA25, .byte), (cA28, .byte)]) [0, 1, 2, 3, 4, 5, 6, 7, 8, 9, 10, 11] rfl
  refine W.widen (k := 745) (n := 24563) (by omega) (by omega) ?_
  exact W.vret hx hb hr (fun t ht hW => ⟨⟨(), rfl, trivial, q1, q2, cA3, q4, cA5, q6, cA7, q8, cA9, q10, cA11, q12, q13, cA14, q15, cA16, q17, cA18, q19, q20, cA21, q22, cA23, q24, cA25, q26, q27, cA28, q29, q30, q31, q32, q33, q34, q35, q36, q37, q38, q39, q40, q41, by rw [ht]; exact hP9, va_K.moved hW.alike hK9, hD9⟩, hS.F ht⟩) hS.2.2 d_FG_init_103
end
section
set_option maxHeartbeats 4000000 in
set_option maxRecDepth 100000 in
theorem Mo_init (l : Launch) (dC : Nat → ClassId) (dI : Nat → Nat → Nat) (sz : Nat) (h0 : Nat) : Met l y_Mo_init (.code y_Mo_init prog_14_method_1_code 1 none :: zz_W) ({ frames := 1, cells := 30, slots := 29565, locals := 12 }) (va_Pc [.ref h0] (zz_B dC dI [(h0, .inr (9, [.int 0, .null, .null, .null, .null, .null, .int 0, .int 0, .null, .null, .null, .int 0, .int 0, .int 0, .int 0, .null, .null, .null, .null, .null, .null, .null, .null, .int 0, .int 0, .null, .null, .null, .null, .long 0, .long 0, .int 0, .long 0, .long 0, .long 0, .long 0, .int 0, .int 0, .int 0, .int 0, .null, .int 0, .null, .null, .long 0, .null, .int 0, .int 0, .int 0, .null, .null, .null, .null, .null, .null, .int 0]))] [] sz)) (va_Qv (fun (_ : Unit) => True) (fun (_ : Unit) (t : State) => ∃ (q1 : Nat) (cA2 : ClassId) (q3 : Nat) (cA4 : ClassId) (q5 : Nat) (cA6 : ClassId) (q7 : Nat) (cA8 : ClassId) (q9 : Nat) (cA10 : ClassId) (q11 : Nat) (cA12 : ClassId) (q13 : Nat) (cA14 : ClassId) (q15 : Nat) (cA16 : ClassId) (q17 : Nat) (q19 : Nat) (q21 : Nat) (q23 : Nat) (q25 : Nat) (q27 : Nat) (q29 : Nat) (q31 : Nat) (q33 : Nat) (q35 : Nat) (q37 : Nat) (q39 : Nat) (q41 : Nat) (cA42 : ClassId) (q43 : Nat) (cA44 : ClassId) (q45 : Nat) (cA46 : ClassId) (q47 : Nat) (q49 : Nat) (q51 : Nat) (q53 : Nat) (q55 : Nat) (q57 : Nat) (q59 : Nat), va_P (dC, dI) classes [(h0, .inr (9, [.int 0, .ref q1, .ref q3, .ref q5, .ref q7, .ref q9, .int 0, .int 0, .ref q11, .ref q13, .ref q15, .int 0, .int 0, .int (-1), .int 0, .ref q17, .ref q19, .ref q21, .ref q23, .ref q25, .ref q27, .ref q29, .ref q31, .int 0, .int 0, .ref q33, .ref q35, .ref q37, .ref q39, .long 0, .long 0, .int 0, .long 0, .long 0, .long 0, .long 0, .int 0, .int 0, .int 0, .int 0, .ref q41, .int 0, .ref q43, .ref q45, .long 0, .ref q47, .int 0, .int 0, .int 0, .ref q49, .ref q51, .ref q53, .ref q55, .ref q57, .ref q59, .int 0])), (q1, .inl (cA2, 200, .inl (fun _ => 0))), (q3, .inl (cA4, 200, .inl (fun _ => 0))), (q5, .inl (cA6, 200, .inl (fun _ => 0))), (q7, .inl (cA8, 200, .inl (fun _ => 0))), (q9, .inl (cA10, 200, .inl (fun _ => 0))), (q11, .inl (cA12, 4, .inl (fun _ => 0))), (q13, .inl (cA14, 4, .inl (fun _ => 0))), (q15, .inl (cA16, 4, .inl (fun _ => 0))), (q41, .inl (cA42, 400, .inl (fun _ => 0))), (q43, .inl (cA44, 4608, .inl (fun _ => 0))), (q45, .inl (cA46, 64, .inl (fun _ => 0)))] t.heap ∧ va_K (dC, dI) classes [(cA2, .int), (cA4, .int), (cA6, .int), (cA8, .int), (cA10, .int), (cA12, .int), (cA14, .int), (cA16, .int), (cA42, .byte), (cA44, .byte), (cA46, .boolean)] t ∧ va_D (va_A [(h0, .inr (9, [.int 0, .null, .null, .null, .null, .null, .int 0, .int 0, .null, .null, .null, .int 0, .int 0, .int 0, .int 0, .null, .null, .null, .null, .null, .null, .null, .null, .int 0, .int 0, .null, .null, .null, .null, .long 0, .long 0, .int 0, .long 0, .long 0, .long 0, .long 0, .int 0, .int 0, .int 0, .int 0, .null, .int 0, .null, .null, .long 0, .null, .int 0, .int 0, .int 0, .null, .null, .null, .null, .null, .null, .int 0]))] sz) [(h0, .inr (9, [.int 0, .ref q1, .ref q3, .ref q5, .ref q7, .ref q9, .int 0, .int 0, .ref q11, .ref q13, .ref q15, .int 0, .int 0, .int (-1), .int 0, .ref q17, .ref q19, .ref q21, .ref q23, .ref q25, .ref q27, .ref q29, .ref q31, .int 0, .int 0, .ref q33, .ref q35, .ref q37, .ref q39, .long 0, .long 0, .int 0, .long 0, .long 0, .long 0, .long 0, .int 0, .int 0, .int 0, .int 0, .ref q41, .int 0, .ref q43, .ref q45, .long 0, .ref q47, .int 0, .int 0, .int 0, .ref q49, .ref q51, .ref q53, .ref q55, .ref q57, .ref q59, .int 0])), (q1, .inl (cA2, 200, .inl (fun _ => 0))), (q3, .inl (cA4, 200, .inl (fun _ => 0))), (q5, .inl (cA6, 200, .inl (fun _ => 0))), (q7, .inl (cA8, 200, .inl (fun _ => 0))), (q9, .inl (cA10, 200, .inl (fun _ => 0))), (q11, .inl (cA12, 4, .inl (fun _ => 0))), (q13, .inl (cA14, 4, .inl (fun _ => 0))), (q15, .inl (cA16, 4, .inl (fun _ => 0))), (q41, .inl (cA42, 400, .inl (fun _ => 0))), (q43, .inl (cA44, 4608, .inl (fun _ => 0))), (q45, .inl (cA46, 64, .inl (fun _ => 0)))]) (va_A [(h0, .inr (9, [.int 0, .null, .null, .null, .null, .null, .int 0, .int 0, .null, .null, .null, .int 0, .int 0, .int 0, .int 0, .null, .null, .null, .null, .null, .null, .null, .null, .int 0, .int 0, .null, .null, .null, .null, .long 0, .long 0, .int 0, .long 0, .long 0, .long 0, .long 0, .int 0, .int 0, .int 0, .int 0, .null, .int 0, .null, .null, .long 0, .null, .int 0, .int 0, .int 0, .null, .null, .null, .null, .null, .null, .int 0]))] sz)) 30 29565 (va_A [(h0, .inr (9, [.int 0, .null, .null, .null, .null, .null, .int 0, .int 0, .null, .null, .null, .int 0, .int 0, .int 0, .int 0, .null, .null, .null, .null, .null, .null, .null, .null, .int 0, .int 0, .null, .null, .null, .null, .long 0, .long 0, .int 0, .long 0, .long 0, .long 0, .long 0, .int 0, .int 0, .int 0, .int 0, .null, .int 0, .null, .null, .long 0, .null, .int 0, .int 0, .int 0, .null, .null, .null, .null, .null, .null, .int 0]))] sz) := by
  refine Met.ofW (cc := prog_14_method_1_code) (maxL := 1) (ret := none) (by decide) rfl ?_
  intro p e s m args below meth c s₁ B hml hv
  obtain ⟨rfl, hsz, hP, hK, hD0, hT⟩ := hv
  have hx := B.exec
  have hb := B.bytes
  have hr := B.returns
  have hts0 := atoms_spec (ws := (.code y_Mo_init prog_14_method_1_code 1 none :: zz_W)) B.pre
  have hts : ∀ w ∈ zz_W, w.before _ s = true := fun w h => hts0 w (List.mem_cons_of_mem _ h)
  have hown : s.vm.findClass R_Mo = some m.cls := findClass_of_methodNamed B.named
  have hlocks := B.notSynchronized
  have hin : meth.name = "<init>" := (name_of_methodNamed B.named B.method).1
  subst hsz
  have hD := hD0.self (sz := s.heap.size)
  generalize hAe : va_A [(h0, .inr (9, [.int 0, .null, .null, .null, .null, .null, .int 0, .int 0, .null, .null, .null, .int 0, .int 0, .int 0, .int 0, .null, .null, .null, .null, .null, .null, .null, .null, .int 0, .int 0, .null, .null, .null, .null, .long 0, .long 0, .int 0, .long 0, .long 0, .long 0, .long 0, .int 0, .int 0, .int 0, .int 0, .null, .int 0, .null, .null, .long 0, .null, .int 0, .int 0, .int 0, .null, .null, .null, .null, .null, .null, .int 0]))] s.heap.size = A at hD ⊢
  have hA : ∀ q : Nat, s.heap.size ≤ q → A q := fun q h => by rw [← hAe]; exact Or.inr h
  have hS : va_S A s.heap s.heap [] := va_S.rf
  have hl := lv_entry ([.ref h0]) (n := 1) (Nat.le_of_ble_eq_true rfl)
  rw [lg_entry_eq]
  generalize (lg_sl ([.ref h0]) ++ List.replicate (1 - (lg_sl ([.ref h0])).length) Slot.unset).toArray = ls at hl ⊢
  have hl : lv_has ls 1 [(0, .ref h0)] := hl
  refine lv_aload_n hx hb d_Mo_init_0 rfl (lv_at hl 0 rfl) ?_
  refine W.objInit hx hb hown (hts _ mw_1096) (hts _ mw_33) (hts _ mw_oinit) rfl (by rw [hml]; exact hl.1) rfl d_Mo_init_1 (Nat.le_of_ble_eq_true rfl) (Nat.le_of_ble_eq_true rfl) ?_
  refine W.eq (g2 := F0 m 4 ls []) rfl ?_
  refine lv_aload_n hx hb d_Mo_init_4 rfl (lv_at hl 0 rfl) ?_
  refine lv_sipush (v := 200) hx hb d_Mo_init_5 (by decide) ?_
  refine va_newa (atype := .int) (a0 := (200, .inl (fun _ => 0))) (ty := .int) hx hb (hts _ mw_73) rfl hK hP hD hS hA (fun _ => rfl) (by decide) (by decide) (by decide) (Nat.le_of_ble_eq_true rfl) (Nat.le_of_ble_eq_true rfl) d_Mo_init_8 (fun q1 cA2 H hK hP hD hS => ?_)
  have hP : va_P (dC, dI) classes [(h0, .inr (9, [.int 0, .null, .null, .null, .null, .null, .int 0, .int 0, .null, .null, .null, .int 0, .int 0, .int 0, .int 0, .null, .null, .null, .null, .null, .null, .null, .null, .int 0, .int 0, .null, .null, .null, .null, .long 0, .long 0, .int 0, .long 0, .long 0, .long 0, .long 0, .int 0, .int 0, .int 0, .int 0, .null, .int 0, .null, .null, .long 0, .null, .int 0, .int 0, .int 0, .null, .null, .null, .null, .null, .null, .int 0])), (q1, .inl (cA2, 200, .inl (fun _ => 0)))] H := hP
  have hD : va_D A [(h0, .inr (9, [.int 0, .null, .null, .null, .null, .null, .int 0, .int 0, .null, .null, .null, .int 0, .int 0, .int 0, .int 0, .null, .null, .null, .null, .null, .null, .null, .null, .int 0, .int 0, .null, .null, .null, .null, .long 0, .long 0, .int 0, .long 0, .long 0, .long 0, .long 0, .int 0, .int 0, .int 0, .int 0, .null, .int 0, .null, .null, .long 0, .null, .int 0, .int 0, .int 0, .null, .null, .null, .null, .null, .null, .int 0])), (q1, .inl (cA2, 200, .inl (fun _ => 0)))] := hD
  have hK : va_K (dC, dI) classes [(cA2, .int)] s := hK
  refine W.widen (k := 1) (n := 200) (by omega) (by omega) ?_
  refine va_putF (D := (dC, dI)) (ci := 9) (v := .ref q1) (ty := (.array .int)) (C := R_Mo) (T := F_Mo) (N := 56) hx hb hts i_Mo t_Mo t_Mo_ok n_Mo hown hK hP hD hS 0 rfl rfl 1 (by decide) (hts _ mw_1098) (fun _ h9 => h9) rfl hin rfl (by decide +kernel) rfl rfl (Nat.le_of_ble_eq_true rfl) d_Mo_init_10 (fun H locs hP hD hS => ?_)
  have hP : va_P (dC, dI) classes [(h0, .inr (9, [.int 0, .ref q1, .null, .null, .null, .null, .int 0, .int 0, .null, .null, .null, .int 0, .int 0, .int 0, .int 0, .null, .null, .null, .null, .null, .null, .null, .null, .int 0, .int 0, .null, .null, .null, .null, .long 0, .long 0, .int 0, .long 0, .long 0, .long 0, .long 0, .int 0, .int 0, .int 0, .int 0, .null, .int 0, .null, .null, .long 0, .null, .int 0, .int 0, .int 0, .null, .null, .null, .null, .null, .null, .int 0])), (q1, .inl (cA2, 200, .inl (fun _ => 0)))] H := hP
  have hD : va_D A [(h0, .inr (9, [.int 0, .ref q1, .null, .null, .null, .null, .int 0, .int 0, .null, .null, .null, .int 0, .int 0, .int 0, .int 0, .null, .null, .null, .null, .null, .null, .null, .null, .int 0, .int 0, .null, .null, .null, .null, .long 0, .long 0, .int 0, .long 0, .long 0, .long 0, .long 0, .int 0, .int 0, .int 0, .int 0, .null, .int 0, .null, .null, .long 0, .null, .int 0, .int 0, .int 0, .null, .null, .null, .null, .null, .null, .int 0])), (q1, .inl (cA2, 200, .inl (fun _ => 0)))] := hD
  refine lv_aload_n hx hb d_Mo_init_13 rfl (lv_at hl 0 rfl) ?_
  refine lv_sipush (v := 200) hx hb d_Mo_init_14 (by decide) ?_
  refine va_newa (atype := .int) (a0 := (200, .inl (fun _ => 0))) (ty := .int) hx hb (hts _ mw_73) rfl hK hP hD hS hA (fun _ => rfl) (by decide) (by decide) (by decide) (Nat.le_of_ble_eq_true rfl) (Nat.le_of_ble_eq_true rfl) d_Mo_init_17 (fun q3 cA4 H hK hP hD hS => ?_)
  have hP : va_P (dC, dI) classes [(h0, .inr (9, [.int 0, .ref q1, .null, .null, .null, .null, .int 0, .int 0, .null, .null, .null, .int 0, .int 0, .int 0, .int 0, .null, .null, .null, .null, .null, .null, .null, .null, .int 0, .int 0, .null, .null, .null, .null, .long 0, .long 0, .int 0, .long 0, .long 0, .long 0, .long 0, .int 0, .int 0, .int 0, .int 0, .null, .int 0, .null, .null, .long 0, .null, .int 0, .int 0, .int 0, .null, .null, .null, .null, .null, .null, .int 0])), (q1, .inl (cA2, 200, .inl (fun _ => 0))), (q3, .inl (cA4, 200, .inl (fun _ => 0)))] H := hP
  have hD : va_D A [(h0, .inr (9, [.int 0, .ref q1, .null, .null, .null, .null, .int 0, .int 0, .null, .null, .null, .int 0, .int 0, .int 0, .int 0, .null, .null, .null, .null, .null, .null, .null, .null, .int 0, .int 0, .null, .null, .null, .null, .long 0, .long 0, .int 0, .long 0, .long 0, .long 0, .long 0, .int 0, .int 0, .int 0, .int 0, .null, .int 0, .null, .null, .long 0, .null, .int 0, .int 0, .int 0, .null, .null, .null, .null, .null, .null, .int 0])), (q1, .inl (cA2, 200, .inl (fun _ => 0))), (q3, .inl (cA4, 200, .inl (fun _ => 0)))] := hD
  have hK : va_K (dC, dI) classes [(cA2, .int), (cA4, .int)] s := hK
  refine W.widen (k := 2) (n := 400) (by omega) (by omega) ?_
  refine va_putF (D := (dC, dI)) (ci := 9) (v := .ref q3) (ty := (.array .int)) (C := R_Mo) (T := F_Mo) (N := 56) hx hb hts i_Mo t_Mo t_Mo_ok n_Mo hown hK hP hD hS 0 rfl rfl 2 (by decide) (hts _ mw_1099) (fun _ h9 => h9) rfl hin rfl (by decide +kernel) rfl rfl (Nat.le_of_ble_eq_true rfl) d_Mo_init_19 (fun H locs hP hD hS => ?_)
  have hP : va_P (dC, dI) classes [(h0, .inr (9, [.int 0, .ref q1, .ref q3, .null, .null, .null, .int 0, .int 0, .null, .null, .null, .int 0, .int 0, .int 0, .int 0, .null, .null, .null, .null, .null, .null, .null, .null, .int 0, .int 0, .null, .null, .null, .null, .long 0, .long 0, .int 0, .long 0, .long 0, .long 0, .long 0, .int 0, .int 0, .int 0, .int 0, .null, .int 0, .null, .null, .long 0, .null, .int 0, .int 0, .int 0, .null, .null, .null, .null, .null, .null, .int 0])), (q1, .inl (cA2, 200, .inl (fun _ => 0))), (q3, .inl (cA4, 200, .inl (fun _ => 0)))] H := hP
  have hD : va_D A [(h0, .inr (9, [.int 0, .ref q1, .ref q3, .null, .null, .null, .int 0, .int 0, .null, .null, .null, .int 0, .int 0, .int 0, .int 0, .null, .null, .null, .null, .null, .null, .null, .null, .int 0, .int 0, .null, .null, .null, .null, .long 0, .long 0, .int 0, .long 0, .long 0, .long 0, .long 0, .int 0, .int 0, .int 0, .int 0, .null, .int 0, .null, .null, .long 0, .null, .int 0, .int 0, .int 0, .null, .null, .null, .null, .null, .null, .int 0])), (q1, .inl (cA2, 200, .inl (fun _ => 0))), (q3, .inl (cA4, 200, .inl (fun _ => 0)))] := hD
  refine lv_aload_n hx hb d_Mo_init_22 rfl (lv_at hl 0 rfl) ?_
  refine lv_sipush (v := 200) hx hb d_Mo_init_23 (by decide) ?_
  refine va_newa (atype := .int) (a0 := (200, .inl (fun _ => 0))) (ty := .int) hx hb (hts _ mw_73) rfl hK hP hD hS hA (fun _ => rfl) (by decide) (by decide) (by decide) (Nat.le_of_ble_eq_true rfl) (Nat.le_of_ble_eq_true rfl) d_Mo_init_26 (fun q5 cA6 H hK hP hD hS => ?_)
  have hP : va_P (dC, dI) classes [(h0, .inr (9, [.int 0, .ref q1, .ref q3, .null, .null, .null, .int 0, .int 0, .null, .null, .null, .int 0, .int 0, .int 0, .int 0, .null, .null, .null, .null, .null, .null, .null, .null, .int 0, .int 0, .null, .null, .null, .null, .long 0, .long 0, .int 0, .long 0, .long 0, .long 0, .long 0, .int 0, .int 0, .int 0, .int 0, .null, .int 0, .null, .null, .long 0, .null, .int 0, .int 0, .int 0, .null, .null, .null, .null, .null, .null, .int 0])), (q1, .inl (cA2, 200, .inl (fun _ => 0))), (q3, .inl (cA4, 200, .inl (fun _ => 0))), (q5, .inl (cA6, 200, .inl (fun _ => 0)))] H := hP
  have hD : va_D A [(h0, .inr (9, [.int 0, .ref q1, .ref q3, .null, .null, .null, .int 0, .int 0, .null, .null, .null, .int 0, .int 0, .int 0, .int 0, .null, .null, .null, .null, .null, .null, .null, .null, .int 0, .int 0, .null, .null, .null, .null, .long 0, .long 0, .int 0, .long 0, .long 0, .long 0, .long 0, .int 0, .int 0, .int 0, .int 0, .null, .int 0, .null, .null, .long 0, .null, .int 0, .int 0, .int 0, .null, .null, .null, .null, .null, .null, .int 0])), (q1, .inl (cA2, 200, .inl (fun _ => 0))), (q3, .inl (cA4, 200, .inl (fun _ => 0))), (q5, .inl (cA6, 200, .inl (fun _ => 0)))] := hD
  have hK : va_K (dC, dI) classes [(cA2, .int), (cA4, .int), (cA6, .int)] s := hK
  refine W.widen (k := 3) (n := 600) (by omega) (by omega) ?_
  refine va_putF (D := (dC, dI)) (ci := 9) (v := .ref q5) (ty := (.array .int)) (C := R_Mo) (T := F_Mo) (N := 56) hx hb hts i_Mo t_Mo t_Mo_ok n_Mo hown hK hP hD hS 0 rfl rfl 3 (by decide) (hts _ mw_1100) (fun _ h9 => h9) rfl hin rfl (by decide +kernel) rfl rfl (Nat.le_of_ble_eq_true rfl) d_Mo_init_28 (fun H locs hP hD hS => ?_)
  have hP : va_P (dC, dI) classes [(h0, .inr (9, [.int 0, .ref q1, .ref q3, .ref q5, .null, .null, .int 0, .int 0, .null, .null, .null, .int 0, .int 0, .int 0, .int 0, .null, .null, .null, .null, .null, .null, .null, .null, .int 0, .int 0, .null, .null, .null, .null, .long 0, .long 0, .int 0, .long 0, .long 0, .long 0, .long 0, .int 0, .int 0, .int 0, .int 0, .null, .int 0, .null, .null, .long 0, .null, .int 0, .int 0, .int 0, .null, .null, .null, .null, .null, .null, .int 0])), (q1, .inl (cA2, 200, .inl (fun _ => 0))), (q3, .inl (cA4, 200, .inl (fun _ => 0))), (q5, .inl (cA6, 200, .inl (fun _ => 0)))] H := hP
  have hD : va_D A [(h0, .inr (9, [.int 0, .ref q1, .ref q3, .ref q5, .null, .null, .int 0, .int 0, .null, .null, .null, .int 0, .int 0, .int 0, .int 0, .null, .null, .null, .null, .null, .null, .null, .null, .int 0, .int 0, .null, .null, .null, .null, .long 0, .long 0, .int 0, .long 0, .long 0, .long 0, .long 0, .int 0, .int 0, .int 0, .int 0, .null, .int 0, .null, .null, .long 0, .null, .int 0, .int 0, .int 0, .null, .null, .null, .null, .null, .null, .int 0])), (q1, .inl (cA2, 200, .inl (fun _ => 0))), (q3, .inl (cA4, 200, .inl (fun _ => 0))), (q5, .inl (cA6, 200, .inl (fun _ => 0)))] := hD
  refine lv_aload_n hx hb d_Mo_init_31 rfl (lv_at hl 0 rfl) ?_
  refine lv_sipush (v := 200) hx hb d_Mo_init_32 (by decide) ?_
  refine va_newa (atype := .int) (a0 := (200, .inl (fun _ => 0))) (ty := .int) hx hb (hts _ mw_73) rfl hK hP hD hS hA (fun _ => rfl) (by decide) (by decide) (by decide) (Nat.le_of_ble_eq_true rfl) (Nat.le_of_ble_eq_true rfl) d_Mo_init_35 (fun q7 cA8 H hK hP hD hS => ?_)
  have hP : va_P (dC, dI) classes [(h0, .inr (9, [.int 0, .ref q1, .ref q3, .ref q5, .null, .null, .int 0, .int 0, .null, .null, .null, .int 0, .int 0, .int 0, .int 0, .null, .null, .null, .null, .null, .null, .null, .null, .int 0, .int 0, .null, .null, .null, .null, .long 0, .long 0, .int 0, .long 0, .long 0, .long 0, .long 0, .int 0, .int 0, .int 0, .int 0, .null, .int 0, .null, .null, .long 0, .null, .int 0, .int 0, .int 0, .null, .null, .null, .null, .null, .null, .int 0])), (q1, .inl (cA2, 200, .inl (fun _ => 0))), (q3, .inl (cA4, 200, .inl (fun _ => 0))), (q5, .inl (cA6, 200, .inl (fun _ => 0))), (q7, .inl (cA8, 200, .inl (fun _ => 0)))] H := hP
  have hD : va_D A [(h0, .inr (9, [.int 0, .ref q1, .ref q3, .ref q5, .null, .null, .int 0, .int 0, .null, .null, .null, .int 0, .int 0, .int 0, .int 0, .null, .null, .null, .null, .null, .null, .null, .null, .int 0, .int 0, .null, .null, .null, .null, .long 0, .long 0, .int 0, .long 0, .long 0, .long 0, .long 0, .int 0, .int 0, .int 0, .int 0, .null, .int 0, .null, .null, .long 0, .null, .int 0, .int 0, .int 0, .null, .null, .null, .null, .null, .null, .int 0])), (q1, .inl (cA2, 200, .inl (fun _ => 0))), (q3, .inl (cA4, 200, .inl (fun _ => 0))), (q5, .inl (cA6, 200, .inl (fun _ => 0))), (q7, .inl (cA8, 200, .inl (fun _ => 0)))] := hD
  have hK : va_K (dC, dI) classes [(cA2, .int), (cA4, .int), (cA6, .int), (cA8, .int)] s := hK
  refine W.widen (k := 4) (n := 800) (by omega) (by omega) ?_
  refine va_putF (D := (dC, dI)) (ci := 9) (v := .ref q7) (ty := (.array .int)) (C := R_Mo) (T := F_Mo) (N := 56) hx hb hts i_Mo t_Mo t_Mo_ok n_Mo hown hK hP hD hS 0 rfl rfl 4 (by decide) (hts _ mw_1101) (fun _ h9 => h9) rfl hin rfl (by decide +kernel) rfl rfl (Nat.le_of_ble_eq_true rfl) d_Mo_init_37 (fun H locs hP hD hS => ?_)
  have hP : va_P (dC, dI) classes [(h0, .inr (9, [.int 0, .ref q1, .ref q3, .ref q5, .ref q7, .null, .int 0, .int 0, .null, .null, .null, .int 0, .int 0, .int 0, .int 0, .null, .null, .null, .null, .null, .null, .null, .null, .int 0, .int 0, .null, .null, .null, .null, .long 0, .long 0, .int 0, .long 0, .long 0, .long 0, .long 0, .int 0, .int 0, .int 0, .int 0, .null, .int 0, .null, .null, .long 0, .null, .int 0, .int 0, .int 0, .null, .null, .null, .null, .null, .null, .int 0])), (q1, .inl (cA2, 200, .inl (fun _ => 0))), (q3, .inl (cA4, 200, .inl (fun _ => 0))), (q5, .inl (cA6, 200, .inl (fun _ => 0))), (q7, .inl (cA8, 200, .inl (fun _ => 0)))] H := hP
  have hD : va_D A [(h0, .inr (9, [.int 0, .ref q1, .ref q3, .ref q5, .ref q7, .null, .int 0, .int 0, .null, .null, .null, .int 0, .int 0, .int 0, .int 0, .null, .null, .null, .null, .null, .null, .null, .null, .int 0, .int 0, .null, .null, .null, .null, .long 0, .long 0, .int 0, .long 0, .long 0, .long 0, .long 0, .int 0, .int 0, .int 0, .int 0, .null, .int 0, .null, .null, .long 0, .null, .int 0, .int 0, .int 0, .null, .null, .null, .null, .null, .null, .int 0])), (q1, .inl (cA2, 200, .inl (fun _ => 0))), (q3, .inl (cA4, 200, .inl (fun _ => 0))), (q5, .inl (cA6, 200, .inl (fun _ => 0))), (q7, .inl (cA8, 200, .inl (fun _ => 0)))] := hD
  refine lv_aload_n hx hb d_Mo_init_40 rfl (lv_at hl 0 rfl) ?_
  refine lv_sipush (v := 200) hx hb d_Mo_init_41 (by decide) ?_
  refine va_newa (atype := .int) (a0 := (200, .inl (fun _ => 0))) (ty := .int) hx hb (hts _ mw_73) rfl hK hP hD hS hA (fun _ => rfl) (by decide) (by decide) (by decide) (Nat.le_of_ble_eq_true rfl) (Nat.le_of_ble_eq_true rfl) d_Mo_init_44 (fun q9 cA10 H hK hP hD hS => ?_)
  have hP : va_P (dC, dI) classes [(h0, .inr (9, [.int 0, .ref q1, .ref q3, .ref q5, .ref q7, .null, .int 0, .int 0, .null, .null, .null, .int 0, .int 0, .int 0, .int 0, .null, .null, .null, .null, .null, .null, .null, .null, .int 0, .int 0, .null, .null, .null, .null, .long 0, .long 0, .int 0, .long 0, .long 0, .long 0, .long 0, .int 0, .int 0, .int 0, .int 0, .null, .int 0, .null, .null, .long 0, .null, .int 0, .int 0, .int 0, .null, .null, .null, .null, .null, .null, .int 0])), (q1, .inl (cA2, 200, .inl (fun _ => 0))), (q3, .inl (cA4, 200, .inl (fun _ => 0))), (q5, .inl (cA6, 200, .inl (fun _ => 0))), (q7, .inl (cA8, 200, .inl (fun _ => 0))), (q9, .inl (cA10, 200, .inl (fun _ => 0)))] H := hP
  have hD : va_D A [(h0, .inr (9, [.int 0, .ref q1, .ref q3, .ref q5, .ref q7, .null, .int 0, .int 0, .null, .null, .null, .int 0, .int 0, .int 0, .int 0, .null, .null, .null, .null, .null, .null, .null, .null, .int 0, .int 0, .null, .null, .null, .null, .long 0, .long 0, .int 0, .long 0, .long 0, .long 0, .long 0, .int 0, .int 0, .int 0, .int 0, .null, .int 0, .null, .null, .long 0, .null, .int 0, .int 0, .int 0, .null, .null, .null, .null, .null, .null, .int 0])), (q1, .inl (cA2, 200, .inl (fun _ => 0))), (q3, .inl (cA4, 200, .inl (fun _ => 0))), (q5, .inl (cA6, 200, .inl (fun _ => 0))), (q7, .inl (cA8, 200, .inl (fun _ => 0))), (q9, .inl (cA10, 200, .inl (fun _ => 0)))] := hD
  have hK : va_K (dC, dI) classes [(cA2, .int), (cA4, .int), (cA6, .int), (cA8, .int), (cA10, .int)] s := hK
  refine W.widen (k := 5) (n := 1000) (by omega) (by omega) ?_
  refine va_putF (D := (dC, dI)) (ci := 9) (v := .ref q9) (ty := (.array .int)) (C := R_Mo) (T := F_Mo) (N := 56) hx hb hts i_Mo t_Mo t_Mo_ok n_Mo hown hK hP hD hS 0 rfl rfl 5 (by decide) (hts _ mw_1102) (fun _ h9 => h9) rfl hin rfl (by decide +kernel) rfl rfl (Nat.le_of_ble_eq_true rfl) d_Mo_init_46 (fun H locs hP hD hS => ?_)
  have hP : va_P (dC, dI) classes [(h0, .inr (9, [.int 0, .ref q1, .ref q3, .ref q5, .ref q7, .ref q9, .int 0, .int 0, .null, .null, .null, .int 0, .int 0, .int 0, .int 0, .null, .null, .null, .null, .null, .null, .null, .null, .int 0, .int 0, .null, .null, .null, .null, .long 0, .long 0, .int 0, .long 0, .long 0, .long 0, .long 0, .int 0, .int 0, .int 0, .int 0, .null, .int 0, .null, .null, .long 0, .null, .int 0, .int 0, .int 0, .null, .null, .null, .null, .null, .null, .int 0])), (q1, .inl (cA2, 200, .inl (fun _ => 0))), (q3, .inl (cA4, 200, .inl (fun _ => 0))), (q5, .inl (cA6, 200, .inl (fun _ => 0))), (q7, .inl (cA8, 200, .inl (fun _ => 0))), (q9, .inl (cA10, 200, .inl (fun _ => 0)))] H := hP
  have hD : va_D A [(h0, .inr (9, [.int 0, .ref q1, .ref q3, .ref q5, .ref q7, .ref q9, .int 0, .int 0, .null, .null, .null, .int 0, .int 0, .int 0, .int 0, .null, .null, .null, .null, .null, .null, .null, .null, .int 0, .int 0, .null, .null, .null, .null, .long 0, .long 0, .int 0, .long 0, .long 0, .long 0, .long 0, .int 0, .int 0, .int 0, .int 0, .null, .int 0, .null, .null, .long 0, .null, .int 0, .int 0, .int 0, .null, .null, .null, .null, .null, .null, .int 0])), (q1, .inl (cA2, 200, .inl (fun _ => 0))), (q3, .inl (cA4, 200, .inl (fun _ => 0))), (q5, .inl (cA6, 200, .inl (fun _ => 0))), (q7, .inl (cA8, 200, .inl (fun _ => 0))), (q9, .inl (cA10, 200, .inl (fun _ => 0)))] := hD
  refine lv_aload_n hx hb d_Mo_init_49 rfl (lv_at hl 0 rfl) ?_
  refine lv_iconst (v := 4) hx hb d_Mo_init_50 (by decide) ?_
  refine va_newa (atype := .int) (a0 := (4, .inl (fun _ => 0))) (ty := .int) hx hb (hts _ mw_73) rfl hK hP hD hS hA (fun _ => rfl) (by decide) (by decide) (by decide) (Nat.le_of_ble_eq_true rfl) (Nat.le_of_ble_eq_true rfl) d_Mo_init_51 (fun q11 cA12 H hK hP hD hS => ?_)
  have hP : va_P (dC, dI) classes [(h0, .inr (9, [.int 0, .ref q1, .ref q3, .ref q5, .ref q7, .ref q9, .int 0, .int 0, .null, .null, .null, .int 0, .int 0, .int 0, .int 0, .null, .null, .null, .null, .null, .null, .null, .null, .int 0, .int 0, .null, .null, .null, .null, .long 0, .long 0, .int 0, .long 0, .long 0, .long 0, .long 0, .int 0, .int 0, .int 0, .int 0, .null, .int 0, .null, .null, .long 0, .null, .int 0, .int 0, .int 0, .null, .null, .null, .null, .null, .null, .int 0])), (q1, .inl (cA2, 200, .inl (fun _ => 0))), (q3, .inl (cA4, 200, .inl (fun _ => 0))), (q5, .inl (cA6, 200, .inl (fun _ => 0))), (q7, .inl (cA8, 200, .inl (fun _ => 0))), (q9, .inl (cA10, 200, .inl (fun _ => 0))), (q11, .inl (cA12, 4, .inl (fun _ => 0)))] H := hP
  have hD : va_D A [(h0, .inr (9, [.int 0, .ref q1, .ref q3, .ref q5, .ref q7, .ref q9, .int 0, .int 0, .null, .null, .null, .int 0, .int 0, .int 0, .int 0, .null, .null, .null, .null, .null, .null, .null, .null, .int 0, .int 0, .null, .null, .null, .null, .long 0, .long 0, .int 0, .long 0, .long 0, .long 0, .long 0, .int 0, .int 0, .int 0, .int 0, .null, .int 0, .null, .null, .long 0, .null, .int 0, .int 0, .int 0, .null, .null, .null, .null, .null, .null, .int 0])), (q1, .inl (cA2, 200, .inl (fun _ => 0))), (q3, .inl (cA4, 200, .inl (fun _ => 0))), (q5, .inl (cA6, 200, .inl (fun _ => 0))), (q7, .inl (cA8, 200, .inl (fun _ => 0))), (q9, .inl (cA10, 200, .inl (fun _ => 0))), (q11, .inl (cA12, 4, .inl (fun _ => 0)))] := hD
  have hK : va_K (dC, dI) classes [(cA2, .int), (cA4, .int), (cA6, .int), (cA8, .int), (cA10, .int), (cA12, .int)] s := hK
  refine W.widen (k := 6) (n := 1004) (by omega) (by omega) ?_
  refine va_putF (D := (dC, dI)) (ci := 9) (v := .ref q11) (ty := (.array .int)) (C := R_Mo) (T := F_Mo) (N := 56) hx hb hts i_Mo t_Mo t_Mo_ok n_Mo hown hK hP hD hS 0 rfl rfl 8 (by decide) (hts _ mw_1105) (fun _ h9 => h9) rfl hin rfl (by decide +kernel) rfl rfl (Nat.le_of_ble_eq_true rfl) d_Mo_init_53 (fun H locs hP hD hS => ?_)
  have hP : va_P (dC, dI) classes [(h0, .inr (9, [.int 0, .ref q1, .ref q3, .ref q5, .ref q7, .ref q9, .int 0, .int 0, .ref q11, .null, .null, .int 0, .int 0, .int 0, .int 0, .null, .null, .null, .null, .null, .null, .null, .null, .int 0, .int 0, .null, .null, .null, .null, .long 0, .long 0, .int 0, .long 0, .long 0, .long 0, .long 0, .int 0, .int 0, .int 0, .int 0, .null, .int 0, .null, .null, .long 0, .null, .int 0, .int 0, .int 0, .null, .null, .null, .null, .null, .null, .int 0])), (q1, .inl (cA2, 200, .inl (fun _ => 0))), (q3, .inl (cA4, 200, .inl (fun _ => 0))), (q5, .inl (cA6, 200, .inl (fun _ => 0))), (q7, .inl (cA8, 200, .inl (fun _ => 0))), (q9, .inl (cA10, 200, .inl (fun _ => 0))), (q11, .inl (cA12, 4, .inl (fun _ => 0)))] H := hP
  have hD : va_D A [(h0, .inr (9, [.int 0, .ref q1, .ref q3, .ref q5, .ref q7, .ref q9, .int 0, .int 0, .ref q11, .null, .null, .int 0, .int 0, .int 0, .int 0, .null, .null, .null, .null, .null, .null, .null, .null, .int 0, .int 0, .null, .null, .null, .null, .long 0, .long 0, .int 0, .long 0, .long 0, .long 0, .long 0, .int 0, .int 0, .int 0, .int 0, .null, .int 0, .null, .null, .long 0, .null, .int 0, .int 0, .int 0, .null, .null, .null, .null, .null, .null, .int 0])), (q1, .inl (cA2, 200, .inl (fun _ => 0))), (q3, .inl (cA4, 200, .inl (fun _ => 0))), (q5, .inl (cA6, 200, .inl (fun _ => 0))), (q7, .inl (cA8, 200, .inl (fun _ => 0))), (q9, .inl (cA10, 200, .inl (fun _ => 0))), (q11, .inl (cA12, 4, .inl (fun _ => 0)))] := hD
  refine lv_aload_n hx hb d_Mo_init_56 rfl (lv_at hl 0 rfl) ?_
  refine lv_iconst (v := 4) hx hb d_Mo_init_57 (by decide) ?_
  refine va_newa (atype := .int) (a0 := (4, .inl (fun _ => 0))) (ty := .int) hx hb (hts _ mw_73) rfl hK hP hD hS hA (fun _ => rfl) (by decide) (by decide) (by decide) (Nat.le_of_ble_eq_true rfl) (Nat.le_of_ble_eq_true rfl) d_Mo_init_58 (fun q13 cA14 H hK hP hD hS => ?_)
  have hP : va_P (dC, dI) classes [(h0, .inr (9, [.int 0, .ref q1, .ref q3, .ref q5, .ref q7, .ref q9, .int 0, .int 0, .ref q11, .null, .null, .int 0, .int 0, .int 0, .int 0, .null, .null, .null, .null, .null, .null, .null, .null, .int 0, .int 0, .null, .null, .null, .null, .long 0, .long 0, .int 0, .long 0, .long 0, .long 0, .long 0, .int 0, .int 0, .int 0, .int 0, .null, .int 0, .null, .null, .long 0, .null, .int 0, .int 0, .int 0, .null, .null, .null, .null, .null, .null, .int 0])), (q1, .inl (cA2, 200, .inl (fun _ => 0))), (q3, .inl (cA4, 200, .inl (fun _ => 0))), (q5, .inl (cA6, 200, .inl (fun _ => 0))), (q7, .inl (cA8, 200, .inl (fun _ => 0))), (q9, .inl (cA10, 200, .inl (fun _ => 0))), (q11, .inl (cA12, 4, .inl (fun _ => 0))), (q13, .inl (cA14, 4, .inl (fun _ => 0)))] H := hP
  have hD : va_D A [(h0, .inr (9, [.int 0, .ref q1, .ref q3, .ref q5, .ref q7, .ref q9, .int 0, .int 0, .ref q11, .null, .null, .int 0, .int 0, .int 0, .int 0, .null, .null, .null, .null, .null, .null, .null, .null, .int 0, .int 0, .null, .null, .null, .null, .long 0, .long 0, .int 0, .long 0, .long 0, .long 0, .long 0, .int 0, .int 0, .int 0, .int 0, .null, .int 0, .null, .null, .long 0, .null, .int 0, .int 0, .int 0, .null, .null, .null, .null, .null, .null, .int 0])), (q1, .inl (cA2, 200, .inl (fun _ => 0))), (q3, .inl (cA4, 200, .inl (fun _ => 0))), (q5, .inl (cA6, 200, .inl (fun _ => 0))), (q7, .inl (cA8, 200, .inl (fun _ => 0))), (q9, .inl (cA10, 200, .inl (fun _ => 0))), (q11, .inl (cA12, 4, .inl (fun _ => 0))), (q13, .inl (cA14, 4, .inl (fun _ => 0)))] := hD
  have hK : va_K (dC, dI) classes [(cA2, .int), (cA4, .int), (cA6, .int), (cA8, .int), (cA10, .int), (cA12, .int), (cA14, .int)] s := hK
  refine W.widen (k := 7) (n := 1008) (by omega) (by omega) ?_
  refine va_putF (D := (dC, dI)) (ci := 9) (v := .ref q13) (ty := (.array .int)) (C := R_Mo) (T := F_Mo) (N := 56) hx hb hts i_Mo t_Mo t_Mo_ok n_Mo hown hK hP hD hS 0 rfl rfl 9 (by decide) (hts _ mw_1106) (fun _ h9 => h9) rfl hin rfl (by decide +kernel) rfl rfl (Nat.le_of_ble_eq_true rfl) d_Mo_init_60 (fun H locs hP hD hS => ?_)
  have hP : va_P (dC, dI) classes [(h0, .inr (9, [.int 0, .ref q1, .ref q3, .ref q5, .ref q7, .ref q9, .int 0, .int 0, .ref q11, .ref q13, .null, .int 0, .int 0, .int 0, .int 0, .null, .null, .null, .null, .null, .null, .null, .null, .int 0, .int 0, .null, .null, .null, .null, .long 0, .long 0, .int 0, .long 0, .long 0, .long 0, .long 0, .int 0, .int 0, .int 0, .int 0, .null, .int 0, .null, .null, .long 0, .null, .int 0, .int 0, .int 0, .null, .null, .null, .null, .null, .null, .int 0])), (q1, .inl (cA2, 200, .inl (fun _ => 0))), (q3, .inl (cA4, 200, .inl (fun _ => 0))), (q5, .inl (cA6, 200, .inl (fun _ => 0))), (q7, .inl (cA8, 200, .inl (fun _ => 0))), (q9, .inl (cA10, 200, .inl (fun _ => 0))), (q11, .inl (cA12, 4, .inl (fun _ => 0))), (q13, .inl (cA14, 4, .inl (fun _ => 0)))] H := hP
  have hD : va_D A [(h0, .inr (9, [.int 0, .ref q1, .ref q3, .ref q5, .ref q7, .ref q9, .int 0, .int 0, .ref q11, .ref q13, .null, .int 0, .int 0, .int 0, .int 0, .null, .null, .null, .null, .null, .null, .null, .null, .int 0, .int 0, .null, .null, .null, .null, .long 0, .long 0, .int 0, .long 0, .long 0, .long 0, .long 0, .int 0, .int 0, .int 0, .int 0, .null, .int 0, .null, .null, .long 0, .null, .int 0, .int 0, .int 0, .null, .null, .null, .null, .null, .null, .int 0])), (q1, .inl (cA2, 200, .inl (fun _ => 0))), (q3, .inl (cA4, 200, .inl (fun _ => 0))), (q5, .inl (cA6, 200, .inl (fun _ => 0))), (q7, .inl (cA8, 200, .inl (fun _ => 0))), (q9, .inl (cA10, 200, .inl (fun _ => 0))), (q11, .inl (cA12, 4, .inl (fun _ => 0))), (q13, .inl (cA14, 4, .inl (fun _ => 0)))] := hD
  refine lv_aload_n hx hb d_Mo_init_63 rfl (lv_at hl 0 rfl) ?_
  refine lv_iconst (v := 4) hx hb d_Mo_init_64 (by decide) ?_
  refine va_newa (atype := .int) (a0 := (4, .inl (fun _ => 0))) (ty := .int) hx hb (hts _ mw_73) rfl hK hP hD hS hA (fun _ => rfl) (by decide) (by decide) (by decide) (Nat.le_of_ble_eq_true rfl) (Nat.le_of_ble_eq_true rfl) d_Mo_init_65 (fun q15 cA16 H hK hP hD hS => ?_)
  have hP : va_P (dC, dI) classes [(h0, .inr (9, [.int 0, .ref q1, .ref q3, .ref q5, .ref q7, .ref q9, .int 0, .int 0, .ref q11, .ref q13, .null, .int 0, .int 0, .int 0, .int 0, .null, .null, .null, .null, .null, .null, .null, .null, .int 0, .int 0, .null, .null, .null, .null, .long 0, .long 0, .int 0, .long 0, .long 0, .long 0, .long 0, .int 0, .int 0, .int 0, .int 0, .null, .int 0, .null, .null, .long 0, .null, .int 0, .int 0, .int 0, .null, .null, .null, .null, .null, .null, .int 0])), (q1, .inl (cA2, 200, .inl (fun _ => 0))), (q3, .inl (cA4, 200, .inl (fun _ => 0))), (q5, .inl (cA6, 200, .inl (fun _ => 0))), (q7, .inl (cA8, 200, .inl (fun _ => 0))), (q9, .inl (cA10, 200, .inl (fun _ => 0))), (q11, .inl (cA12, 4, .inl (fun _ => 0))), (q13, .inl (cA14, 4, .inl (fun _ => 0))), (q15, .inl (cA16, 4, .inl (fun _ => 0)))] H := hP
  have hD : va_D A [(h0, .inr (9, [.int 0, .ref q1, .ref q3, .ref q5, .ref q7, .ref q9, .int 0, .int 0, .ref q11, .ref q13, .null, .int 0, .int 0, .int 0, .int 0, .null, .null, .null, .null, .null, .null, .null, .null, .int 0, .int 0, .null, .null, .null, .null, .long 0, .long 0, .int 0, .long 0, .long 0, .long 0, .long 0, .int 0, .int 0, .int 0, .int 0, .null, .int 0, .null, .null, .long 0, .null, .int 0, .int 0, .int 0, .null, .null, .null, .null, .null, .null, .int 0])), (q1, .inl (cA2, 200, .inl (fun _ => 0))), (q3, .inl (cA4, 200, .inl (fun _ => 0))), (q5, .inl (cA6, 200, .inl (fun _ => 0))), (q7, .inl (cA8, 200, .inl (fun _ => 0))), (q9, .inl (cA10, 200, .inl (fun _ => 0))), (q11, .inl (cA12, 4, .inl (fun _ => 0))), (q13, .inl (cA14, 4, .inl (fun _ => 0))), (q15, .inl (cA16, 4, .inl (fun _ => 0)))] := hD
  have hK : va_K (dC, dI) classes [(cA2, .int), (cA4, .int), (cA6, .int), (cA8, .int), (cA10, .int), (cA12, .int), (cA14, .int), (cA16, .int)] s := hK
  refine W.widen (k := 8) (n := 1012) (by omega) (by omega) ?_
  refine va_putF (D := (dC, dI)) (ci := 9) (v := .ref q15) (ty := (.array .int)) (C := R_Mo) (T := F_Mo) (N := 56) hx hb hts i_Mo t_Mo t_Mo_ok n_Mo hown hK hP hD hS 0 rfl rfl 10 (by decide) (hts _ mw_1107) (fun _ h9 => h9) rfl hin rfl (by decide +kernel) rfl rfl (Nat.le_of_ble_eq_true rfl) d_Mo_init_67 (fun H locs hP hD hS => ?_)
  have hP : va_P (dC, dI) classes [(h0, .inr (9, [.int 0, .ref q1, .ref q3, .ref q5, .ref q7, .ref q9, .int 0, .int 0, .ref q11, .ref q13, .ref q15, .int 0, .int 0, .int 0, .int 0, .null, .null, .null, .null, .null, .null, .null, .null, .int 0, .int 0, .null, .null, .null, .null, .long 0, .long 0, .int 0, .long 0, .long 0, .long 0, .long 0, .int 0, .int 0, .int 0, .int 0, .null, .int 0, .null, .null, .long 0, .null, .int 0, .int 0, .int 0, .null, .null, .null, .null, .null, .null, .int 0])), (q1, .inl (cA2, 200, .inl (fun _ => 0))), (q3, .inl (cA4, 200, .inl (fun _ => 0))), (q5, .inl (cA6, 200, .inl (fun _ => 0))), (q7, .inl (cA8, 200, .inl (fun _ => 0))), (q9, .inl (cA10, 200, .inl (fun _ => 0))), (q11, .inl (cA12, 4, .inl (fun _ => 0))), (q13, .inl (cA14, 4, .inl (fun _ => 0))), (q15, .inl (cA16, 4, .inl (fun _ => 0)))] H := hP
  have hD : va_D A [(h0, .inr (9, [.int 0, .ref q1, .ref q3, .ref q5, .ref q7, .ref q9, .int 0, .int 0, .ref q11, .ref q13, .ref q15, .int 0, .int 0, .int 0, .int 0, .null, .null, .null, .null, .null, .null, .null, .null, .int 0, .int 0, .null, .null, .null, .null, .long 0, .long 0, .int 0, .long 0, .long 0, .long 0, .long 0, .int 0, .int 0, .int 0, .int 0, .null, .int 0, .null, .null, .long 0, .null, .int 0, .int 0, .int 0, .null, .null, .null, .null, .null, .null, .int 0])), (q1, .inl (cA2, 200, .inl (fun _ => 0))), (q3, .inl (cA4, 200, .inl (fun _ => 0))), (q5, .inl (cA6, 200, .inl (fun _ => 0))), (q7, .inl (cA8, 200, .inl (fun _ => 0))), (q9, .inl (cA10, 200, .inl (fun _ => 0))), (q11, .inl (cA12, 4, .inl (fun _ => 0))), (q13, .inl (cA14, 4, .inl (fun _ => 0))), (q15, .inl (cA16, 4, .inl (fun _ => 0)))] := hD
  refine lv_aload_n hx hb d_Mo_init_70 rfl (lv_at hl 0 rfl) ?_
  refine lv_iconst (v := (-1)) hx hb d_Mo_init_71 (by decide) ?_
  refine va_put (D := (dC, dI)) (ci := 9) (v := .int (-1)) (ty := .int) (C := R_Mo) (T := F_Mo) (N := 56) hx hb hts i_Mo t_Mo t_Mo_ok n_Mo hown hK hP hD hS 0 rfl rfl 13 (by decide) (hts _ mw_1110) (fun _ h9 => h9) rfl (by decide +kernel) rfl rfl (Nat.le_of_ble_eq_true rfl) d_Mo_init_72 (fun H locs hP hD hS => ?_)
  have hP : va_P (dC, dI) classes [(h0, .inr (9, [.int 0, .ref q1, .ref q3, .ref q5, .ref q7, .ref q9, .int 0, .int 0, .ref q11, .ref q13, .ref q15, .int 0, .int 0, .int (-1), .int 0, .null, .null, .null, .null, .null, .null, .null, .null, .int 0, .int 0, .null, .null, .null, .null, .long 0, .long 0, .int 0, .long 0, .long 0, .long 0, .long 0, .int 0, .int 0, .int 0, .int 0, .null, .int 0, .null, .null, .long 0, .null, .int 0, .int 0, .int 0, .null, .null, .null, .null, .null, .null, .int 0])), (q1, .inl (cA2, 200, .inl (fun _ => 0))), (q3, .inl (cA4, 200, .inl (fun _ => 0))), (q5, .inl (cA6, 200, .inl (fun _ => 0))), (q7, .inl (cA8, 200, .inl (fun _ => 0))), (q9, .inl (cA10, 200, .inl (fun _ => 0))), (q11, .inl (cA12, 4, .inl (fun _ => 0))), (q13, .inl (cA14, 4, .inl (fun _ => 0))), (q15, .inl (cA16, 4, .inl (fun _ => 0)))] H := hP
  have hD : va_D A [(h0, .inr (9, [.int 0, .ref q1, .ref q3, .ref q5, .ref q7, .ref q9, .int 0, .int 0, .ref q11, .ref q13, .ref q15, .int 0, .int 0, .int (-1), .int 0, .null, .null, .null, .null, .null, .null, .null, .null, .int 0, .int 0, .null, .null, .null, .null, .long 0, .long 0, .int 0, .long 0, .long 0, .long 0, .long 0, .int 0, .int 0, .int 0, .int 0, .null, .int 0, .null, .null, .long 0, .null, .int 0, .int 0, .int 0, .null, .null, .null, .null, .null, .null, .int 0])), (q1, .inl (cA2, 200, .inl (fun _ => 0))), (q3, .inl (cA4, 200, .inl (fun _ => 0))), (q5, .inl (cA6, 200, .inl (fun _ => 0))), (q7, .inl (cA8, 200, .inl (fun _ => 0))), (q9, .inl (cA10, 200, .inl (fun _ => 0))), (q11, .inl (cA12, 4, .inl (fun _ => 0))), (q13, .inl (cA14, 4, .inl (fun _ => 0))), (q15, .inl (cA16, 4, .inl (fun _ => 0)))] := hD
  refine lv_aload_n hx hb d_Mo_init_75 rfl (lv_at hl 0 rfl) ?_
  refine lv_sipush (v := 1938) hx hb d_Mo_init_76 (by decide) ?_
  refine va_newa (atype := .int) (a0 := (1938, .inl (fun _ => 0))) (ty := .int) hx hb (hts _ mw_73) rfl hK hP hD hS hA (fun _ => rfl) (by decide) (by decide) (by decide) (Nat.le_of_ble_eq_true rfl) (Nat.le_of_ble_eq_true rfl) d_Mo_init_79 (fun q17 cA18 H hK hP hD hS => ?_)
  have hP : va_P (dC, dI) classes [(h0, .inr (9, [.int 0, .ref q1, .ref q3, .ref q5, .ref q7, .ref q9, .int 0, .int 0, .ref q11, .ref q13, .ref q15, .int 0, .int 0, .int (-1), .int 0, .null, .null, .null, .null, .null, .null, .null, .null, .int 0, .int 0, .null, .null, .null, .null, .long 0, .long 0, .int 0, .long 0, .long 0, .long 0, .long 0, .int 0, .int 0, .int 0, .int 0, .null, .int 0, .null, .null, .long 0, .null, .int 0, .int 0, .int 0, .null, .null, .null, .null, .null, .null, .int 0])), (q1, .inl (cA2, 200, .inl (fun _ => 0))), (q3, .inl (cA4, 200, .inl (fun _ => 0))), (q5, .inl (cA6, 200, .inl (fun _ => 0))), (q7, .inl (cA8, 200, .inl (fun _ => 0))), (q9, .inl (cA10, 200, .inl (fun _ => 0))), (q11, .inl (cA12, 4, .inl (fun _ => 0))), (q13, .inl (cA14, 4, .inl (fun _ => 0))), (q15, .inl (cA16, 4, .inl (fun _ => 0))), (q17, .inl (cA18, 1938, .inl (fun _ => 0)))] H := hP
  have hD : va_D A [(h0, .inr (9, [.int 0, .ref q1, .ref q3, .ref q5, .ref q7, .ref q9, .int 0, .int 0, .ref q11, .ref q13, .ref q15, .int 0, .int 0, .int (-1), .int 0, .null, .null, .null, .null, .null, .null, .null, .null, .int 0, .int 0, .null, .null, .null, .null, .long 0, .long 0, .int 0, .long 0, .long 0, .long 0, .long 0, .int 0, .int 0, .int 0, .int 0, .null, .int 0, .null, .null, .long 0, .null, .int 0, .int 0, .int 0, .null, .null, .null, .null, .null, .null, .int 0])), (q1, .inl (cA2, 200, .inl (fun _ => 0))), (q3, .inl (cA4, 200, .inl (fun _ => 0))), (q5, .inl (cA6, 200, .inl (fun _ => 0))), (q7, .inl (cA8, 200, .inl (fun _ => 0))), (q9, .inl (cA10, 200, .inl (fun _ => 0))), (q11, .inl (cA12, 4, .inl (fun _ => 0))), (q13, .inl (cA14, 4, .inl (fun _ => 0))), (q15, .inl (cA16, 4, .inl (fun _ => 0))), (q17, .inl (cA18, 1938, .inl (fun _ => 0)))] := hD
  have hK : va_K (dC, dI) classes [(cA2, .int), (cA4, .int), (cA6, .int), (cA8, .int), (cA10, .int), (cA12, .int), (cA14, .int), (cA16, .int), (cA18, .int)] s := hK
  refine W.widen (k := 9) (n := 2950) (by omega) (by omega) ?_
  refine va_putF (D := (dC, dI)) (ci := 9) (v := .ref q17) (ty := (.array .int)) (C := R_Mo) (T := F_Mo) (N := 56) hx hb hts i_Mo t_Mo t_Mo_ok n_Mo hown hK hP hD hS 0 rfl rfl 15 (by decide) (hts _ mw_1112) (fun _ h9 => h9) rfl hin rfl (by decide +kernel) rfl rfl (Nat.le_of_ble_eq_true rfl) d_Mo_init_81 (fun H locs hP hD hS => ?_)
  have hP : va_P (dC, dI) classes [(h0, .inr (9, [.int 0, .ref q1, .ref q3, .ref q5, .ref q7, .ref q9, .int 0, .int 0, .ref q11, .ref q13, .ref q15, .int 0, .int 0, .int (-1), .int 0, .ref q17, .null, .null, .null, .null, .null, .null, .null, .int 0, .int 0, .null, .null, .null, .null, .long 0, .long 0, .int 0, .long 0, .long 0, .long 0, .long 0, .int 0, .int 0, .int 0, .int 0, .null, .int 0, .null, .null, .long 0, .null, .int 0, .int 0, .int 0, .null, .null, .null, .null, .null, .null, .int 0])), (q1, .inl (cA2, 200, .inl (fun _ => 0))), (q3, .inl (cA4, 200, .inl (fun _ => 0))), (q5, .inl (cA6, 200, .inl (fun _ => 0))), (q7, .inl (cA8, 200, .inl (fun _ => 0))), (q9, .inl (cA10, 200, .inl (fun _ => 0))), (q11, .inl (cA12, 4, .inl (fun _ => 0))), (q13, .inl (cA14, 4, .inl (fun _ => 0))), (q15, .inl (cA16, 4, .inl (fun _ => 0))), (q17, .inl (cA18, 1938, .inl (fun _ => 0)))] H := hP
  have hD : va_D A [(h0, .inr (9, [.int 0, .ref q1, .ref q3, .ref q5, .ref q7, .ref q9, .int 0, .int 0, .ref q11, .ref q13, .ref q15, .int 0, .int 0, .int (-1), .int 0, .ref q17, .null, .null, .null, .null, .null, .null, .null, .int 0, .int 0, .null, .null, .null, .null, .long 0, .long 0, .int 0, .long 0, .long 0, .long 0, .long 0, .int 0, .int 0, .int 0, .int 0, .null, .int 0, .null, .null, .long 0, .null, .int 0, .int 0, .int 0, .null, .null, .null, .null, .null, .null, .int 0])), (q1, .inl (cA2, 200, .inl (fun _ => 0))), (q3, .inl (cA4, 200, .inl (fun _ => 0))), (q5, .inl (cA6, 200, .inl (fun _ => 0))), (q7, .inl (cA8, 200, .inl (fun _ => 0))), (q9, .inl (cA10, 200, .inl (fun _ => 0))), (q11, .inl (cA12, 4, .inl (fun _ => 0))), (q13, .inl (cA14, 4, .inl (fun _ => 0))), (q15, .inl (cA16, 4, .inl (fun _ => 0))), (q17, .inl (cA18, 1938, .inl (fun _ => 0)))] := hD
  have hP := hP.sub (ws' := [(h0, .inr (9, [.int 0, .ref q1, .ref q3, .ref q5, .ref q7, .ref q9, .int 0, .int 0, .ref q11, .ref q13, .ref q15, .int 0, .int 0, .int (-1), .int 0, .ref q17, .null, .null, .null, .null, .null, .null, .null, .int 0, .int 0, .null, .null, .null, .null, .long 0, .long 0, .int 0, .long 0, .long 0, .long 0, .long 0, .int 0, .int 0, .int 0, .int 0, .null, .int 0, .null, .null, .long 0, .null, .int 0, .int 0, .int 0, .null, .null, .null, .null, .null, .null, .int 0])), (q1, .inl (cA2, 200, .inl (fun _ => 0))), (q3, .inl (cA4, 200, .inl (fun _ => 0))), (q5, .inl (cA6, 200, .inl (fun _ => 0))), (q7, .inl (cA8, 200, .inl (fun _ => 0))), (q9, .inl (cA10, 200, .inl (fun _ => 0))), (q11, .inl (cA12, 4, .inl (fun _ => 0))), (q13, .inl (cA14, 4, .inl (fun _ => 0))), (q15, .inl (cA16, 4, .inl (fun _ => 0)))]) [0, 1, 2, 3, 4, 5, 6, 7, 8] rfl
  have hD := hD.sub (ws' := [(h0, .inr (9, [.int 0, .ref q1, .ref q3, .ref q5, .ref q7, .ref q9, .int 0, .int 0, .ref q11, .ref q13, .ref q15, .int 0, .int 0, .int (-1), .int 0, .ref q17, .null, .null, .null, .null, .null, .null, .null, .int 0, .int 0, .null, .null, .null, .null, .long 0, .long 0, .int 0, .long 0, .long 0, .long 0, .long 0, .int 0, .int 0, .int 0, .int 0, .null, .int 0, .null, .null, .long 0, .null, .int 0, .int 0, .int 0, .null, .null, .null, .null, .null, .null, .int 0])), (q1, .inl (cA2, 200, .inl (fun _ => 0))), (q3, .inl (cA4, 200, .inl (fun _ => 0))), (q5, .inl (cA6, 200, .inl (fun _ => 0))), (q7, .inl (cA8, 200, .inl (fun _ => 0))), (q9, .inl (cA10, 200, .inl (fun _ => 0))), (q11, .inl (cA12, 4, .inl (fun _ => 0))), (q13, .inl (cA14, 4, .inl (fun _ => 0))), (q15, .inl (cA16, 4, .inl (fun _ => 0)))]) [0, 1, 2, 3, 4, 5, 6, 7, 8] (by decide) rfl
  have hK := hK.sub (tys' := [(cA2, .int), (cA4, .int), (cA6, .int), (cA8, .int), (cA10, .int), (cA12, .int), (cA14, .int), (cA16, .int)]) [0, 1, 2, 3, 4, 5, 6, 7] rfl
  refine lv_aload_n hx hb d_Mo_init_84 rfl (lv_at hl 0 rfl) ?_
  refine lv_sipush (v := 1938) hx hb d_Mo_init_85 (by decide) ?_
  refine va_newa (atype := .int) (a0 := (1938, .inl (fun _ => 0))) (ty := .int) hx hb (hts _ mw_73) rfl hK hP hD hS hA (fun _ => rfl) (by decide) (by decide) (by decide) (Nat.le_of_ble_eq_true rfl) (Nat.le_of_ble_eq_true rfl) d_Mo_init_88 (fun q19 cA20 H hK hP hD hS => ?_)
  have hP : va_P (dC, dI) classes [(h0, .inr (9, [.int 0, .ref q1, .ref q3, .ref q5, .ref q7, .ref q9, .int 0, .int 0, .ref q11, .ref q13, .ref q15, .int 0, .int 0, .int (-1), .int 0, .ref q17, .null, .null, .null, .null, .null, .null, .null, .int 0, .int 0, .null, .null, .null, .null, .long 0, .long 0, .int 0, .long 0, .long 0, .long 0, .long 0, .int 0, .int 0, .int 0, .int 0, .null, .int 0, .null, .null, .long 0, .null, .int 0, .int 0, .int 0, .null, .null, .null, .null, .null, .null, .int 0])), (q1, .inl (cA2, 200, .inl (fun _ => 0))), (q3, .inl (cA4, 200, .inl (fun _ => 0))), (q5, .inl (cA6, 200, .inl (fun _ => 0))), (q7, .inl (cA8, 200, .inl (fun _ => 0))), (q9, .inl (cA10, 200, .inl (fun _ => 0))), (q11, .inl (cA12, 4, .inl (fun _ => 0))), (q13, .inl (cA14, 4, .inl (fun _ => 0))), (q15, .inl (cA16, 4, .inl (fun _ => 0))), (q19, .inl (cA20, 1938, .inl (fun _ => 0)))] H := hP
  have hD : va_D A [(h0, .inr (9, [.int 0, .ref q1, .ref q3, .ref q5, .ref q7, .ref q9, .int 0, .int 0, .ref q11, .ref q13, .ref q15, .int 0, .int 0, .int (-1), .int 0, .ref q17, .null, .null, .null, .null, .null, .null, .null, .int 0, .int 0, .null, .null, .null, .null, .long 0, .long 0, .int 0, .long 0, .long 0, .long 0, .long 0, .int 0, .int 0, .int 0, .int 0, .null, .int 0, .null, .null, .long 0, .null, .int 0, .int 0, .int 0, .null, .null, .null, .null, .null, .null, .int 0])), (q1, .inl (cA2, 200, .inl (fun _ => 0))), (q3, .inl (cA4, 200, .inl (fun _ => 0))), (q5, .inl (cA6, 200, .inl (fun _ => 0))), (q7, .inl (cA8, 200, .inl (fun _ => 0))), (q9, .inl (cA10, 200, .inl (fun _ => 0))), (q11, .inl (cA12, 4, .inl (fun _ => 0))), (q13, .inl (cA14, 4, .inl (fun _ => 0))), (q15, .inl (cA16, 4, .inl (fun _ => 0))), (q19, .inl (cA20, 1938, .inl (fun _ => 0)))] := hD
  have hK : va_K (dC, dI) classes [(cA2, .int), (cA4, .int), (cA6, .int), (cA8, .int), (cA10, .int), (cA12, .int), (cA14, .int), (cA16, .int), (cA20, .int)] s := hK
  refine W.widen (k := 10) (n := 4888) (by omega) (by omega) ?_
  refine va_putF (D := (dC, dI)) (ci := 9) (v := .ref q19) (ty := (.array .int)) (C := R_Mo) (T := F_Mo) (N := 56) hx hb hts i_Mo t_Mo t_Mo_ok n_Mo hown hK hP hD hS 0 rfl rfl 16 (by decide) (hts _ mw_1113) (fun _ h9 => h9) rfl hin rfl (by decide +kernel) rfl rfl (Nat.le_of_ble_eq_true rfl) d_Mo_init_90 (fun H locs hP hD hS => ?_)
  have hP : va_P (dC, dI) classes [(h0, .inr (9, [.int 0, .ref q1, .ref q3, .ref q5, .ref q7, .ref q9, .int 0, .int 0, .ref q11, .ref q13, .ref q15, .int 0, .int 0, .int (-1), .int 0, .ref q17, .ref q19, .null, .null, .null, .null, .null, .null, .int 0, .int 0, .null, .null, .null, .null, .long 0, .long 0, .int 0, .long 0, .long 0, .long 0, .long 0, .int 0, .int 0, .int 0, .int 0, .null, .int 0, .null, .null, .long 0, .null, .int 0, .int 0, .int 0, .null, .null, .null, .null, .null, .null, .int 0])), (q1, .inl (cA2, 200, .inl (fun _ => 0))), (q3, .inl (cA4, 200, .inl (fun _ => 0))), (q5, .inl (cA6, 200, .inl (fun _ => 0))), (q7, .inl (cA8, 200, .inl (fun _ => 0))), (q9, .inl (cA10, 200, .inl (fun _ => 0))), (q11, .inl (cA12, 4, .inl (fun _ => 0))), (q13, .inl (cA14, 4, .inl (fun _ => 0))), (q15, .inl (cA16, 4, .inl (fun _ => 0))), (q19, .inl (cA20, 1938, .inl (fun _ => 0)))] H := hP
  have hD : va_D A [(h0, .inr (9, [.int 0, .ref q1, .ref q3, .ref q5, .ref q7, .ref q9, .int 0, .int 0, .ref q11, .ref q13, .ref q15, .int 0, .int 0, .int (-1), .int 0, .ref q17, .ref q19, .null, .null, .null, .null, .null, .null, .int 0, .int 0, .null, .null, .null, .null, .long 0, .long 0, .int 0, .long 0, .long 0, .long 0, .long 0, .int 0, .int 0, .int 0, .int 0, .null, .int 0, .null, .null, .long 0, .null, .int 0, .int 0, .int 0, .null, .null, .null, .null, .null, .null, .int 0])), (q1, .inl (cA2, 200, .inl (fun _ => 0))), (q3, .inl (cA4, 200, .inl (fun _ => 0))), (q5, .inl (cA6, 200, .inl (fun _ => 0))), (q7, .inl (cA8, 200, .inl (fun _ => 0))), (q9, .inl (cA10, 200, .inl (fun _ => 0))), (q11, .inl (cA12, 4, .inl (fun _ => 0))), (q13, .inl (cA14, 4, .inl (fun _ => 0))), (q15, .inl (cA16, 4, .inl (fun _ => 0))), (q19, .inl (cA20, 1938, .inl (fun _ => 0)))] := hD
  have hP := hP.sub (ws' := [(h0, .inr (9, [.int 0, .ref q1, .ref q3, .ref q5, .ref q7, .ref q9, .int 0, .int 0, .ref q11, .ref q13, .ref q15, .int 0, .int 0, .int (-1), .int 0, .ref q17, .ref q19, .null, .null, .null, .null, .null, .null, .int 0, .int 0, .null, .null, .null, .null, .long 0, .long 0, .int 0, .long 0, .long 0, .long 0, .long 0, .int 0, .int 0, .int 0, .int 0, .null, .int 0, .null, .null, .long 0, .null, .int 0, .int 0, .int 0, .null, .null, .null, .null, .null, .null, .int 0])), (q1, .inl (cA2, 200, .inl (fun _ => 0))), (q3, .inl (cA4, 200, .inl (fun _ => 0))), (q5, .inl (cA6, 200, .inl (fun _ => 0))), (q7, .inl (cA8, 200, .inl (fun _ => 0))), (q9, .inl (cA10, 200, .inl (fun _ => 0))), (q11, .inl (cA12, 4, .inl (fun _ => 0))), (q13, .inl (cA14, 4, .inl (fun _ => 0))), (q15, .inl (cA16, 4, .inl (fun _ => 0)))]) [0, 1, 2, 3, 4, 5, 6, 7, 8] rfl
  have hD := hD.sub (ws' := [(h0, .inr (9, [.int 0, .ref q1, .ref q3, .ref q5, .ref q7, .ref q9, .int 0, .int 0, .ref q11, .ref q13, .ref q15, .int 0, .int 0, .int (-1), .int 0, .ref q17, .ref q19, .null, .null, .null, .null, .null, .null, .int 0, .int 0, .null, .null, .null, .null, .long 0, .long 0, .int 0, .long 0, .long 0, .long 0, .long 0, .int 0, .int 0, .int 0, .int 0, .null, .int 0, .null, .null, .long 0, .null, .int 0, .int 0, .int 0, .null, .null, .null, .null, .null, .null, .int 0])), (q1, .inl (cA2, 200, .inl (fun _ => 0))), (q3, .inl (cA4, 200, .inl (fun _ => 0))), (q5, .inl (cA6, 200, .inl (fun _ => 0))), (q7, .inl (cA8, 200, .inl (fun _ => 0))), (q9, .inl (cA10, 200, .inl (fun _ => 0))), (q11, .inl (cA12, 4, .inl (fun _ => 0))), (q13, .inl (cA14, 4, .inl (fun _ => 0))), (q15, .inl (cA16, 4, .inl (fun _ => 0)))]) [0, 1, 2, 3, 4, 5, 6, 7, 8] (by decide) rfl
  have hK := hK.sub (tys' := [(cA2, .int), (cA4, .int), (cA6, .int), (cA8, .int), (cA10, .int), (cA12, .int), (cA14, .int), (cA16, .int)]) [0, 1, 2, 3, 4, 5, 6, 7] rfl
  refine lv_aload_n hx hb d_Mo_init_93 rfl (lv_at hl 0 rfl) ?_
  refine lv_sipush (v := 1938) hx hb d_Mo_init_94 (by decide) ?_
  refine va_newa (atype := .int) (a0 := (1938, .inl (fun _ => 0))) (ty := .int) hx hb (hts _ mw_73) rfl hK hP hD hS hA (fun _ => rfl) (by decide) (by decide) (by decide) (Nat.le_of_ble_eq_true rfl) (Nat.le_of_ble_eq_true rfl) d_Mo_init_97 (fun q21 cA22 H hK hP hD hS => ?_)
  have hP : va_P (dC, dI) classes [(h0, .inr (9, [.int 0, .ref q1, .ref q3, .ref q5, .ref q7, .ref q9, .int 0, .int 0, .ref q11, .ref q13, .ref q15, .int 0, .int 0, .int (-1), .int 0, .ref q17, .ref q19, .null, .null, .null, .null, .null, .null, .int 0, .int 0, .null, .null, .null, .null, .long 0, .long 0, .int 0, .long 0, .long 0, .long 0, .long 0, .int 0, .int 0, .int 0, .int 0, .null, .int 0, .null, .null, .long 0, .null, .int 0, .int 0, .int 0, .null, .null, .null, .null, .null, .null, .int 0])), (q1, .inl (cA2, 200, .inl (fun _ => 0))), (q3, .inl (cA4, 200, .inl (fun _ => 0))), (q5, .inl (cA6, 200, .inl (fun _ => 0))), (q7, .inl (cA8, 200, .inl (fun _ => 0))), (q9, .inl (cA10, 200, .inl (fun _ => 0))), (q11, .inl (cA12, 4, .inl (fun _ => 0))), (q13, .inl (cA14, 4, .inl (fun _ => 0))), (q15, .inl (cA16, 4, .inl (fun _ => 0))), (q21, .inl (cA22, 1938, .inl (fun _ => 0)))] H := hP
  have hD : va_D A [(h0, .inr (9, [.int 0, .ref q1, .ref q3, .ref q5, .ref q7, .ref q9, .int 0, .int 0, .ref q11, .ref q13, .ref q15, .int 0, .int 0, .int (-1), .int 0, .ref q17, .ref q19, .null, .null, .null, .null, .null, .null, .int 0, .int 0, .null, .null, .null, .null, .long 0, .long 0, .int 0, .long 0, .long 0, .long 0, .long 0, .int 0, .int 0, .int 0, .int 0, .null, .int 0, .null, .null, .long 0, .null, .int 0, .int 0, .int 0, .null, .null, .null, .null, .null, .null, .int 0])), (q1, .inl (cA2, 200, .inl (fun _ => 0))), (q3, .inl (cA4, 200, .inl (fun _ => 0))), (q5, .inl (cA6, 200, .inl (fun _ => 0))), (q7, .inl (cA8, 200, .inl (fun _ => 0))), (q9, .inl (cA10, 200, .inl (fun _ => 0))), (q11, .inl (cA12, 4, .inl (fun _ => 0))), (q13, .inl (cA14, 4, .inl (fun _ => 0))), (q15, .inl (cA16, 4, .inl (fun _ => 0))), (q21, .inl (cA22, 1938, .inl (fun _ => 0)))] := hD
  have hK : va_K (dC, dI) classes [(cA2, .int), (cA4, .int), (cA6, .int), (cA8, .int), (cA10, .int), (cA12, .int), (cA14, .int), (cA16, .int), (cA22, .int)] s := hK
  refine W.widen (k := 11) (n := 6826) (by omega) (by omega) ?_
  refine va_putF (D := (dC, dI)) (ci := 9) (v := .ref q21) (ty := (.array .int)) (C := R_Mo) (T := F_Mo) (N := 56) hx hb hts i_Mo t_Mo t_Mo_ok n_Mo hown hK hP hD hS 0 rfl rfl 17 (by decide) (hts _ mw_1114) (fun _ h9 => h9) rfl hin rfl (by decide +kernel) rfl rfl (Nat.le_of_ble_eq_true rfl) d_Mo_init_99 (fun H locs hP hD hS => ?_)
  have hP : va_P (dC, dI) classes [(h0, .inr (9, [.int 0, .ref q1, .ref q3, .ref q5, .ref q7, .ref q9, .int 0, .int 0, .ref q11, .ref q13, .ref q15, .int 0, .int 0, .int (-1), .int 0, .ref q17, .ref q19, .ref q21, .null, .null, .null, .null, .null, .int 0, .int 0, .null, .null, .null, .null, .long 0, .long 0, .int 0, .long 0, .long 0, .long 0, .long 0, .int 0, .int 0, .int 0, .int 0, .null, .int 0, .null, .null, .long 0, .null, .int 0, .int 0, .int 0, .null, .null, .null, .null, .null, .null, .int 0])), (q1, .inl (cA2, 200, .inl (fun _ => 0))), (q3, .inl (cA4, 200, .inl (fun _ => 0))), (q5, .inl (cA6, 200, .inl (fun _ => 0))), (q7, .inl (cA8, 200, .inl (fun _ => 0))), (q9, .inl (cA10, 200, .inl (fun _ => 0))), (q11, .inl (cA12, 4, .inl (fun _ => 0))), (q13, .inl (cA14, 4, .inl (fun _ => 0))), (q15, .inl (cA16, 4, .inl (fun _ => 0))), (q21, .inl (cA22, 1938, .inl (fun _ => 0)))] H := hP
  have hD : va_D A [(h0, .inr (9, [.int 0, .ref q1, .ref q3, .ref q5, .ref q7, .ref q9, .int 0, .int 0, .ref q11, .ref q13, .ref q15, .int 0, .int 0, .int (-1), .int 0, .ref q17, .ref q19, .ref q21, .null, .null, .null, .null, .null, .int 0, .int 0, .null, .null, .null, .null, .long 0, .long 0, .int 0, .long 0, .long 0, .long 0, .long 0, .int 0, .int 0, .int 0, .int 0, .null, .int 0, .null, .null, .long 0, .null, .int 0, .int 0, .int 0, .null, .null, .null, .null, .null, .null, .int 0])), (q1, .inl (cA2, 200, .inl (fun _ => 0))), (q3, .inl (cA4, 200, .inl (fun _ => 0))), (q5, .inl (cA6, 200, .inl (fun _ => 0))), (q7, .inl (cA8, 200, .inl (fun _ => 0))), (q9, .inl (cA10, 200, .inl (fun _ => 0))), (q11, .inl (cA12, 4, .inl (fun _ => 0))), (q13, .inl (cA14, 4, .inl (fun _ => 0))), (q15, .inl (cA16, 4, .inl (fun _ => 0))), (q21, .inl (cA22, 1938, .inl (fun _ => 0)))] := hD
  have hP := hP.sub (ws' := [(h0, .inr (9, [.int 0, .ref q1, .ref q3, .ref q5, .ref q7, .ref q9, .int 0, .int 0, .ref q11, .ref q13, .ref q15, .int 0, .int 0, .int (-1), .int 0, .ref q17, .ref q19, .ref q21, .null, .null, .null, .null, .null, .int 0, .int 0, .null, .null, .null, .null, .long 0, .long 0, .int 0, .long 0, .long 0, .long 0, .long 0, .int 0, .int 0, .int 0, .int 0, .null, .int 0, .null, .null, .long 0, .null, .int 0, .int 0, .int 0, .null, .null, .null, .null, .null, .null, .int 0])), (q1, .inl (cA2, 200, .inl (fun _ => 0))), (q3, .inl (cA4, 200, .inl (fun _ => 0))), (q5, .inl (cA6, 200, .inl (fun _ => 0))), (q7, .inl (cA8, 200, .inl (fun _ => 0))), (q9, .inl (cA10, 200, .inl (fun _ => 0))), (q11, .inl (cA12, 4, .inl (fun _ => 0))), (q13, .inl (cA14, 4, .inl (fun _ => 0))), (q15, .inl (cA16, 4, .inl (fun _ => 0)))]) [0, 1, 2, 3, 4, 5, 6, 7, 8] rfl
  have hD := hD.sub (ws' := [(h0, .inr (9, [.int 0, .ref q1, .ref q3, .ref q5, .ref q7, .ref q9, .int 0, .int 0, .ref q11, .ref q13, .ref q15, .int 0, .int 0, .int (-1), .int 0, .ref q17, .ref q19, .ref q21, .null, .null, .null, .null, .null, .int 0, .int 0, .null, .null, .null, .null, .long 0, .long 0, .int 0, .long 0, .long 0, .long 0, .long 0, .int 0, .int 0, .int 0, .int 0, .null, .int 0, .null, .null, .long 0, .null, .int 0, .int 0, .int 0, .null, .null, .null, .null, .null, .null, .int 0])), (q1, .inl (cA2, 200, .inl (fun _ => 0))), (q3, .inl (cA4, 200, .inl (fun _ => 0))), (q5, .inl (cA6, 200, .inl (fun _ => 0))), (q7, .inl (cA8, 200, .inl (fun _ => 0))), (q9, .inl (cA10, 200, .inl (fun _ => 0))), (q11, .inl (cA12, 4, .inl (fun _ => 0))), (q13, .inl (cA14, 4, .inl (fun _ => 0))), (q15, .inl (cA16, 4, .inl (fun _ => 0)))]) [0, 1, 2, 3, 4, 5, 6, 7, 8] (by decide) rfl
  have hK := hK.sub (tys' := [(cA2, .int), (cA4, .int), (cA6, .int), (cA8, .int), (cA10, .int), (cA12, .int), (cA14, .int), (cA16, .int)]) [0, 1, 2, 3, 4, 5, 6, 7] rfl
  refine lv_aload_n hx hb d_Mo_init_102 rfl (lv_at hl 0 rfl) ?_
  refine lv_sipush (v := 1938) hx hb d_Mo_init_103 (by decide) ?_
  refine va_newa (atype := .long) (a0 := (1938, .inr (.inl (fun _ => 0)))) (ty := .long) hx hb (hts _ mw_165) rfl hK hP hD hS hA (fun _ => rfl) (by decide) (by decide) (by decide) (Nat.le_of_ble_eq_true rfl) (Nat.le_of_ble_eq_true rfl) d_Mo_init_106 (fun q23 cA24 H hK hP hD hS => ?_)
  have hP : va_P (dC, dI) classes [(h0, .inr (9, [.int 0, .ref q1, .ref q3, .ref q5, .ref q7, .ref q9, .int 0, .int 0, .ref q11, .ref q13, .ref q15, .int 0, .int 0, .int (-1), .int 0, .ref q17, .ref q19, .ref q21, .null, .null, .null, .null, .null, .int 0, .int 0, .null, .null, .null, .null, .long 0, .long 0, .int 0, .long 0, .long 0, .long 0, .long 0, .int 0, .int 0, .int 0, .int 0, .null, .int 0, .null, .null, .long 0, .null, .int 0, .int 0, .int 0, .null, .null, .null, .null, .null, .null, .int 0])), (q1, .inl (cA2, 200, .inl (fun _ => 0))), (q3, .inl (cA4, 200, .inl (fun _ => 0))), (q5, .inl (cA6, 200, .inl (fun _ => 0))), (q7, .inl (cA8, 200, .inl (fun _ => 0))), (q9, .inl (cA10, 200, .inl (fun _ => 0))), (q11, .inl (cA12, 4, .inl (fun _ => 0))), (q13, .inl (cA14, 4, .inl (fun _ => 0))), (q15, .inl (cA16, 4, .inl (fun _ => 0))), (q23, .inl (cA24, 1938, .inr (.inl (fun _ => 0))))] H := hP
  have hD : va_D A [(h0, .inr (9, [.int 0, .ref q1, .ref q3, .ref q5, .ref q7, .ref q9, .int 0, .int 0, .ref q11, .ref q13, .ref q15, .int 0, .int 0, .int (-1), .int 0, .ref q17, .ref q19, .ref q21, .null, .null, .null, .null, .null, .int 0, .int 0, .null, .null, .null, .null, .long 0, .long 0, .int 0, .long 0, .long 0, .long 0, .long 0, .int 0, .int 0, .int 0, .int 0, .null, .int 0, .null, .null, .long 0, .null, .int 0, .int 0, .int 0, .null, .null, .null, .null, .null, .null, .int 0])), (q1, .inl (cA2, 200, .inl (fun _ => 0))), (q3, .inl (cA4, 200, .inl (fun _ => 0))), (q5, .inl (cA6, 200, .inl (fun _ => 0))), (q7, .inl (cA8, 200, .inl (fun _ => 0))), (q9, .inl (cA10, 200, .inl (fun _ => 0))), (q11, .inl (cA12, 4, .inl (fun _ => 0))), (q13, .inl (cA14, 4, .inl (fun _ => 0))), (q15, .inl (cA16, 4, .inl (fun _ => 0))), (q23, .inl (cA24, 1938, .inr (.inl (fun _ => 0))))] := hD
  have hK : va_K (dC, dI) classes [(cA2, .int), (cA4, .int), (cA6, .int), (cA8, .int), (cA10, .int), (cA12, .int), (cA14, .int), (cA16, .int), (cA24, .long)] s := hK
  refine W.widen (k := 12) (n := 8764) (by omega) (by omega) ?_
  refine va_putF (D := (dC, dI)) (ci := 9) (v := .ref q23) (ty := (.array .long)) (C := R_Mo) (T := F_Mo) (N := 56) hx hb hts i_Mo t_Mo t_Mo_ok n_Mo hown hK hP hD hS 0 rfl rfl 18 (by decide) (hts _ mw_1115) (fun _ h9 => h9) rfl hin rfl (by decide +kernel) rfl rfl (Nat.le_of_ble_eq_true rfl) d_Mo_init_108 (fun H locs hP hD hS => ?_)
  have hP : va_P (dC, dI) classes [(h0, .inr (9, [.int 0, .ref q1, .ref q3, .ref q5, .ref q7, .ref q9, .int 0, .int 0, .ref q11, .ref q13, .ref q15, .int 0, .int 0, .int (-1), .int 0, .ref q17, .ref q19, .ref q21, .ref q23, .null, .null, .null, .null, .int 0, .int 0, .null, .null, .null, .null, .long 0, .long 0, .int 0, .long 0, .long 0, .long 0, .long 0, .int 0, .int 0, .int 0, .int 0, .null, .int 0, .null, .null, .long 0, .null, .int 0, .int 0, .int 0, .null, .null, .null, .null, .null, .null, .int 0])), (q1, .inl (cA2, 200, .inl (fun _ => 0))), (q3, .inl (cA4, 200, .inl (fun _ => 0))), (q5, .inl (cA6, 200, .inl (fun _ => 0))), (q7, .inl (cA8, 200, .inl (fun _ => 0))), (q9, .inl (cA10, 200, .inl (fun _ => 0))), (q11, .inl (cA12, 4, .inl (fun _ => 0))), (q13, .inl (cA14, 4, .inl (fun _ => 0))), (q15, .inl (cA16, 4, .inl (fun _ => 0))), (q23, .inl (cA24, 1938, .inr (.inl (fun _ => 0))))] H := hP
  have hD : va_D A [(h0, .inr (9, [.int 0, .ref q1, .ref q3, .ref q5, .ref q7, .ref q9, .int 0, .int 0, .ref q11, .ref q13, .ref q15, .int 0, .int 0, .int (-1), .int 0, .ref q17, .ref q19, .ref q21, .ref q23, .null, .null, .null, .null, .int 0, .int 0, .null, .null, .null, .null, .long 0, .long 0, .int 0, .long 0, .long 0, .long 0, .long 0, .int 0, .int 0, .int 0, .int 0, .null, .int 0, .null, .null, .long 0, .null, .int 0, .int 0, .int 0, .null, .null, .null, .null, .null, .null, .int 0])), (q1, .inl (cA2, 200, .inl (fun _ => 0))), (q3, .inl (cA4, 200, .inl (fun _ => 0))), (q5, .inl (cA6, 200, .inl (fun _ => 0))), (q7, .inl (cA8, 200, .inl (fun _ => 0))), (q9, .inl (cA10, 200, .inl (fun _ => 0))), (q11, .inl (cA12, 4, .inl (fun _ => 0))), (q13, .inl (cA14, 4, .inl (fun _ => 0))), (q15, .inl (cA16, 4, .inl (fun _ => 0))), (q23, .inl (cA24, 1938, .inr (.inl (fun _ => 0))))] := hD
  have hP := hP.sub (ws' := [(h0, .inr (9, [.int 0, .ref q1, .ref q3, .ref q5, .ref q7, .ref q9, .int 0, .int 0, .ref q11, .ref q13, .ref q15, .int 0, .int 0, .int (-1), .int 0, .ref q17, .ref q19, .ref q21, .ref q23, .null, .null, .null, .null, .int 0, .int 0, .null, .null, .null, .null, .long 0, .long 0, .int 0, .long 0, .long 0, .long 0, .long 0, .int 0, .int 0, .int 0, .int 0, .null, .int 0, .null, .null, .long 0, .null, .int 0, .int 0, .int 0, .null, .null, .null, .null, .null, .null, .int 0])), (q1, .inl (cA2, 200, .inl (fun _ => 0))), (q3, .inl (cA4, 200, .inl (fun _ => 0))), (q5, .inl (cA6, 200, .inl (fun _ => 0))), (q7, .inl (cA8, 200, .inl (fun _ => 0))), (q9, .inl (cA10, 200, .inl (fun _ => 0))), (q11, .inl (cA12, 4, .inl (fun _ => 0))), (q13, .inl (cA14, 4, .inl (fun _ => 0))), (q15, .inl (cA16, 4, .inl (fun _ => 0)))]) [0, 1, 2, 3, 4, 5, 6, 7, 8] rfl
  have hD := hD.sub (ws' := [(h0, .inr (9, [.int 0, .ref q1, .ref q3, .ref q5, .ref q7, .ref q9, .int 0, .int 0, .ref q11, .ref q13, .ref q15, .int 0, .int 0, .int (-1), .int 0, .ref q17, .ref q19, .ref q21, .ref q23, .null, .null, .null, .null, .int 0, .int 0, .null, .null, .null, .null, .long 0, .long 0, .int 0, .long 0, .long 0, .long 0, .long 0, .int 0, .int 0, .int 0, .int 0, .null, .int 0, .null, .null, .long 0, .null, .int 0, .int 0, .int 0, .null, .null, .null, .null, .null, .null, .int 0])), (q1, .inl (cA2, 200, .inl (fun _ => 0))), (q3, .inl (cA4, 200, .inl (fun _ => 0))), (q5, .inl (cA6, 200, .inl (fun _ => 0))), (q7, .inl (cA8, 200, .inl (fun _ => 0))), (q9, .inl (cA10, 200, .inl (fun _ => 0))), (q11, .inl (cA12, 4, .inl (fun _ => 0))), (q13, .inl (cA14, 4, .inl (fun _ => 0))), (q15, .inl (cA16, 4, .inl (fun _ => 0)))]) [0, 1, 2, 3, 4, 5, 6, 7, 8] (by decide) rfl
  have hK := hK.sub (tys' := [(cA2, .int), (cA4, .int), (cA6, .int), (cA8, .int), (cA10, .int), (cA12, .int), (cA14, .int), (cA16, .int)]) [0, 1, 2, 3, 4, 5, 6, 7] rfl
  refine lv_aload_n hx hb d_Mo_init_111 rfl (lv_at hl 0 rfl) ?_
  refine lv_sipush (v := 1938) hx hb d_Mo_init_112 (by decide) ?_
  refine va_newa (atype := .long) (a0 := (1938, .inr (.inl (fun _ => 0)))) (ty := .long) hx hb (hts _ mw_165) rfl hK hP hD hS hA (fun _ => rfl) (by decide) (by decide) (by decide) (Nat.le_of_ble_eq_true rfl) (Nat.le_of_ble_eq_true rfl) d_Mo_init_115 (fun q25 cA26 H hK hP hD hS => ?_)
  have hP : va_P (dC, dI) classes [(h0, .inr (9, [.int 0, .ref q1, .ref q3, .ref q5, .ref q7, .ref q9, .int 0, .int 0, .ref q11, .ref q13, .ref q15, .int 0, .int 0, .int (-1), .int 0, .ref q17, .ref q19, .ref q21, .ref q23, .null, .null, .null, .null, .int 0, .int 0, .null, .null, .null, .null, .long 0, .long 0, .int 0, .long 0, .long 0, .long 0, .long 0, .int 0, .int 0, .int 0, .int 0, .null, .int 0, .null, .null, .long 0, .null, .int 0, .int 0, .int 0, .null, .null, .null, .null, .null, .null, .int 0])), (q1, .inl (cA2, 200, .inl (fun _ => 0))), (q3, .inl (cA4, 200, .inl (fun _ => 0))), (q5, .inl (cA6, 200, .inl (fun _ => 0))), (q7, .inl (cA8, 200, .inl (fun _ => 0))), (q9, .inl (cA10, 200, .inl (fun _ => 0))), (q11, .inl (cA12, 4, .inl (fun _ => 0))), (q13, .inl (cA14, 4, .inl (fun _ => 0))), (q15, .inl (cA16, 4, .inl (fun _ => 0))), (q25, .inl (cA26, 1938, .inr (.inl (fun _ => 0))))] H := hP
  have hD : va_D A [(h0, .inr (9, [.int 0, .ref q1, .ref q3, .ref q5, .ref q7, .ref q9, .int 0, .int 0, .ref q11, .ref q13, .ref q15, .int 0, .int 0, .int (-1), .int 0, .ref q17, .ref q19, .ref q21, .ref q23, .null, .null, .null, .null, .int 0, .int 0, .null, .null, .null, .null, .long 0, .long 0, .int 0, .long 0, .long 0, .long 0, .long 0, .int 0, .int 0, .int 0, .int 0, .null, .int 0, .null, .null, .long 0, .null, .int 0, .int 0, .int 0, .null, .null, .null, .null, .null, .null, .int 0])), (q1, .inl (cA2, 200, .inl (fun _ => 0))), (q3, .inl (cA4, 200, .inl (fun _ => 0))), (q5, .inl (cA6, 200, .inl (fun _ => 0))), (q7, .inl (cA8, 200, .inl (fun _ => 0))), (q9, .inl (cA10, 200, .inl (fun _ => 0))), (q11, .inl (cA12, 4, .inl (fun _ => 0))), (q13, .inl (cA14, 4, .inl (fun _ => 0))), (q15, .inl (cA16, 4, .inl (fun _ => 0))), (q25, .inl (cA26, 1938, .inr (.inl (fun _ => 0))))] := hD
  have hK : va_K (dC, dI) classes [(cA2, .int), (cA4, .int), (cA6, .int), (cA8, .int), (cA10, .int), (cA12, .int), (cA14, .int), (cA16, .int), (cA26, .long)] s := hK
  refine W.widen (k := 13) (n := 10702) (by omega) (by omega) ?_
  refine va_putF (D := (dC, dI)) (ci := 9) (v := .ref q25) (ty := (.array .long)) (C := R_Mo) (T := F_Mo) (N := 56) hx hb hts i_Mo t_Mo t_Mo_ok n_Mo hown hK hP hD hS 0 rfl rfl 19 (by decide) (hts _ mw_1116) (fun _ h9 => h9) rfl hin rfl (by decide +kernel) rfl rfl (Nat.le_of_ble_eq_true rfl) d_Mo_init_117 (fun H locs hP hD hS => ?_)
  have hP : va_P (dC, dI) classes [(h0, .inr (9, [.int 0, .ref q1, .ref q3, .ref q5, .ref q7, .ref q9, .int 0, .int 0, .ref q11, .ref q13, .ref q15, .int 0, .int 0, .int (-1), .int 0, .ref q17, .ref q19, .ref q21, .ref q23, .ref q25, .null, .null, .null, .int 0, .int 0, .null, .null, .null, .null, .long 0, .long 0, .int 0, .long 0, .long 0, .long 0, .long 0, .int 0, .int 0, .int 0, .int 0, .null, .int 0, .null, .null, .long 0, .null, .int 0, .int 0, .int 0, .null, .null, .null, .null, .null, .null, .int 0])), (q1, .inl (cA2, 200, .inl (fun _ => 0))), (q3, .inl (cA4, 200, .inl (fun _ => 0))), (q5, .inl (cA6, 200, .inl (fun _ => 0))), (q7, .inl (cA8, 200, .inl (fun _ => 0))), (q9, .inl (cA10, 200, .inl (fun _ => 0))), (q11, .inl (cA12, 4, .inl (fun _ => 0))), (q13, .inl (cA14, 4, .inl (fun _ => 0))), (q15, .inl (cA16, 4, .inl (fun _ => 0))), (q25, .inl (cA26, 1938, .inr (.inl (fun _ => 0))))] H := hP
  have hD : va_D A [(h0, .inr (9, [.int 0, .ref q1, .ref q3, .ref q5, .ref q7, .ref q9, .int 0, .int 0, .ref q11, .ref q13, .ref q15, .int 0, .int 0, .int (-1), .int 0, .ref q17, .ref q19, .ref q21, .ref q23, .ref q25, .null, .null, .null, .int 0, .int 0, .null, .null, .null, .null, .long 0, .long 0, .int 0, .long 0, .long 0, .long 0, .long 0, .int 0, .int 0, .int 0, .int 0, .null, .int 0, .null, .null, .long 0, .null, .int 0, .int 0, .int 0, .null, .null, .null, .null, .null, .null, .int 0])), (q1, .inl (cA2, 200, .inl (fun _ => 0))), (q3, .inl (cA4, 200, .inl (fun _ => 0))), (q5, .inl (cA6, 200, .inl (fun _ => 0))), (q7, .inl (cA8, 200, .inl (fun _ => 0))), (q9, .inl (cA10, 200, .inl (fun _ => 0))), (q11, .inl (cA12, 4, .inl (fun _ => 0))), (q13, .inl (cA14, 4, .inl (fun _ => 0))), (q15, .inl (cA16, 4, .inl (fun _ => 0))), (q25, .inl (cA26, 1938, .inr (.inl (fun _ => 0))))] := hD
  have hP := hP.sub (ws' := [(h0, .inr (9, [.int 0, .ref q1, .ref q3, .ref q5, .ref q7, .ref q9, .int 0, .int 0, .ref q11, .ref q13, .ref q15, .int 0, .int 0, .int (-1), .int 0, .ref q17, .ref q19, .ref q21, .ref q23, .ref q25, .null, .null, .null, .int 0, .int 0, .null, .null, .null, .null, .long 0, .long 0, .int 0, .long 0, .long 0, .long 0, .long 0, .int 0, .int 0, .int 0, .int 0, .null, .int 0, .null, .null, .long 0, .null, .int 0, .int 0, .int 0, .null, .null, .null, .null, .null, .null, .int 0])), (q1, .inl (cA2, 200, .inl (fun _ => 0))), (q3, .inl (cA4, 200, .inl (fun _ => 0))), (q5, .inl (cA6, 200, .inl (fun _ => 0))), (q7, .inl (cA8, 200, .inl (fun _ => 0))), (q9, .inl (cA10, 200, .inl (fun _ => 0))), (q11, .inl (cA12, 4, .inl (fun _ => 0))), (q13, .inl (cA14, 4, .inl (fun _ => 0))), (q15, .inl (cA16, 4, .inl (fun _ => 0)))]) [0, 1, 2, 3, 4, 5, 6, 7, 8] rfl
  have hD := hD.sub (ws' := [(h0, .inr (9, [.int 0, .ref q1, .ref q3, .ref q5, .ref q7, .ref q9, .int 0, .int 0, .ref q11, .ref q13, .ref q15, .int 0, .int 0, .int (-1), .int 0, .ref q17, .ref q19, .ref q21, .ref q23, .ref q25, .null, .null, .null, .int 0, .int 0, .null, .null, .null, .null, .long 0, .long 0, .int 0, .long 0, .long 0, .long 0, .long 0, .int 0, .int 0, .int 0, .int 0, .null, .int 0, .null, .null, .long 0, .null, .int 0, .int 0, .int 0, .null, .null, .null, .null, .null, .null, .int 0])), (q1, .inl (cA2, 200, .inl (fun _ => 0))), (q3, .inl (cA4, 200, .inl (fun _ => 0))), (q5, .inl (cA6, 200, .inl (fun _ => 0))), (q7, .inl (cA8, 200, .inl (fun _ => 0))), (q9, .inl (cA10, 200, .inl (fun _ => 0))), (q11, .inl (cA12, 4, .inl (fun _ => 0))), (q13, .inl (cA14, 4, .inl (fun _ => 0))), (q15, .inl (cA16, 4, .inl (fun _ => 0)))]) [0, 1, 2, 3, 4, 5, 6, 7, 8] (by decide) rfl
  have hK := hK.sub (tys' := [(cA2, .int), (cA4, .int), (cA6, .int), (cA8, .int), (cA10, .int), (cA12, .int), (cA14, .int), (cA16, .int)]) [0, 1, 2, 3, 4, 5, 6, 7] rfl
  refine lv_aload_n hx hb d_Mo_init_120 rfl (lv_at hl 0 rfl) ?_
  refine lv_sipush (v := 6528) hx hb d_Mo_init_121 (by decide) ?_
  refine va_newa (atype := .int) (a0 := (6528, .inl (fun _ => 0))) (ty := .int) hx hb (hts _ mw_73) rfl hK hP hD hS hA (fun _ => rfl) (by decide) (by decide) (by decide) (Nat.le_of_ble_eq_true rfl) (Nat.le_of_ble_eq_true rfl) d_Mo_init_124 (fun q27 cA28 H hK hP hD hS => ?_)
  have hP : va_P (dC, dI) classes [(h0, .inr (9, [.int 0, .ref q1, .ref q3, .ref q5, .ref q7, .ref q9, .int 0, .int 0, .ref q11, .ref q13, .ref q15, .int 0, .int 0, .int (-1), .int 0, .ref q17, .ref q19, .ref q21, .ref q23, .ref q25, .null, .null, .null, .int 0, .int 0, .null, .null, .null, .null, .long 0, .long 0, .int 0, .long 0, .long 0, .long 0, .long 0, .int 0, .int 0, .int 0, .int 0, .null, .int 0, .null, .null, .long 0, .null, .int 0, .int 0, .int 0, .null, .null, .null, .null, .null, .null, .int 0])), (q1, .inl (cA2, 200, .inl (fun _ => 0))), (q3, .inl (cA4, 200, .inl (fun _ => 0))), (q5, .inl (cA6, 200, .inl (fun _ => 0))), (q7, .inl (cA8, 200, .inl (fun _ => 0))), (q9, .inl (cA10, 200, .inl (fun _ => 0))), (q11, .inl (cA12, 4, .inl (fun _ => 0))), (q13, .inl (cA14, 4, .inl (fun _ => 0))), (q15, .inl (cA16, 4, .inl (fun _ => 0))), (q27, .inl (cA28, 6528, .inl (fun _ => 0)))] H := hP
  have hD : va_D A [(h0, .inr (9, [.int 0, .ref q1, .ref q3, .ref q5, .ref q7, .ref q9, .int 0, .int 0, .ref q11, .ref q13, .ref q15, .int 0, .int 0, .int (-1), .int 0, .ref q17, .ref q19, .ref q21, .ref q23, .ref q25, .null, .null, .null, .int 0, .int 0, .null, .null, .null, .null, .long 0, .long 0, .int 0, .long 0, .long 0, .long 0, .long 0, .int 0, .int 0, .int 0, .int 0, .null, .int 0, .null, .null, .long 0, .null, .int 0, .int 0, .int 0, .null, .null, .null, .null, .null, .null, .int 0])), (q1, .inl (cA2, 200, .inl (fun _ => 0))), (q3, .inl (cA4, 200, .inl (fun _ => 0))), (q5, .inl (cA6, 200, .inl (fun _ => 0))), (q7, .inl (cA8, 200, .inl (fun _ => 0))), (q9, .inl (cA10, 200, .inl (fun _ => 0))), (q11, .inl (cA12, 4, .inl (fun _ => 0))), (q13, .inl (cA14, 4, .inl (fun _ => 0))), (q15, .inl (cA16, 4, .inl (fun _ => 0))), (q27, .inl (cA28, 6528, .inl (fun _ => 0)))] := hD
  have hK : va_K (dC, dI) classes [(cA2, .int), (cA4, .int), (cA6, .int), (cA8, .int), (cA10, .int), (cA12, .int), (cA14, .int), (cA16, .int), (cA28, .int)] s := hK
  refine W.widen (k := 14) (n := 17230) (by omega) (by omega) ?_
  refine va_putF (D := (dC, dI)) (ci := 9) (v := .ref q27) (ty := (.array .int)) (C := R_Mo) (T := F_Mo) (N := 56) hx hb hts i_Mo t_Mo t_Mo_ok n_Mo hown hK hP hD hS 0 rfl rfl 20 (by decide) (hts _ mw_1117) (fun _ h9 => h9) rfl hin rfl (by decide +kernel) rfl rfl (Nat.le_of_ble_eq_true rfl) d_Mo_init_126 (fun H locs hP hD hS => ?_)
  have hP : va_P (dC, dI) classes [(h0, .inr (9, [.int 0, .ref q1, .ref q3, .ref q5, .ref q7, .ref q9, .int 0, .int 0, .ref q11, .ref q13, .ref q15, .int 0, .int 0, .int (-1), .int 0, .ref q17, .ref q19, .ref q21, .ref q23, .ref q25, .ref q27, .null, .null, .int 0, .int 0, .null, .null, .null, .null, .long 0, .long 0, .int 0, .long 0, .long 0, .long 0, .long 0, .int 0, .int 0, .int 0, .int 0, .null, .int 0, .null, .null, .long 0, .null, .int 0, .int 0, .int 0, .null, .null, .null, .null, .null, .null, .int 0])), (q1, .inl (cA2, 200, .inl (fun _ => 0))), (q3, .inl (cA4, 200, .inl (fun _ => 0))), (q5, .inl (cA6, 200, .inl (fun _ => 0))), (q7, .inl (cA8, 200, .inl (fun _ => 0))), (q9, .inl (cA10, 200, .inl (fun _ => 0))), (q11, .inl (cA12, 4, .inl (fun _ => 0))), (q13, .inl (cA14, 4, .inl (fun _ => 0))), (q15, .inl (cA16, 4, .inl (fun _ => 0))), (q27, .inl (cA28, 6528, .inl (fun _ => 0)))] H := hP
  have hD : va_D A [(h0, .inr (9, [.int 0, .ref q1, .ref q3, .ref q5, .ref q7, .ref q9, .int 0, .int 0, .ref q11, .ref q13, .ref q15, .int 0, .int 0, .int (-1), .int 0, .ref q17, .ref q19, .ref q21, .ref q23, .ref q25, .ref q27, .null, .null, .int 0, .int 0, .null, .null, .null, .null, .long 0, .long 0, .int 0, .long 0, .long 0, .long 0, .long 0, .int 0, .int 0, .int 0, .int 0, .null, .int 0, .null, .null, .long 0, .null, .int 0, .int 0, .int 0, .null, .null, .null, .null, .null, .null, .int 0])), (q1, .inl (cA2, 200, .inl (fun _ => 0))), (q3, .inl (cA4, 200, .inl (fun _ => 0))), (q5, .inl (cA6, 200, .inl (fun _ => 0))), (q7, .inl (cA8, 200, .inl (fun _ => 0))), (q9, .inl (cA10, 200, .inl (fun _ => 0))), (q11, .inl (cA12, 4, .inl (fun _ => 0))), (q13, .inl (cA14, 4, .inl (fun _ => 0))), (q15, .inl (cA16, 4, .inl (fun _ => 0))), (q27, .inl (cA28, 6528, .inl (fun _ => 0)))] := hD
  have hP := hP.sub (ws' := [(h0, .inr (9, [.int 0, .ref q1, .ref q3, .ref q5, .ref q7, .ref q9, .int 0, .int 0, .ref q11, .ref q13, .ref q15, .int 0, .int 0, .int (-1), .int 0, .ref q17, .ref q19, .ref q21, .ref q23, .ref q25, .ref q27, .null, .null, .int 0, .int 0, .null, .null, .null, .null, .long 0, .long 0, .int 0, .long 0, .long 0, .long 0, .long 0, .int 0, .int 0, .int 0, .int 0, .null, .int 0, .null, .null, .long 0, .null, .int 0, .int 0, .int 0, .null, .null, .null, .null, .null, .null, .int 0])), (q1, .inl (cA2, 200, .inl (fun _ => 0))), (q3, .inl (cA4, 200, .inl (fun _ => 0))), (q5, .inl (cA6, 200, .inl (fun _ => 0))), (q7, .inl (cA8, 200, .inl (fun _ => 0))), (q9, .inl (cA10, 200, .inl (fun _ => 0))), (q11, .inl (cA12, 4, .inl (fun _ => 0))), (q13, .inl (cA14, 4, .inl (fun _ => 0))), (q15, .inl (cA16, 4, .inl (fun _ => 0)))]) [0, 1, 2, 3, 4, 5, 6, 7, 8] rfl
  have hD := hD.sub (ws' := [(h0, .inr (9, [.int 0, .ref q1, .ref q3, .ref q5, .ref q7, .ref q9, .int 0, .int 0, .ref q11, .ref q13, .ref q15, .int 0, .int 0, .int (-1), .int 0, .ref q17, .ref q19, .ref q21, .ref q23, .ref q25, .ref q27, .null, .null, .int 0, .int 0, .null, .null, .null, .null, .long 0, .long 0, .int 0, .long 0, .long 0, .long 0, .long 0, .int 0, .int 0, .int 0, .int 0, .null, .int 0, .null, .null, .long 0, .null, .int 0, .int 0, .int 0, .null, .null, .null, .null, .null, .null, .int 0])), (q1, .inl (cA2, 200, .inl (fun _ => 0))), (q3, .inl (cA4, 200, .inl (fun _ => 0))), (q5, .inl (cA6, 200, .inl (fun _ => 0))), (q7, .inl (cA8, 200, .inl (fun _ => 0))), (q9, .inl (cA10, 200, .inl (fun _ => 0))), (q11, .inl (cA12, 4, .inl (fun _ => 0))), (q13, .inl (cA14, 4, .inl (fun _ => 0))), (q15, .inl (cA16, 4, .inl (fun _ => 0)))]) [0, 1, 2, 3, 4, 5, 6, 7, 8] (by decide) rfl
  have hK := hK.sub (tys' := [(cA2, .int), (cA4, .int), (cA6, .int), (cA8, .int), (cA10, .int), (cA12, .int), (cA14, .int), (cA16, .int)]) [0, 1, 2, 3, 4, 5, 6, 7] rfl
  refine lv_aload_n hx hb d_Mo_init_129 rfl (lv_at hl 0 rfl) ?_
  refine lv_bipush (v := 102) hx hb d_Mo_init_130 (by decide) ?_
  refine va_newa (atype := .int) (a0 := (102, .inl (fun _ => 0))) (ty := .int) hx hb (hts _ mw_73) rfl hK hP hD hS hA (fun _ => rfl) (by decide) (by decide) (by decide) (Nat.le_of_ble_eq_true rfl) (Nat.le_of_ble_eq_true rfl) d_Mo_init_132 (fun q29 cA30 H hK hP hD hS => ?_)
  have hP : va_P (dC, dI) classes [(h0, .inr (9, [.int 0, .ref q1, .ref q3, .ref q5, .ref q7, .ref q9, .int 0, .int 0, .ref q11, .ref q13, .ref q15, .int 0, .int 0, .int (-1), .int 0, .ref q17, .ref q19, .ref q21, .ref q23, .ref q25, .ref q27, .null, .null, .int 0, .int 0, .null, .null, .null, .null, .long 0, .long 0, .int 0, .long 0, .long 0, .long 0, .long 0, .int 0, .int 0, .int 0, .int 0, .null, .int 0, .null, .null, .long 0, .null, .int 0, .int 0, .int 0, .null, .null, .null, .null, .null, .null, .int 0])), (q1, .inl (cA2, 200, .inl (fun _ => 0))), (q3, .inl (cA4, 200, .inl (fun _ => 0))), (q5, .inl (cA6, 200, .inl (fun _ => 0))), (q7, .inl (cA8, 200, .inl (fun _ => 0))), (q9, .inl (cA10, 200, .inl (fun _ => 0))), (q11, .inl (cA12, 4, .inl (fun _ => 0))), (q13, .inl (cA14, 4, .inl (fun _ => 0))), (q15, .inl (cA16, 4, .inl (fun _ => 0))), (q29, .inl (cA30, 102, .inl (fun _ => 0)))] H := hP
  have hD : va_D A [(h0, .inr (9, [.int 0, .ref q1, .ref q3, .ref q5, .ref q7, .ref q9, .int 0, .int 0, .ref q11, .ref q13, .ref q15, .int 0, .int 0, .int (-1), .int 0, .ref q17, .ref q19, .ref q21, .ref q23, .ref q25, .ref q27, .null, .null, .int 0, .int 0, .null, .null, .null, .null, .long 0, .long 0, .int 0, .long 0, .long 0, .long 0, .long 0, .int 0, .int 0, .int 0, .int 0, .null, .int 0, .null, .null, .long 0, .null, .int 0, .int 0, .int 0, .null, .null, .null, .null, .null, .null, .int 0])), (q1, .inl (cA2, 200, .inl (fun _ => 0))), (q3, .inl (cA4, 200, .inl (fun _ => 0))), (q5, .inl (cA6, 200, .inl (fun _ => 0))), (q7, .inl (cA8, 200, .inl (fun _ => 0))), (q9, .inl (cA10, 200, .inl (fun _ => 0))), (q11, .inl (cA12, 4, .inl (fun _ => 0))), (q13, .inl (cA14, 4, .inl (fun _ => 0))), (q15, .inl (cA16, 4, .inl (fun _ => 0))), (q29, .inl (cA30, 102, .inl (fun _ => 0)))] := hD
  have hK : va_K (dC, dI) classes [(cA2, .int), (cA4, .int), (cA6, .int), (cA8, .int), (cA10, .int), (cA12, .int), (cA14, .int), (cA16, .int), (cA30, .int)] s := hK
  refine W.widen (k := 15) (n := 17332) (by omega) (by omega) ?_
  refine va_putF (D := (dC, dI)) (ci := 9) (v := .ref q29) (ty := (.array .int)) (C := R_Mo) (T := F_Mo) (N := 56) hx hb hts i_Mo t_Mo t_Mo_ok n_Mo hown hK hP hD hS 0 rfl rfl 21 (by decide) (hts _ mw_1118) (fun _ h9 => h9) rfl hin rfl (by decide +kernel) rfl rfl (Nat.le_of_ble_eq_true rfl) d_Mo_init_134 (fun H locs hP hD hS => ?_)
  have hP : va_P (dC, dI) classes [(h0, .inr (9, [.int 0, .ref q1, .ref q3, .ref q5, .ref q7, .ref q9, .int 0, .int 0, .ref q11, .ref q13, .ref q15, .int 0, .int 0, .int (-1), .int 0, .ref q17, .ref q19, .ref q21, .ref q23, .ref q25, .ref q27, .ref q29, .null, .int 0, .int 0, .null, .null, .null, .null, .long 0, .long 0, .int 0, .long 0, .long 0, .long 0, .long 0, .int 0, .int 0, .int 0, .int 0, .null, .int 0, .null, .null, .long 0, .null, .int 0, .int 0, .int 0, .null, .null, .null, .null, .null, .null, .int 0])), (q1, .inl (cA2, 200, .inl (fun _ => 0))), (q3, .inl (cA4, 200, .inl (fun _ => 0))), (q5, .inl (cA6, 200, .inl (fun _ => 0))), (q7, .inl (cA8, 200, .inl (fun _ => 0))), (q9, .inl (cA10, 200, .inl (fun _ => 0))), (q11, .inl (cA12, 4, .inl (fun _ => 0))), (q13, .inl (cA14, 4, .inl (fun _ => 0))), (q15, .inl (cA16, 4, .inl (fun _ => 0))), (q29, .inl (cA30, 102, .inl (fun _ => 0)))] H := hP
  have hD : va_D A [(h0, .inr (9, [.int 0, .ref q1, .ref q3, .ref q5, .ref q7, .ref q9, .int 0, .int 0, .ref q11, .ref q13, .ref q15, .int 0, .int 0, .int (-1), .int 0, .ref q17, .ref q19, .ref q21, .ref q23, .ref q25, .ref q27, .ref q29, .null, .int 0, .int 0, .null, .null, .null, .null, .long 0, .long 0, .int 0, .long 0, .long 0, .long 0, .long 0, .int 0, .int 0, .int 0, .int 0, .null, .int 0, .null, .null, .long 0, .null, .int 0, .int 0, .int 0, .null, .null, .null, .null, .null, .null, .int 0])), (q1, .inl (cA2, 200, .inl (fun _ => 0))), (q3, .inl (cA4, 200, .inl (fun _ => 0))), (q5, .inl (cA6, 200, .inl (fun _ => 0))), (q7, .inl (cA8, 200, .inl (fun _ => 0))), (q9, .inl (cA10, 200, .inl (fun _ => 0))), (q11, .inl (cA12, 4, .inl (fun _ => 0))), (q13, .inl (cA14, 4, .inl (fun _ => 0))), (q15, .inl (cA16, 4, .inl (fun _ => 0))), (q29, .inl (cA30, 102, .inl (fun _ => 0)))] := hD
  have hP := hP.sub (ws' := [(h0, .inr (9, [.int 0, .ref q1, .ref q3, .ref q5, .ref q7, .ref q9, .int 0, .int 0, .ref q11, .ref q13, .ref q15, .int 0, .int 0, .int (-1), .int 0, .ref q17, .ref q19, .ref q21, .ref q23, .ref q25, .ref q27, .ref q29, .null, .int 0, .int 0, .null, .null, .null, .null, .long 0, .long 0, .int 0, .long 0, .long 0, .long 0, .long 0, .int 0, .int 0, .int 0, .int 0, .null, .int 0, .null, .null, .long 0, .null, .int 0, .int 0, .int 0, .null, .null, .null, .null, .null, .null, .int 0])), (q1, .inl (cA2, 200, .inl (fun _ => 0))), (q3, .inl (cA4, 200, .inl (fun _ => 0))), (q5, .inl (cA6, 200, .inl (fun _ => 0))), (q7, .inl (cA8, 200, .inl (fun _ => 0))), (q9, .inl (cA10, 200, .inl (fun _ => 0))), (q11, .inl (cA12, 4, .inl (fun _ => 0))), (q13, .inl (cA14, 4, .inl (fun _ => 0))), (q15, .inl (cA16, 4, .inl (fun _ => 0)))]) [0, 1, 2, 3, 4, 5, 6, 7, 8] rfl
  have hD := hD.sub (ws' := [(h0, .inr (9, [.int 0, .ref q1, .ref q3, .ref q5, .ref q7, .ref q9, .int 0, .int 0, .ref q11, .ref q13, .ref q15, .int 0, .int 0, .int (-1), .int 0, .ref q17, .ref q19, .ref q21, .ref q23, .ref q25, .ref q27, .ref q29, .null, .int 0, .int 0, .null, .null, .null, .null, .long 0, .long 0, .int 0, .long 0, .long 0, .long 0, .long 0, .int 0, .int 0, .int 0, .int 0, .null, .int 0, .null, .null, .long 0, .null, .int 0, .int 0, .int 0, .null, .null, .null, .null, .null, .null, .int 0])), (q1, .inl (cA2, 200, .inl (fun _ => 0))), (q3, .inl (cA4, 200, .inl (fun _ => 0))), (q5, .inl (cA6, 200, .inl (fun _ => 0))), (q7, .inl (cA8, 200, .inl (fun _ => 0))), (q9, .inl (cA10, 200, .inl (fun _ => 0))), (q11, .inl (cA12, 4, .inl (fun _ => 0))), (q13, .inl (cA14, 4, .inl (fun _ => 0))), (q15, .inl (cA16, 4, .inl (fun _ => 0)))]) [0, 1, 2, 3, 4, 5, 6, 7, 8] (by decide) rfl
  have hK := hK.sub (tys' := [(cA2, .int), (cA4, .int), (cA6, .int), (cA8, .int), (cA10, .int), (cA12, .int), (cA14, .int), (cA16, .int)]) [0, 1, 2, 3, 4, 5, 6, 7] rfl
  refine lv_aload_n hx hb d_Mo_init_137 rfl (lv_at hl 0 rfl) ?_
  refine lv_bipush (v := 102) hx hb d_Mo_init_138 (by decide) ?_
  refine va_newa (atype := .int) (a0 := (102, .inl (fun _ => 0))) (ty := .int) hx hb (hts _ mw_73) rfl hK hP hD hS hA (fun _ => rfl) (by decide) (by decide) (by decide) (Nat.le_of_ble_eq_true rfl) (Nat.le_of_ble_eq_true rfl) d_Mo_init_140 (fun q31 cA32 H hK hP hD hS => ?_)
  have hP : va_P (dC, dI) classes [(h0, .inr (9, [.int 0, .ref q1, .ref q3, .ref q5, .ref q7, .ref q9, .int 0, .int 0, .ref q11, .ref q13, .ref q15, .int 0, .int 0, .int (-1), .int 0, .ref q17, .ref q19, .ref q21, .ref q23, .ref q25, .ref q27, .ref q29, .null, .int 0, .int 0, .null, .null, .null, .null, .long 0, .long 0, .int 0, .long 0, .long 0, .long 0, .long 0, .int 0, .int 0, .int 0, .int 0, .null, .int 0, .null, .null, .long 0, .null, .int 0, .int 0, .int 0, .null, .null, .null, .null, .null, .null, .int 0])), (q1, .inl (cA2, 200, .inl (fun _ => 0))), (q3, .inl (cA4, 200, .inl (fun _ => 0))), (q5, .inl (cA6, 200, .inl (fun _ => 0))), (q7, .inl (cA8, 200, .inl (fun _ => 0))), (q9, .inl (cA10, 200, .inl (fun _ => 0))), (q11, .inl (cA12, 4, .inl (fun _ => 0))), (q13, .inl (cA14, 4, .inl (fun _ => 0))), (q15, .inl (cA16, 4, .inl (fun _ => 0))), (q31, .inl (cA32, 102, .inl (fun _ => 0)))] H := hP
  have hD : va_D A [(h0, .inr (9, [.int 0, .ref q1, .ref q3, .ref q5, .ref q7, .ref q9, .int 0, .int 0, .ref q11, .ref q13, .ref q15, .int 0, .int 0, .int (-1), .int 0, .ref q17, .ref q19, .ref q21, .ref q23, .ref q25, .ref q27, .ref q29, .null, .int 0, .int 0, .null, .null, .null, .null, .long 0, .long 0, .int 0, .long 0, .long 0, .long 0, .long 0, .int 0, .int 0, .int 0, .int 0, .null, .int 0, .null, .null, .long 0, .null, .int 0, .int 0, .int 0, .null, .null, .null, .null, .null, .null, .int 0])), (q1, .inl (cA2, 200, .inl (fun _ => 0))), (q3, .inl (cA4, 200, .inl (fun _ => 0))), (q5, .inl (cA6, 200, .inl (fun _ => 0))), (q7, .inl (cA8, 200, .inl (fun _ => 0))), (q9, .inl (cA10, 200, .inl (fun _ => 0))), (q11, .inl (cA12, 4, .inl (fun _ => 0))), (q13, .inl (cA14, 4, .inl (fun _ => 0))), (q15, .inl (cA16, 4, .inl (fun _ => 0))), (q31, .inl (cA32, 102, .inl (fun _ => 0)))] := hD
  have hK : va_K (dC, dI) classes [(cA2, .int), (cA4, .int), (cA6, .int), (cA8, .int), (cA10, .int), (cA12, .int), (cA14, .int), (cA16, .int), (cA32, .int)] s := hK
  refine W.widen (k := 16) (n := 17434) (by omega) (by omega) ?_
  refine va_putF (D := (dC, dI)) (ci := 9) (v := .ref q31) (ty := (.array .int)) (C := R_Mo) (T := F_Mo) (N := 56) hx hb hts i_Mo t_Mo t_Mo_ok n_Mo hown hK hP hD hS 0 rfl rfl 22 (by decide) (hts _ mw_1119) (fun _ h9 => h9) rfl hin rfl (by decide +kernel) rfl rfl (Nat.le_of_ble_eq_true rfl) d_Mo_init_142 (fun H locs hP hD hS => ?_)
  have hP : va_P (dC, dI) classes [(h0, .inr (9, [.int 0, .ref q1, .ref q3, .ref q5, .ref q7, .ref q9, .int 0, .int 0, .ref q11, .ref q13, .ref q15, .int 0, .int 0, .int (-1), .int 0, .ref q17, .ref q19, .ref q21, .ref q23, .ref q25, .ref q27, .ref q29, .ref q31, .int 0, .int 0, .null, .null, .null, .null, .long 0, .long 0, .int 0, .long 0, .long 0, .long 0, .long 0, .int 0, .int 0, .int 0, .int 0, .null, .int 0, .null, .null, .long 0, .null, .int 0, .int 0, .int 0, .null, .null, .null, .null, .null, .null, .int 0])), (q1, .inl (cA2, 200, .inl (fun _ => 0))), (q3, .inl (cA4, 200, .inl (fun _ => 0))), (q5, .inl (cA6, 200, .inl (fun _ => 0))), (q7, .inl (cA8, 200, .inl (fun _ => 0))), (q9, .inl (cA10, 200, .inl (fun _ => 0))), (q11, .inl (cA12, 4, .inl (fun _ => 0))), (q13, .inl (cA14, 4, .inl (fun _ => 0))), (q15, .inl (cA16, 4, .inl (fun _ => 0))), (q31, .inl (cA32, 102, .inl (fun _ => 0)))] H := hP
  have hD : va_D A [(h0, .inr (9, [.int 0, .ref q1, .ref q3, .ref q5, .ref q7, .ref q9, .int 0, .int 0, .ref q11, .ref q13, .ref q15, .int 0, .int 0, .int (-1), .int 0, .ref q17, .ref q19, .ref q21, .ref q23, .ref q25, .ref q27, .ref q29, .ref q31, .int 0, .int 0, .null, .null, .null, .null, .long 0, .long 0, .int 0, .long 0, .long 0, .long 0, .long 0, .int 0, .int 0, .int 0, .int 0, .null, .int 0, .null, .null, .long 0, .null, .int 0, .int 0, .int 0, .null, .null, .null, .null, .null, .null, .int 0])), (q1, .inl (cA2, 200, .inl (fun _ => 0))), (q3, .inl (cA4, 200, .inl (fun _ => 0))), (q5, .inl (cA6, 200, .inl (fun _ => 0))), (q7, .inl (cA8, 200, .inl (fun _ => 0))), (q9, .inl (cA10, 200, .inl (fun _ => 0))), (q11, .inl (cA12, 4, .inl (fun _ => 0))), (q13, .inl (cA14, 4, .inl (fun _ => 0))), (q15, .inl (cA16, 4, .inl (fun _ => 0))), (q31, .inl (cA32, 102, .inl (fun _ => 0)))] := hD
  have hP := hP.sub (ws' := [(h0, .inr (9, [.int 0, .ref q1, .ref q3, .ref q5, .ref q7, .ref q9, .int 0, .int 0, .ref q11, .ref q13, .ref q15, .int 0, .int 0, .int (-1), .int 0, .ref q17, .ref q19, .ref q21, .ref q23, .ref q25, .ref q27, .ref q29, .ref q31, .int 0, .int 0, .null, .null, .null, .null, .long 0, .long 0, .int 0, .long 0, .long 0, .long 0, .long 0, .int 0, .int 0, .int 0, .int 0, .null, .int 0, .null, .null, .long 0, .null, .int 0, .int 0, .int 0, .null, .null, .null, .null, .null, .null, .int 0])), (q1, .inl (cA2, 200, .inl (fun _ => 0))), (q3, .inl (cA4, 200, .inl (fun _ => 0))), (q5, .inl (cA6, 200, .inl (fun _ => 0))), (q7, .inl (cA8, 200, .inl (fun _ => 0))), (q9, .inl (cA10, 200, .inl (fun _ => 0))), (q11, .inl (cA12, 4, .inl (fun _ => 0))), (q13, .inl (cA14, 4, .inl (fun _ => 0))), (q15, .inl (cA16, 4, .inl (fun _ => 0)))]) [0, 1, 2, 3, 4, 5, 6, 7, 8] rfl
  have hD := hD.sub (ws' := [(h0, .inr (9, [.int 0, .ref q1, .ref q3, .ref q5, .ref q7, .ref q9, .int 0, .int 0, .ref q11, .ref q13, .ref q15, .int 0, .int 0, .int (-1), .int 0, .ref q17, .ref q19, .ref q21, .ref q23, .ref q25, .ref q27, .ref q29, .ref q31, .int 0, .int 0, .null, .null, .null, .null, .long 0, .long 0, .int 0, .long 0, .long 0, .long 0, .long 0, .int 0, .int 0, .int 0, .int 0, .null, .int 0, .null, .null, .long 0, .null, .int 0, .int 0, .int 0, .null, .null, .null, .null, .null, .null, .int 0])), (q1, .inl (cA2, 200, .inl (fun _ => 0))), (q3, .inl (cA4, 200, .inl (fun _ => 0))), (q5, .inl (cA6, 200, .inl (fun _ => 0))), (q7, .inl (cA8, 200, .inl (fun _ => 0))), (q9, .inl (cA10, 200, .inl (fun _ => 0))), (q11, .inl (cA12, 4, .inl (fun _ => 0))), (q13, .inl (cA14, 4, .inl (fun _ => 0))), (q15, .inl (cA16, 4, .inl (fun _ => 0)))]) [0, 1, 2, 3, 4, 5, 6, 7, 8] (by decide) rfl
  have hK := hK.sub (tys' := [(cA2, .int), (cA4, .int), (cA6, .int), (cA8, .int), (cA10, .int), (cA12, .int), (cA14, .int), (cA16, .int)]) [0, 1, 2, 3, 4, 5, 6, 7] rfl
  refine lv_aload_n hx hb d_Mo_init_145 rfl (lv_at hl 0 rfl) ?_
  refine lv_sipush (v := 200) hx hb d_Mo_init_146 (by decide) ?_
  refine va_newa (atype := .int) (a0 := (200, .inl (fun _ => 0))) (ty := .int) hx hb (hts _ mw_73) rfl hK hP hD hS hA (fun _ => rfl) (by decide) (by decide) (by decide) (Nat.le_of_ble_eq_true rfl) (Nat.le_of_ble_eq_true rfl) d_Mo_init_149 (fun q33 cA34 H hK hP hD hS => ?_)
  have hP : va_P (dC, dI) classes [(h0, .inr (9, [.int 0, .ref q1, .ref q3, .ref q5, .ref q7, .ref q9, .int 0, .int 0, .ref q11, .ref q13, .ref q15, .int 0, .int 0, .int (-1), .int 0, .ref q17, .ref q19, .ref q21, .ref q23, .ref q25, .ref q27, .ref q29, .ref q31, .int 0, .int 0, .null, .null, .null, .null, .long 0, .long 0, .int 0, .long 0, .long 0, .long 0, .long 0, .int 0, .int 0, .int 0, .int 0, .null, .int 0, .null, .null, .long 0, .null, .int 0, .int 0, .int 0, .null, .null, .null, .null, .null, .null, .int 0])), (q1, .inl (cA2, 200, .inl (fun _ => 0))), (q3, .inl (cA4, 200, .inl (fun _ => 0))), (q5, .inl (cA6, 200, .inl (fun _ => 0))), (q7, .inl (cA8, 200, .inl (fun _ => 0))), (q9, .inl (cA10, 200, .inl (fun _ => 0))), (q11, .inl (cA12, 4, .inl (fun _ => 0))), (q13, .inl (cA14, 4, .inl (fun _ => 0))), (q15, .inl (cA16, 4, .inl (fun _ => 0))), (q33, .inl (cA34, 200, .inl (fun _ => 0)))] H := hP
  have hD : va_D A [(h0, .inr (9, [.int 0, .ref q1, .ref q3, .ref q5, .ref q7, .ref q9, .int 0, .int 0, .ref q11, .ref q13, .ref q15, .int 0, .int 0, .int (-1), .int 0, .ref q17, .ref q19, .ref q21, .ref q23, .ref q25, .ref q27, .ref q29, .ref q31, .int 0, .int 0, .null, .null, .null, .null, .long 0, .long 0, .int 0, .long 0, .long 0, .long 0, .long 0, .int 0, .int 0, .int 0, .int 0, .null, .int 0, .null, .null, .long 0, .null, .int 0, .int 0, .int 0, .null, .null, .null, .null, .null, .null, .int 0])), (q1, .inl (cA2, 200, .inl (fun _ => 0))), (q3, .inl (cA4, 200, .inl (fun _ => 0))), (q5, .inl (cA6, 200, .inl (fun _ => 0))), (q7, .inl (cA8, 200, .inl (fun _ => 0))), (q9, .inl (cA10, 200, .inl (fun _ => 0))), (q11, .inl (cA12, 4, .inl (fun _ => 0))), (q13, .inl (cA14, 4, .inl (fun _ => 0))), (q15, .inl (cA16, 4, .inl (fun _ => 0))), (q33, .inl (cA34, 200, .inl (fun _ => 0)))] := hD
  have hK : va_K (dC, dI) classes [(cA2, .int), (cA4, .int), (cA6, .int), (cA8, .int), (cA10, .int), (cA12, .int), (cA14, .int), (cA16, .int), (cA34, .int)] s := hK
  refine W.widen (k := 17) (n := 17634) (by omega) (by omega) ?_
  refine va_putF (D := (dC, dI)) (ci := 9) (v := .ref q33) (ty := (.array .int)) (C := R_Mo) (T := F_Mo) (N := 56) hx hb hts i_Mo t_Mo t_Mo_ok n_Mo hown hK hP hD hS 0 rfl rfl 25 (by decide) (hts _ mw_1122) (fun _ h9 => h9) rfl hin rfl (by decide +kernel) rfl rfl (Nat.le_of_ble_eq_true rfl) d_Mo_init_151 (fun H locs hP hD hS => ?_)
  have hP : va_P (dC, dI) classes [(h0, .inr (9, [.int 0, .ref q1, .ref q3, .ref q5, .ref q7, .ref q9, .int 0, .int 0, .ref q11, .ref q13, .ref q15, .int 0, .int 0, .int (-1), .int 0, .ref q17, .ref q19, .ref q21, .ref q23, .ref q25, .ref q27, .ref q29, .ref q31, .int 0, .int 0, .ref q33, .null, .null, .null, .long 0, .long 0, .int 0, .long 0, .long 0, .long 0, .long 0, .int 0, .int 0, .int 0, .int 0, .null, .int 0, .null, .null, .long 0, .null, .int 0, .int 0, .int 0, .null, .null, .null, .null, .null, .null, .int 0])), (q1, .inl (cA2, 200, .inl (fun _ => 0))), (q3, .inl (cA4, 200, .inl (fun _ => 0))), (q5, .inl (cA6, 200, .inl (fun _ => 0))), (q7, .inl (cA8, 200, .inl (fun _ => 0))), (q9, .inl (cA10, 200, .inl (fun _ => 0))), (q11, .inl (cA12, 4, .inl (fun _ => 0))), (q13, .inl (cA14, 4, .inl (fun _ => 0))), (q15, .inl (cA16, 4, .inl (fun _ => 0))), (q33, .inl (cA34, 200, .inl (fun _ => 0)))] H := hP
  have hD : va_D A [(h0, .inr (9, [.int 0, .ref q1, .ref q3, .ref q5, .ref q7, .ref q9, .int 0, .int 0, .ref q11, .ref q13, .ref q15, .int 0, .int 0, .int (-1), .int 0, .ref q17, .ref q19, .ref q21, .ref q23, .ref q25, .ref q27, .ref q29, .ref q31, .int 0, .int 0, .ref q33, .null, .null, .null, .long 0, .long 0, .int 0, .long 0, .long 0, .long 0, .long 0, .int 0, .int 0, .int 0, .int 0, .null, .int 0, .null, .null, .long 0, .null, .int 0, .int 0, .int 0, .null, .null, .null, .null, .null, .null, .int 0])), (q1, .inl (cA2, 200, .inl (fun _ => 0))), (q3, .inl (cA4, 200, .inl (fun _ => 0))), (q5, .inl (cA6, 200, .inl (fun _ => 0))), (q7, .inl (cA8, 200, .inl (fun _ => 0))), (q9, .inl (cA10, 200, .inl (fun _ => 0))), (q11, .inl (cA12, 4, .inl (fun _ => 0))), (q13, .inl (cA14, 4, .inl (fun _ => 0))), (q15, .inl (cA16, 4, .inl (fun _ => 0))), (q33, .inl (cA34, 200, .inl (fun _ => 0)))] := hD
  have hP := hP.sub (ws' := [(h0, .inr (9, [.int 0, .ref q1, .ref q3, .ref q5, .ref q7, .ref q9, .int 0, .int 0, .ref q11, .ref q13, .ref q15, .int 0, .int 0, .int (-1), .int 0, .ref q17, .ref q19, .ref q21, .ref q23, .ref q25, .ref q27, .ref q29, .ref q31, .int 0, .int 0, .ref q33, .null, .null, .null, .long 0, .long 0, .int 0, .long 0, .long 0, .long 0, .long 0, .int 0, .int 0, .int 0, .int 0, .null, .int 0, .null, .null, .long 0, .null, .int 0, .int 0, .int 0, .null, .null, .null, .null, .null, .null, .int 0])), (q1, .inl (cA2, 200, .inl (fun _ => 0))), (q3, .inl (cA4, 200, .inl (fun _ => 0))), (q5, .inl (cA6, 200, .inl (fun _ => 0))), (q7, .inl (cA8, 200, .inl (fun _ => 0))), (q9, .inl (cA10, 200, .inl (fun _ => 0))), (q11, .inl (cA12, 4, .inl (fun _ => 0))), (q13, .inl (cA14, 4, .inl (fun _ => 0))), (q15, .inl (cA16, 4, .inl (fun _ => 0)))]) [0, 1, 2, 3, 4, 5, 6, 7, 8] rfl
  have hD := hD.sub (ws' := [(h0, .inr (9, [.int 0, .ref q1, .ref q3, .ref q5, .ref q7, .ref q9, .int 0, .int 0, .ref q11, .ref q13, .ref q15, .int 0, .int 0, .int (-1), .int 0, .ref q17, .ref q19, .ref q21, .ref q23, .ref q25, .ref q27, .ref q29, .ref q31, .int 0, .int 0, .ref q33, .null, .null, .null, .long 0, .long 0, .int 0, .long 0, .long 0, .long 0, .long 0, .int 0, .int 0, .int 0, .int 0, .null, .int 0, .null, .null, .long 0, .null, .int 0, .int 0, .int 0, .null, .null, .null, .null, .null, .null, .int 0])), (q1, .inl (cA2, 200, .inl (fun _ => 0))), (q3, .inl (cA4, 200, .inl (fun _ => 0))), (q5, .inl (cA6, 200, .inl (fun _ => 0))), (q7, .inl (cA8, 200, .inl (fun _ => 0))), (q9, .inl (cA10, 200, .inl (fun _ => 0))), (q11, .inl (cA12, 4, .inl (fun _ => 0))), (q13, .inl (cA14, 4, .inl (fun _ => 0))), (q15, .inl (cA16, 4, .inl (fun _ => 0)))]) [0, 1, 2, 3, 4, 5, 6, 7, 8] (by decide) rfl
  have hK := hK.sub (tys' := [(cA2, .int), (cA4, .int), (cA6, .int), (cA8, .int), (cA10, .int), (cA12, .int), (cA14, .int), (cA16, .int)]) [0, 1, 2, 3, 4, 5, 6, 7] rfl
  refine lv_aload_n hx hb d_Mo_init_154 rfl (lv_at hl 0 rfl) ?_
  refine lv_sipush (v := 2200) hx hb d_Mo_init_155 (by decide) ?_
  refine va_newa (atype := .int) (a0 := (2200, .inl (fun _ => 0))) (ty := .int) hx hb (hts _ mw_73) rfl hK hP hD hS hA (fun _ => rfl) (by decide) (by decide) (by decide) (Nat.le_of_ble_eq_true rfl) (Nat.le_of_ble_eq_true rfl) d_Mo_init_158 (fun q35 cA36 H hK hP hD hS => ?_)
  have hP : va_P (dC, dI) classes [(h0, .inr (9, [.int 0, .ref q1, .ref q3, .ref q5, .ref q7, .ref q9, .int 0, .int 0, .ref q11, .ref q13, .ref q15, .int 0, .int 0, .int (-1), .int 0, .ref q17, .ref q19, .ref q21, .ref q23, .ref q25, .ref q27, .ref q29, .ref q31, .int 0, .int 0, .ref q33, .null, .null, .null, .long 0, .long 0, .int 0, .long 0, .long 0, .long 0, .long 0, .int 0, .int 0, .int 0, .int 0, .null, .int 0, .null, .null, .long 0, .null, .int 0, .int 0, .int 0, .null, .null, .null, .null, .null, .null, .int 0])), (q1, .inl (cA2, 200, .inl (fun _ => 0))), (q3, .inl (cA4, 200, .inl (fun _ => 0))), (q5, .inl (cA6, 200, .inl (fun _ => 0))), (q7, .inl (cA8, 200, .inl (fun _ => 0))), (q9, .inl (cA10, 200, .inl (fun _ => 0))), (q11, .inl (cA12, 4, .inl (fun _ => 0))), (q13, .inl (cA14, 4, .inl (fun _ => 0))), (q15, .inl (cA16, 4, .inl (fun _ => 0))), (q35, .inl (cA36, 2200, .inl (fun _ => 0)))] H := hP
  have hD : va_D A [(h0, .inr (9, [.int 0, .ref q1, .ref q3, .ref q5, .ref q7, .ref q9, .int 0, .int 0, .ref q11, .ref q13, .ref q15, .int 0, .int 0, .int (-1), .int 0, .ref q17, .ref q19, .ref q21, .ref q23, .ref q25, .ref q27, .ref q29, .ref q31, .int 0, .int 0, .ref q33, .null, .null, .null, .long 0, .long 0, .int 0, .long 0, .long 0, .long 0, .long 0, .int 0, .int 0, .int 0, .int 0, .null, .int 0, .null, .null, .long 0, .null, .int 0, .int 0, .int 0, .null, .null, .null, .null, .null, .null, .int 0])), (q1, .inl (cA2, 200, .inl (fun _ => 0))), (q3, .inl (cA4, 200, .inl (fun _ => 0))), (q5, .inl (cA6, 200, .inl (fun _ => 0))), (q7, .inl (cA8, 200, .inl (fun _ => 0))), (q9, .inl (cA10, 200, .inl (fun _ => 0))), (q11, .inl (cA12, 4, .inl (fun _ => 0))), (q13, .inl (cA14, 4, .inl (fun _ => 0))), (q15, .inl (cA16, 4, .inl (fun _ => 0))), (q35, .inl (cA36, 2200, .inl (fun _ => 0)))] := hD
  have hK : va_K (dC, dI) classes [(cA2, .int), (cA4, .int), (cA6, .int), (cA8, .int), (cA10, .int), (cA12, .int), (cA14, .int), (cA16, .int), (cA36, .int)] s := hK
  refine W.widen (k := 18) (n := 19834) (by omega) (by omega) ?_
  refine va_putF (D := (dC, dI)) (ci := 9) (v := .ref q35) (ty := (.array .int)) (C := R_Mo) (T := F_Mo) (N := 56) hx hb hts i_Mo t_Mo t_Mo_ok n_Mo hown hK hP hD hS 0 rfl rfl 26 (by decide) (hts _ mw_1123) (fun _ h9 => h9) rfl hin rfl (by decide +kernel) rfl rfl (Nat.le_of_ble_eq_true rfl) d_Mo_init_160 (fun H locs hP hD hS => ?_)
  have hP : va_P (dC, dI) classes [(h0, .inr (9, [.int 0, .ref q1, .ref q3, .ref q5, .ref q7, .ref q9, .int 0, .int 0, .ref q11, .ref q13, .ref q15, .int 0, .int 0, .int (-1), .int 0, .ref q17, .ref q19, .ref q21, .ref q23, .ref q25, .ref q27, .ref q29, .ref q31, .int 0, .int 0, .ref q33, .ref q35, .null, .null, .long 0, .long 0, .int 0, .long 0, .long 0, .long 0, .long 0, .int 0, .int 0, .int 0, .int 0, .null, .int 0, .null, .null, .long 0, .null, .int 0, .int 0, .int 0, .null, .null, .null, .null, .null, .null, .int 0])), (q1, .inl (cA2, 200, .inl (fun _ => 0))), (q3, .inl (cA4, 200, .inl (fun _ => 0))), (q5, .inl (cA6, 200, .inl (fun _ => 0))), (q7, .inl (cA8, 200, .inl (fun _ => 0))), (q9, .inl (cA10, 200, .inl (fun _ => 0))), (q11, .inl (cA12, 4, .inl (fun _ => 0))), (q13, .inl (cA14, 4, .inl (fun _ => 0))), (q15, .inl (cA16, 4, .inl (fun _ => 0))), (q35, .inl (cA36, 2200, .inl (fun _ => 0)))] H := hP
  have hD : va_D A [(h0, .inr (9, [.int 0, .ref q1, .ref q3, .ref q5, .ref q7, .ref q9, .int 0, .int 0, .ref q11, .ref q13, .ref q15, .int 0, .int 0, .int (-1), .int 0, .ref q17, .ref q19, .ref q21, .ref q23, .ref q25, .ref q27, .ref q29, .ref q31, .int 0, .int 0, .ref q33, .ref q35, .null, .null, .long 0, .long 0, .int 0, .long 0, .long 0, .long 0, .long 0, .int 0, .int 0, .int 0, .int 0, .null, .int 0, .null, .null, .long 0, .null, .int 0, .int 0, .int 0, .null, .null, .null, .null, .null, .null, .int 0])), (q1, .inl (cA2, 200, .inl (fun _ => 0))), (q3, .inl (cA4, 200, .inl (fun _ => 0))), (q5, .inl (cA6, 200, .inl (fun _ => 0))), (q7, .inl (cA8, 200, .inl (fun _ => 0))), (q9, .inl (cA10, 200, .inl (fun _ => 0))), (q11, .inl (cA12, 4, .inl (fun _ => 0))), (q13, .inl (cA14, 4, .inl (fun _ => 0))), (q15, .inl (cA16, 4, .inl (fun _ => 0))), (q35, .inl (cA36, 2200, .inl (fun _ => 0)))] := hD
  have hP := hP.sub (ws' := [(h0, .inr (9, [.int 0, .ref q1, .ref q3, .ref q5, .ref q7, .ref q9, .int 0, .int 0, .ref q11, .ref q13, .ref q15, .int 0, .int 0, .int (-1), .int 0, .ref q17, .ref q19, .ref q21, .ref q23, .ref q25, .ref q27, .ref q29, .ref q31, .int 0, .int 0, .ref q33, .ref q35, .null, .null, .long 0, .long 0, .int 0, .long 0, .long 0, .long 0, .long 0, .int 0, .int 0, .int 0, .int 0, .null, .int 0, .null, .null, .long 0, .null, .int 0, .int 0, .int 0, .null, .null, .null, .null, .null, .null, .int 0])), (q1, .inl (cA2, 200, .inl (fun _ => 0))), (q3, .inl (cA4, 200, .inl (fun _ => 0))), (q5, .inl (cA6, 200, .inl (fun _ => 0))), (q7, .inl (cA8, 200, .inl (fun _ => 0))), (q9, .inl (cA10, 200, .inl (fun _ => 0))), (q11, .inl (cA12, 4, .inl (fun _ => 0))), (q13, .inl (cA14, 4, .inl (fun _ => 0))), (q15, .inl (cA16, 4, .inl (fun _ => 0)))]) [0, 1, 2, 3, 4, 5, 6, 7, 8] rfl
  have hD := hD.sub (ws' := [(h0, .inr (9, [.int 0, .ref q1, .ref q3, .ref q5, .ref q7, .ref q9, .int 0, .int 0, .ref q11, .ref q13, .ref q15, .int 0, .int 0, .int (-1), .int 0, .ref q17, .ref q19, .ref q21, .ref q23, .ref q25, .ref q27, .ref q29, .ref q31, .int 0, .int 0, .ref q33, .ref q35, .null, .null, .long 0, .long 0, .int 0, .long 0, .long 0, .long 0, .long 0, .int 0, .int 0, .int 0, .int 0, .null, .int 0, .null, .null, .long 0, .null, .int 0, .int 0, .int 0, .null, .null, .null, .null, .null, .null, .int 0])), (q1, .inl (cA2, 200, .inl (fun _ => 0))), (q3, .inl (cA4, 200, .inl (fun _ => 0))), (q5, .inl (cA6, 200, .inl (fun _ => 0))), (q7, .inl (cA8, 200, .inl (fun _ => 0))), (q9, .inl (cA10, 200, .inl (fun _ => 0))), (q11, .inl (cA12, 4, .inl (fun _ => 0))), (q13, .inl (cA14, 4, .inl (fun _ => 0))), (q15, .inl (cA16, 4, .inl (fun _ => 0)))]) [0, 1, 2, 3, 4, 5, 6, 7, 8] (by decide) rfl
  have hK := hK.sub (tys' := [(cA2, .int), (cA4, .int), (cA6, .int), (cA8, .int), (cA10, .int), (cA12, .int), (cA14, .int), (cA16, .int)]) [0, 1, 2, 3, 4, 5, 6, 7] rfl
  refine lv_aload_n hx hb d_Mo_init_163 rfl (lv_at hl 0 rfl) ?_
  refine lv_sipush (v := 2200) hx hb d_Mo_init_164 (by decide) ?_
  refine va_newa (atype := .long) (a0 := (2200, .inr (.inl (fun _ => 0)))) (ty := .long) hx hb (hts _ mw_165) rfl hK hP hD hS hA (fun _ => rfl) (by decide) (by decide) (by decide) (Nat.le_of_ble_eq_true rfl) (Nat.le_of_ble_eq_true rfl) d_Mo_init_167 (fun q37 cA38 H hK hP hD hS => ?_)
  have hP : va_P (dC, dI) classes [(h0, .inr (9, [.int 0, .ref q1, .ref q3, .ref q5, .ref q7, .ref q9, .int 0, .int 0, .ref q11, .ref q13, .ref q15, .int 0, .int 0, .int (-1), .int 0, .ref q17, .ref q19, .ref q21, .ref q23, .ref q25, .ref q27, .ref q29, .ref q31, .int 0, .int 0, .ref q33, .ref q35, .null, .null, .long 0, .long 0, .int 0, .long 0, .long 0, .long 0, .long 0, .int 0, .int 0, .int 0, .int 0, .null, .int 0, .null, .null, .long 0, .null, .int 0, .int 0, .int 0, .null, .null, .null, .null, .null, .null, .int 0])), (q1, .inl (cA2, 200, .inl (fun _ => 0))), (q3, .inl (cA4, 200, .inl (fun _ => 0))), (q5, .inl (cA6, 200, .inl (fun _ => 0))), (q7, .inl (cA8, 200, .inl (fun _ => 0))), (q9, .inl (cA10, 200, .inl (fun _ => 0))), (q11, .inl (cA12, 4, .inl (fun _ => 0))), (q13, .inl (cA14, 4, .inl (fun _ => 0))), (q15, .inl (cA16, 4, .inl (fun _ => 0))), (q37, .inl (cA38, 2200, .inr (.inl (fun _ => 0))))] H := hP
  have hD : va_D A [(h0, .inr (9, [.int 0, .ref q1, .ref q3, .ref q5, .ref q7, .ref q9, .int 0, .int 0, .ref q11, .ref q13, .ref q15, .int 0, .int 0, .int (-1), .int 0, .ref q17, .ref q19, .ref q21, .ref q23, .ref q25, .ref q27, .ref q29, .ref q31, .int 0, .int 0, .ref q33, .ref q35, .null, .null, .long 0, .long 0, .int 0, .long 0, .long 0, .long 0, .long 0, .int 0, .int 0, .int 0, .int 0, .null, .int 0, .null, .null, .long 0, .null, .int 0, .int 0, .int 0, .null, .null, .null, .null, .null, .null, .int 0])), (q1, .inl (cA2, 200, .inl (fun _ => 0))), (q3, .inl (cA4, 200, .inl (fun _ => 0))), (q5, .inl (cA6, 200, .inl (fun _ => 0))), (q7, .inl (cA8, 200, .inl (fun _ => 0))), (q9, .inl (cA10, 200, .inl (fun _ => 0))), (q11, .inl (cA12, 4, .inl (fun _ => 0))), (q13, .inl (cA14, 4, .inl (fun _ => 0))), (q15, .inl (cA16, 4, .inl (fun _ => 0))), (q37, .inl (cA38, 2200, .inr (.inl (fun _ => 0))))] := hD
  have hK : va_K (dC, dI) classes [(cA2, .int), (cA4, .int), (cA6, .int), (cA8, .int), (cA10, .int), (cA12, .int), (cA14, .int), (cA16, .int), (cA38, .long)] s := hK
  refine W.widen (k := 19) (n := 22034) (by omega) (by omega) ?_
  refine va_putF (D := (dC, dI)) (ci := 9) (v := .ref q37) (ty := (.array .long)) (C := R_Mo) (T := F_Mo) (N := 56) hx hb hts i_Mo t_Mo t_Mo_ok n_Mo hown hK hP hD hS 0 rfl rfl 27 (by decide) (hts _ mw_1124) (fun _ h9 => h9) rfl hin rfl (by decide +kernel) rfl rfl (Nat.le_of_ble_eq_true rfl) d_Mo_init_169 (fun H locs hP hD hS => ?_)
  have hP : va_P (dC, dI) classes [(h0, .inr (9, [.int 0, .ref q1, .ref q3, .ref q5, .ref q7, .ref q9, .int 0, .int 0, .ref q11, .ref q13, .ref q15, .int 0, .int 0, .int (-1), .int 0, .ref q17, .ref q19, .ref q21, .ref q23, .ref q25, .ref q27, .ref q29, .ref q31, .int 0, .int 0, .ref q33, .ref q35, .ref q37, .null, .long 0, .long 0, .int 0, .long 0, .long 0, .long 0, .long 0, .int 0, .int 0, .int 0, .int 0, .null, .int 0, .null, .null, .long 0, .null, .int 0, .int 0, .int 0, .null, .null, .null, .null, .null, .null, .int 0])), (q1, .inl (cA2, 200, .inl (fun _ => 0))), (q3, .inl (cA4, 200, .inl (fun _ => 0))), (q5, .inl (cA6, 200, .inl (fun _ => 0))), (q7, .inl (cA8, 200, .inl (fun _ => 0))), (q9, .inl (cA10, 200, .inl (fun _ => 0))), (q11, .inl (cA12, 4, .inl (fun _ => 0))), (q13, .inl (cA14, 4, .inl (fun _ => 0))), (q15, .inl (cA16, 4, .inl (fun _ => 0))), (q37, .inl (cA38, 2200, .inr (.inl (fun _ => 0))))] H := hP
  have hD : va_D A [(h0, .inr (9, [.int 0, .ref q1, .ref q3, .ref q5, .ref q7, .ref q9, .int 0, .int 0, .ref q11, .ref q13, .ref q15, .int 0, .int 0, .int (-1), .int 0, .ref q17, .ref q19, .ref q21, .ref q23, .ref q25, .ref q27, .ref q29, .ref q31, .int 0, .int 0, .ref q33, .ref q35, .ref q37, .null, .long 0, .long 0, .int 0, .long 0, .long 0, .long 0, .long 0, .int 0, .int 0, .int 0, .int 0, .null, .int 0, .null, .null, .long 0, .null, .int 0, .int 0, .int 0, .null, .null, .null, .null, .null, .null, .int 0])), (q1, .inl (cA2, 200, .inl (fun _ => 0))), (q3, .inl (cA4, 200, .inl (fun _ => 0))), (q5, .inl (cA6, 200, .inl (fun _ => 0))), (q7, .inl (cA8, 200, .inl (fun _ => 0))), (q9, .inl (cA10, 200, .inl (fun _ => 0))), (q11, .inl (cA12, 4, .inl (fun _ => 0))), (q13, .inl (cA14, 4, .inl (fun _ => 0))), (q15, .inl (cA16, 4, .inl (fun _ => 0))), (q37, .inl (cA38, 2200, .inr (.inl (fun _ => 0))))] := hD
  have hP := hP.sub (ws' := [(h0, .inr (9, [.int 0, .ref q1, .ref q3, .ref q5, .ref q7, .ref q9, .int 0, .int 0, .ref q11, .ref q13, .ref q15, .int 0, .int 0, .int (-1), .int 0, .ref q17, .ref q19, .ref q21, .ref q23, .ref q25, .ref q27, .ref q29, .ref q31, .int 0, .int 0, .ref q33, .ref q35, .ref q37, .null, .long 0, .long 0, .int 0, .long 0, .long 0, .long 0, .long 0, .int 0, .int 0, .int 0, .int 0, .null, .int 0, .null, .null, .long 0, .null, .int 0, .int 0, .int 0, .null, .null, .null, .null, .null, .null, .int 0])), (q1, .inl (cA2, 200, .inl (fun _ => 0))), (q3, .inl (cA4, 200, .inl (fun _ => 0))), (q5, .inl (cA6, 200, .inl (fun _ => 0))), (q7, .inl (cA8, 200, .inl (fun _ => 0))), (q9, .inl (cA10, 200, .inl (fun _ => 0))), (q11, .inl (cA12, 4, .inl (fun _ => 0))), (q13, .inl (cA14, 4, .inl (fun _ => 0))), (q15, .inl (cA16, 4, .inl (fun _ => 0)))]) [0, 1, 2, 3, 4, 5, 6, 7, 8] rfl
  have hD := hD.sub (ws' := [(h0, .inr (9, [.int 0, .ref q1, .ref q3, .ref q5, .ref q7, .ref q9, .int 0, .int 0, .ref q11, .ref q13, .ref q15, .int 0, .int 0, .int (-1), .int 0, .ref q17, .ref q19, .ref q21, .ref q23, .ref q25, .ref q27, .ref q29, .ref q31, .int 0, .int 0, .ref q33, .ref q35, .ref q37, .null, .long 0, .long 0, .int 0, .long 0, .long 0, .long 0, .long 0, .int 0, .int 0, .int 0, .int 0, .null, .int 0, .null, .null, .long 0, .null, .int 0, .int 0, .int 0, .null, .null, .null, .null, .null, .null, .int 0])), (q1, .inl (cA2, 200, .inl (fun _ => 0))), (q3, .inl (cA4, 200, .inl (fun _ => 0))), (q5, .inl (cA6, 200, .inl (fun _ => 0))), (q7, .inl (cA8, 200, .inl (fun _ => 0))), (q9, .inl (cA10, 200, .inl (fun _ => 0))), (q11, .inl (cA12, 4, .inl (fun _ => 0))), (q13, .inl (cA14, 4, .inl (fun _ => 0))), (q15, .inl (cA16, 4, .inl (fun _ => 0)))]) [0, 1, 2, 3, 4, 5, 6, 7, 8] (by decide) rfl
  have hK := hK.sub (tys' := [(cA2, .int), (cA4, .int), (cA6, .int), (cA8, .int), (cA10, .int), (cA12, .int), (cA14, .int), (cA16, .int)]) [0, 1, 2, 3, 4, 5, 6, 7] rfl
  refine lv_aload_n hx hb d_Mo_init_172 rfl (lv_at hl 0 rfl) ?_
  refine lv_sipush (v := 2200) hx hb d_Mo_init_173 (by decide) ?_
  refine va_newa (atype := .long) (a0 := (2200, .inr (.inl (fun _ => 0)))) (ty := .long) hx hb (hts _ mw_165) rfl hK hP hD hS hA (fun _ => rfl) (by decide) (by decide) (by decide) (Nat.le_of_ble_eq_true rfl) (Nat.le_of_ble_eq_true rfl) d_Mo_init_176 (fun q39 cA40 H hK hP hD hS => ?_)
  have hP : va_P (dC, dI) classes [(h0, .inr (9, [.int 0, .ref q1, .ref q3, .ref q5, .ref q7, .ref q9, .int 0, .int 0, .ref q11, .ref q13, .ref q15, .int 0, .int 0, .int (-1), .int 0, .ref q17, .ref q19, .ref q21, .ref q23, .ref q25, .ref q27, .ref q29, .ref q31, .int 0, .int 0, .ref q33, .ref q35, .ref q37, .null, .long 0, .long 0, .int 0, .long 0, .long 0, .long 0, .long 0, .int 0, .int 0, .int 0, .int 0, .null, .int 0, .null, .null, .long 0, .null, .int 0, .int 0, .int 0, .null, .null, .null, .null, .null, .null, .int 0])), (q1, .inl (cA2, 200, .inl (fun _ => 0))), (q3, .inl (cA4, 200, .inl (fun _ => 0))), (q5, .inl (cA6, 200, .inl (fun _ => 0))), (q7, .inl (cA8, 200, .inl (fun _ => 0))), (q9, .inl (cA10, 200, .inl (fun _ => 0))), (q11, .inl (cA12, 4, .inl (fun _ => 0))), (q13, .inl (cA14, 4, .inl (fun _ => 0))), (q15, .inl (cA16, 4, .inl (fun _ => 0))), (q39, .inl (cA40, 2200, .inr (.inl (fun _ => 0))))] H := hP
  have hD : va_D A [(h0, .inr (9, [.int 0, .ref q1, .ref q3, .ref q5, .ref q7, .ref q9, .int 0, .int 0, .ref q11, .ref q13, .ref q15, .int 0, .int 0, .int (-1), .int 0, .ref q17, .ref q19, .ref q21, .ref q23, .ref q25, .ref q27, .ref q29, .ref q31, .int 0, .int 0, .ref q33, .ref q35, .ref q37, .null, .long 0, .long 0, .int 0, .long 0, .long 0, .long 0, .long 0, .int 0, .int 0, .int 0, .int 0, .null, .int 0, .null, .null, .long 0, .null, .int 0, .int 0, .int 0, .null, .null, .null, .null, .null, .null, .int 0])), (q1, .inl (cA2, 200, .inl (fun _ => 0))), (q3, .inl (cA4, 200, .inl (fun _ => 0))), (q5, .inl (cA6, 200, .inl (fun _ => 0))), (q7, .inl (cA8, 200, .inl (fun _ => 0))), (q9, .inl (cA10, 200, .inl (fun _ => 0))), (q11, .inl (cA12, 4, .inl (fun _ => 0))), (q13, .inl (cA14, 4, .inl (fun _ => 0))), (q15, .inl (cA16, 4, .inl (fun _ => 0))), (q39, .inl (cA40, 2200, .inr (.inl (fun _ => 0))))] := hD
  have hK : va_K (dC, dI) classes [(cA2, .int), (cA4, .int), (cA6, .int), (cA8, .int), (cA10, .int), (cA12, .int), (cA14, .int), (cA16, .int), (cA40, .long)] s := hK
  refine W.widen (k := 20) (n := 24234) (by omega) (by omega) ?_
  refine va_putF (D := (dC, dI)) (ci := 9) (v := .ref q39) (ty := (.array .long)) (C := R_Mo) (T := F_Mo) (N := 56) hx hb hts i_Mo t_Mo t_Mo_ok n_Mo hown hK hP hD hS 0 rfl rfl 28 (by decide) (hts _ mw_1125) (fun _ h9 => h9) rfl hin rfl (by decide +kernel) rfl rfl (Nat.le_of_ble_eq_true rfl) d_Mo_init_178 (fun H locs hP hD hS => ?_)
  have hP : va_P (dC, dI) classes [(h0, .inr (9, [.int 0, .ref q1, .ref q3, .ref q5, .ref q7, .ref q9, .int 0, .int 0, .ref q11, .ref q13, .ref q15, .int 0, .int 0, .int (-1), .int 0, .ref q17, .ref q19, .ref q21, .ref q23, .ref q25, .ref q27, .ref q29, .ref q31, .int 0, .int 0, .ref q33, .ref q35, .ref q37, .ref q39, .long 0, .long 0, .int 0, .long 0, .long 0, .long 0, .long 0, .int 0, .int 0, .int 0, .int 0, .null, .int 0, .null, .null, .long 0, .null, .int 0, .int 0, .int 0, .null, .null, .null, .null, .null, .null, .int 0])), (q1, .inl (cA2, 200, .inl (fun _ => 0))), (q3, .inl (cA4, 200, .inl (fun _ => 0))), (q5, .inl (cA6, 200, .inl (fun _ => 0))), (q7, .inl (cA8, 200, .inl (fun _ => 0))), (q9, .inl (cA10, 200, .inl (fun _ => 0))), (q11, .inl (cA12, 4, .inl (fun _ => 0))), (q13, .inl (cA14, 4, .inl (fun _ => 0))), (q15, .inl (cA16, 4, .inl (fun _ => 0))), (q39, .inl (cA40, 2200, .inr (.inl (fun _ => 0))))] H := hP
  have hD : va_D A [(h0, .inr (9, [.int 0, .ref q1, .ref q3, .ref q5, .ref q7, .ref q9, .int 0, .int 0, .ref q11, .ref q13, .ref q15, .int 0, .int 0, .int (-1), .int 0, .ref q17, .ref q19, .ref q21, .ref q23, .ref q25, .ref q27, .ref q29, .ref q31, .int 0, .int 0, .ref q33, .ref q35, .ref q37, .ref q39, .long 0, .long 0, .int 0, .long 0, .long 0, .long 0, .long 0, .int 0, .int 0, .int 0, .int 0, .null, .int 0, .null, .null, .long 0, .null, .int 0, .int 0, .int 0, .null, .null, .null, .null, .null, .null, .int 0])), (q1, .inl (cA2, 200, .inl (fun _ => 0))), (q3, .inl (cA4, 200, .inl (fun _ => 0))), (q5, .inl (cA6, 200, .inl (fun _ => 0))), (q7, .inl (cA8, 200, .inl (fun _ => 0))), (q9, .inl (cA10, 200, .inl (fun _ => 0))), (q11, .inl (cA12, 4, .inl (fun _ => 0))), (q13, .inl (cA14, 4, .inl (fun _ => 0))), (q15, .inl (cA16, 4, .inl (fun _ => 0))), (q39, .inl (cA40, 2200, .inr (.inl (fun _ => 0))))] := hD
  have hP := hP.sub (ws' := [(h0, .inr (9, [.int 0, .ref q1, .ref q3, .ref q5, .ref q7, .ref q9, .int 0, .int 0, .ref q11, .ref q13, .ref q15, .int 0, .int 0, .int (-1), .int 0, .ref q17, .ref q19, .ref q21, .ref q23, .ref q25, .ref q27, .ref q29, .ref q31, .int 0, .int 0, .ref q33, .ref q35, .ref q37, .ref q39, .long 0, .long 0, .int 0, .long 0, .long 0, .long 0, .long 0, .int 0, .int 0, .int 0, .int 0, .null, .int 0, .null, .null, .long 0, .null, .int 0, .int 0, .int 0, .null, .null, .null, .null, .null, .null, .int 0])), (q1, .inl (cA2, 200, .inl (fun _ => 0))), (q3, .inl (cA4, 200, .inl (fun _ => 0))), (q5, .inl (cA6, 200, .inl (fun _ => 0))), (q7, .inl (cA8, 200, .inl (fun _ => 0))), (q9, .inl (cA10, 200, .inl (fun _ => 0))), (q11, .inl (cA12, 4, .inl (fun _ => 0))), (q13, .inl (cA14, 4, .inl (fun _ => 0))), (q15, .inl (cA16, 4, .inl (fun _ => 0)))]) [0, 1, 2, 3, 4, 5, 6, 7, 8] rfl
  have hD := hD.sub (ws' := [(h0, .inr (9, [.int 0, .ref q1, .ref q3, .ref q5, .ref q7, .ref q9, .int 0, .int 0, .ref q11, .ref q13, .ref q15, .int 0, .int 0, .int (-1), .int 0, .ref q17, .ref q19, .ref q21, .ref q23, .ref q25, .ref q27, .ref q29, .ref q31, .int 0, .int 0, .ref q33, .ref q35, .ref q37, .ref q39, .long 0, .long 0, .int 0, .long 0, .long 0, .long 0, .long 0, .int 0, .int 0, .int 0, .int 0, .null, .int 0, .null, .null, .long 0, .null, .int 0, .int 0, .int 0, .null, .null, .null, .null, .null, .null, .int 0])), (q1, .inl (cA2, 200, .inl (fun _ => 0))), (q3, .inl (cA4, 200, .inl (fun _ => 0))), (q5, .inl (cA6, 200, .inl (fun _ => 0))), (q7, .inl (cA8, 200, .inl (fun _ => 0))), (q9, .inl (cA10, 200, .inl (fun _ => 0))), (q11, .inl (cA12, 4, .inl (fun _ => 0))), (q13, .inl (cA14, 4, .inl (fun _ => 0))), (q15, .inl (cA16, 4, .inl (fun _ => 0)))]) [0, 1, 2, 3, 4, 5, 6, 7, 8] (by decide) rfl
  have hK := hK.sub (tys' := [(cA2, .int), (cA4, .int), (cA6, .int), (cA8, .int), (cA10, .int), (cA12, .int), (cA14, .int), (cA16, .int)]) [0, 1, 2, 3, 4, 5, 6, 7] rfl
  refine lv_aload_n hx hb d_Mo_init_181 rfl (lv_at hl 0 rfl) ?_
  refine lv_sipush (v := 400) hx hb d_Mo_init_182 (by decide) ?_
  refine va_newa (atype := .byte) (a0 := (400, .inl (fun _ => 0))) (ty := .byte) hx hb (hts _ mw_117) rfl hK hP hD hS hA (fun _ => rfl) (by decide) (by decide) (by decide) (Nat.le_of_ble_eq_true rfl) (Nat.le_of_ble_eq_true rfl) d_Mo_init_185 (fun q41 cA42 H hK hP hD hS => ?_)
  have hP : va_P (dC, dI) classes [(h0, .inr (9, [.int 0, .ref q1, .ref q3, .ref q5, .ref q7, .ref q9, .int 0, .int 0, .ref q11, .ref q13, .ref q15, .int 0, .int 0, .int (-1), .int 0, .ref q17, .ref q19, .ref q21, .ref q23, .ref q25, .ref q27, .ref q29, .ref q31, .int 0, .int 0, .ref q33, .ref q35, .ref q37, .ref q39, .long 0, .long 0, .int 0, .long 0, .long 0, .long 0, .long 0, .int 0, .int 0, .int 0, .int 0, .null, .int 0, .null, .null, .long 0, .null, .int 0, .int 0, .int 0, .null, .null, .null, .null, .null, .null, .int 0])), (q1, .inl (cA2, 200, .inl (fun _ => 0))), (q3, .inl (cA4, 200, .inl (fun _ => 0))), (q5, .inl (cA6, 200, .inl (fun _ => 0))), (q7, .inl (cA8, 200, .inl (fun _ => 0))), (q9, .inl (cA10, 200, .inl (fun _ => 0))), (q11, .inl (cA12, 4, .inl (fun _ => 0))), (q13, .inl (cA14, 4, .inl (fun _ => 0))), (q15, .inl (cA16, 4, .inl (fun _ => 0))), (q41, .inl (cA42, 400, .inl (fun _ => 0)))] H := hP
  have hD : va_D A [(h0, .inr (9, [.int 0, .ref q1, .ref q3, .ref q5, .ref q7, .ref q9, .int 0, .int 0, .ref q11, .ref q13, .ref q15, .int 0, .int 0, .int (-1), .int 0, .ref q17, .ref q19, .ref q21, .ref q23, .ref q25, .ref q27, .ref q29, .ref q31, .int 0, .int 0, .ref q33, .ref q35, .ref q37, .ref q39, .long 0, .long 0, .int 0, .long 0, .long 0, .long 0, .long 0, .int 0, .int 0, .int 0, .int 0, .null, .int 0, .null, .null, .long 0, .null, .int 0, .int 0, .int 0, .null, .null, .null, .null, .null, .null, .int 0])), (q1, .inl (cA2, 200, .inl (fun _ => 0))), (q3, .inl (cA4, 200, .inl (fun _ => 0))), (q5, .inl (cA6, 200, .inl (fun _ => 0))), (q7, .inl (cA8, 200, .inl (fun _ => 0))), (q9, .inl (cA10, 200, .inl (fun _ => 0))), (q11, .inl (cA12, 4, .inl (fun _ => 0))), (q13, .inl (cA14, 4, .inl (fun _ => 0))), (q15, .inl (cA16, 4, .inl (fun _ => 0))), (q41, .inl (cA42, 400, .inl (fun _ => 0)))] := hD
  have hK : va_K (dC, dI) classes [(cA2, .int), (cA4, .int), (cA6, .int), (cA8, .int), (cA10, .int), (cA12, .int), (cA14, .int), (cA16, .int), (cA42, .byte)] s := hK
  refine W.widen (k := 21) (n := 24634) (by omega) (by omega) ?_
  refine va_putF (D := (dC, dI)) (ci := 9) (v := .ref q41) (ty := (.array .byte)) (C := R_Mo) (T := F_Mo) (N := 56) hx hb hts i_Mo t_Mo t_Mo_ok n_Mo hown hK hP hD hS 0 rfl rfl 40 (by decide) (hts _ mw_1137) (fun _ h9 => h9) rfl hin rfl (by decide +kernel) rfl rfl (Nat.le_of_ble_eq_true rfl) d_Mo_init_187 (fun H locs hP hD hS => ?_)
  have hP : va_P (dC, dI) classes [(h0, .inr (9, [.int 0, .ref q1, .ref q3, .ref q5, .ref q7, .ref q9, .int 0, .int 0, .ref q11, .ref q13, .ref q15, .int 0, .int 0, .int (-1), .int 0, .ref q17, .ref q19, .ref q21, .ref q23, .ref q25, .ref q27, .ref q29, .ref q31, .int 0, .int 0, .ref q33, .ref q35, .ref q37, .ref q39, .long 0, .long 0, .int 0, .long 0, .long 0, .long 0, .long 0, .int 0, .int 0, .int 0, .int 0, .ref q41, .int 0, .null, .null, .long 0, .null, .int 0, .int 0, .int 0, .null, .null, .null, .null, .null, .null, .int 0])), (q1, .inl (cA2, 200, .inl (fun _ => 0))), (q3, .inl (cA4, 200, .inl (fun _ => 0))), (q5, .inl (cA6, 200, .inl (fun _ => 0))), (q7, .inl (cA8, 200, .inl (fun _ => 0))), (q9, .inl (cA10, 200, .inl (fun _ => 0))), (q11, .inl (cA12, 4, .inl (fun _ => 0))), (q13, .inl (cA14, 4, .inl (fun _ => 0))), (q15, .inl (cA16, 4, .inl (fun _ => 0))), (q41, .inl (cA42, 400, .inl (fun _ => 0)))] H := hP
  have hD : va_D A [(h0, .inr (9, [.int 0, .ref q1, .ref q3, .ref q5, .ref q7, .ref q9, .int 0, .int 0, .ref q11, .ref q13, .ref q15, .int 0, .int 0, .int (-1), .int 0, .ref q17, .ref q19, .ref q21, .ref q23, .ref q25, .ref q27, .ref q29, .ref q31, .int 0, .int 0, .ref q33, .ref q35, .ref q37, .ref q39, .long 0, .long 0, .int 0, .long 0, .long 0, .long 0, .long 0, .int 0, .int 0, .int 0, .int 0, .ref q41, .int 0, .null, .null, .long 0, .null, .int 0, .int 0, .int 0, .null, .null, .null, .null, .null, .null, .int 0])), (q1, .inl (cA2, 200, .inl (fun _ => 0))), (q3, .inl (cA4, 200, .inl (fun _ => 0))), (q5, .inl (cA6, 200, .inl (fun _ => 0))), (q7, .inl (cA8, 200, .inl (fun _ => 0))), (q9, .inl (cA10, 200, .inl (fun _ => 0))), (q11, .inl (cA12, 4, .inl (fun _ => 0))), (q13, .inl (cA14, 4, .inl (fun _ => 0))), (q15, .inl (cA16, 4, .inl (fun _ => 0))), (q41, .inl (cA42, 400, .inl (fun _ => 0)))] := hD
  refine lv_aload_n hx hb d_Mo_init_190 rfl (lv_at hl 0 rfl) ?_
  refine lv_sipush (v := 4608) hx hb d_Mo_init_191 (by decide) ?_
  refine va_newa (atype := .byte) (a0 := (4608, .inl (fun _ => 0))) (ty := .byte) hx hb (hts _ mw_117) rfl hK hP hD hS hA (fun _ => rfl) (by decide) (by decide) (by decide) (Nat.le_of_ble_eq_true rfl) (Nat.le_of_ble_eq_true rfl) d_Mo_init_194 (fun q43 cA44 H hK hP hD hS => ?_)
  have hP : va_P (dC, dI) classes [(h0, .inr (9, [.int 0, .ref q1, .ref q3, .ref q5, .ref q7, .ref q9, .int 0, .int 0, .ref q11, .ref q13, .ref q15, .int 0, .int 0, .int (-1), .int 0, .ref q17, .ref q19, .ref q21, .ref q23, .ref q25, .ref q27, .ref q29, .ref q31, .int 0, .int 0, .ref q33, .ref q35, .ref q37, .ref q39, .long 0, .long 0, .int 0, .long 0, .long 0, .long 0, .long 0, .int 0, .int 0, .int 0, .int 0, .ref q41, .int 0, .null, .null, .long 0, .null, .int 0, .int 0, .int 0, .null, .null, .null, .null, .null, .null, .int 0])), (q1, .inl (cA2, 200, .inl (fun _ => 0))), (q3, .inl (cA4, 200, .inl (fun _ => 0))), (q5, .inl (cA6, 200, .inl (fun _ => 0))), (q7, .inl (cA8, 200, .inl (fun _ => 0))), (q9, .inl (cA10, 200, .inl (fun _ => 0))), (q11, .inl (cA12, 4, .inl (fun _ => 0))), (q13, .inl (cA14, 4, .inl (fun _ => 0))), (q15, .inl (cA16, 4, .inl (fun _ => 0))), (q41, .inl (cA42, 400, .inl (fun _ => 0))), (q43, .inl (cA44, 4608, .inl (fun _ => 0)))] H := hP
  have hD : va_D A [(h0, .inr (9, [.int 0, .ref q1, .ref q3, .ref q5, .ref q7, .ref q9, .int 0, .int 0, .ref q11, .ref q13, .ref q15, .int 0, .int 0, .int (-1), .int 0, .ref q17, .ref q19, .ref q21, .ref q23, .ref q25, .ref q27, .ref q29, .ref q31, .int 0, .int 0, .ref q33, .ref q35, .ref q37, .ref q39, .long 0, .long 0, .int 0, .long 0, .long 0, .long 0, .long 0, .int 0, .int 0, .int 0, .int 0, .ref q41, .int 0, .null, .null, .long 0, .null, .int 0, .int 0, .int 0, .null, .null, .null, .null, .null, .null, .int 0])), (q1, .inl (cA2, 200, .inl (fun _ => 0))), (q3, .inl (cA4, 200, .inl (fun _ => 0))), (q5, .inl (cA6, 200, .inl (fun _ => 0))), (q7, .inl (cA8, 200, .inl (fun _ => 0))), (q9, .inl (cA10, 200, .inl (fun _ => 0))), (q11, .inl (cA12, 4, .inl (fun _ => 0))), (q13, .inl (cA14, 4, .inl (fun _ => 0))), (q15, .inl (cA16, 4, .inl (fun _ => 0))), (q41, .inl (cA42, 400, .inl (fun _ => 0))), (q43, .inl (cA44, 4608, .inl (fun _ => 0)))] := hD
  have hK : va_K (dC, dI) classes [(cA2, .int), (cA4, .int), (cA6, .int), (cA8, .int), (cA10, .int), (cA12, .int), (cA14, .int), (cA16, .int), (cA42, .byte), (cA44, .byte)] s := hK
  refine W.widen (k := 22) (n := 29242) (by omega) (by omega) ?_
  refine va_putF (D := (dC, dI)) (ci := 9) (v := .ref q43) (ty := (.array .byte)) (C := R_Mo) (T := F_Mo) (N := 56) hx hb hts i_Mo t_Mo t_Mo_ok n_Mo hown hK hP hD hS 0 rfl rfl 42 (by decide) (hts _ mw_1139) (fun _ h9 => h9) rfl hin rfl (by decide +kernel) rfl rfl (Nat.le_of_ble_eq_true rfl) d_Mo_init_196 (fun H locs hP hD hS => ?_)
  have hP : va_P (dC, dI) classes [(h0, .inr (9, [.int 0, .ref q1, .ref q3, .ref q5, .ref q7, .ref q9, .int 0, .int 0, .ref q11, .ref q13, .ref q15, .int 0, .int 0, .int (-1), .int 0, .ref q17, .ref q19, .ref q21, .ref q23, .ref q25, .ref q27, .ref q29, .ref q31, .int 0, .int 0, .ref q33, .ref q35, .ref q37, .ref q39, .long 0, .long 0, .int 0, .long 0, .long 0, .long 0, .long 0, .int 0, .int 0, .int 0, .int 0, .ref q41, .int 0, .ref q43, .null, .long 0, .null, .int 0, .int 0, .int 0, .null, .null, .null, .null, .null, .null, .int 0])), (q1, .inl (cA2, 200, .inl (fun _ => 0))), (q3, .inl (cA4, 200, .inl (fun _ => 0))), (q5, .inl (cA6, 200, .inl (fun _ => 0))), (q7, .inl (cA8, 200, .inl (fun _ => 0))), (q9, .inl (cA10, 200, .inl (fun _ => 0))), (q11, .inl (cA12, 4, .inl (fun _ => 0))), (q13, .inl (cA14, 4, .inl (fun _ => 0))), (q15, .inl (cA16, 4, .inl (fun _ => 0))), (q41, .inl (cA42, 400, .inl (fun _ => 0))), (q43, .inl (cA44, 4608, .inl (fun _ => 0)))] H := hP
  have hD : va_D A [(h0, .inr (9, [.int 0, .ref q1, .ref q3, .ref q5, .ref q7, .ref q9, .int 0, .int 0, .ref q11, .ref q13, .ref q15, .int 0, .int 0, .int (-1), .int 0, .ref q17, .ref q19, .ref q21, .ref q23, .ref q25, .ref q27, .ref q29, .ref q31, .int 0, .int 0, .ref q33, .ref q35, .ref q37, .ref q39, .long 0, .long 0, .int 0, .long 0, .long 0, .long 0, .long 0, .int 0, .int 0, .int 0, .int 0, .ref q41, .int 0, .ref q43, .null, .long 0, .null, .int 0, .int 0, .int 0, .null, .null, .null, .null, .null, .null, .int 0])), (q1, .inl (cA2, 200, .inl (fun _ => 0))), (q3, .inl (cA4, 200, .inl (fun _ => 0))), (q5, .inl (cA6, 200, .inl (fun _ => 0))), (q7, .inl (cA8, 200, .inl (fun _ => 0))), (q9, .inl (cA10, 200, .inl (fun _ => 0))), (q11, .inl (cA12, 4, .inl (fun _ => 0))), (q13, .inl (cA14, 4, .inl (fun _ => 0))), (q15, .inl (cA16, 4, .inl (fun _ => 0))), (q41, .inl (cA42, 400, .inl (fun _ => 0))), (q43, .inl (cA44, 4608, .inl (fun _ => 0)))] := hD
  refine lv_aload_n hx hb d_Mo_init_199 rfl (lv_at hl 0 rfl) ?_
  refine lv_bipush (v := 64) hx hb d_Mo_init_200 (by decide) ?_
  refine va_newa (atype := .boolean) (a0 := (64, .inl (fun _ => 0))) (ty := .boolean) hx hb (hts _ mw_118) rfl hK hP hD hS hA (fun _ => rfl) (by decide) (by decide) (by decide) (Nat.le_of_ble_eq_true rfl) (Nat.le_of_ble_eq_true rfl) d_Mo_init_202 (fun q45 cA46 H hK hP hD hS => ?_)
  have hP : va_P (dC, dI) classes [(h0, .inr (9, [.int 0, .ref q1, .ref q3, .ref q5, .ref q7, .ref q9, .int 0, .int 0, .ref q11, .ref q13, .ref q15, .int 0, .int 0, .int (-1), .int 0, .ref q17, .ref q19, .ref q21, .ref q23, .ref q25, .ref q27, .ref q29, .ref q31, .int 0, .int 0, .ref q33, .ref q35, .ref q37, .ref q39, .long 0, .long 0, .int 0, .long 0, .long 0, .long 0, .long 0, .int 0, .int 0, .int 0, .int 0, .ref q41, .int 0, .ref q43, .null, .long 0, .null, .int 0, .int 0, .int 0, .null, .null, .null, .null, .null, .null, .int 0])), (q1, .inl (cA2, 200, .inl (fun _ => 0))), (q3, .inl (cA4, 200, .inl (fun _ => 0))), (q5, .inl (cA6, 200, .inl (fun _ => 0))), (q7, .inl (cA8, 200, .inl (fun _ => 0))), (q9, .inl (cA10, 200, .inl (fun _ => 0))), (q11, .inl (cA12, 4, .inl (fun _ => 0))), (q13, .inl (cA14, 4, .inl (fun _ => 0))), (q15, .inl (cA16, 4, .inl (fun _ => 0))), (q41, .inl (cA42, 400, .inl (fun _ => 0))), (q43, .inl (cA44, 4608, .inl (fun _ => 0))), (q45, .inl (cA46, 64, .inl (fun _ => 0)))] H := hP
  have hD : va_D A [(h0, .inr (9, [.int 0, .ref q1, .ref q3, .ref q5, .ref q7, .ref q9, .int 0, .int 0, .ref q11, .ref q13, .ref q15, .int 0, .int 0, .int (-1), .int 0, .ref q17, .ref q19, .ref q21, .ref q23, .ref q25, .ref q27, .ref q29, .ref q31, .int 0, .int 0, .ref q33, .ref q35, .ref q37, .ref q39, .long 0, .long 0, .int 0, .long 0, .long 0, .long 0, .long 0, .int 0, .int 0, .int 0, .int 0, .ref q41, .int 0, .ref q43, .null, .long 0, .null, .int 0, .int 0, .int 0, .null, .null, .null, .null, .null, .null, .int 0])), (q1, .inl (cA2, 200, .inl (fun _ => 0))), (q3, .inl (cA4, 200, .inl (fun _ => 0))), (q5, .inl (cA6, 200, .inl (fun _ => 0))), (q7, .inl (cA8, 200, .inl (fun _ => 0))), (q9, .inl (cA10, 200, .inl (fun _ => 0))), (q11, .inl (cA12, 4, .inl (fun _ => 0))), (q13, .inl (cA14, 4, .inl (fun _ => 0))), (q15, .inl (cA16, 4, .inl (fun _ => 0))), (q41, .inl (cA42, 400, .inl (fun _ => 0))), (q43, .inl (cA44, 4608, .inl (fun _ => 0))), (q45, .inl (cA46, 64, .inl (fun _ => 0)))] := hD
  have hK : va_K (dC, dI) classes [(cA2, .int), (cA4, .int), (cA6, .int), (cA8, .int), (cA10, .int), (cA12, .int), (cA14, .int), (cA16, .int), (cA42, .byte), (cA44, .byte), (cA46, .boolean)] s := hK
  refine W.widen (k := 23) (n := 29306) (by omega) (by omega) ?_
  refine va_putF (D := (dC, dI)) (ci := 9) (v := .ref q45) (ty := (.array .boolean)) (C := R_Mo) (T := F_Mo) (N := 56) hx hb hts i_Mo t_Mo t_Mo_ok n_Mo hown hK hP hD hS 0 rfl rfl 43 (by decide) (hts _ mw_1140) (fun _ h9 => h9) rfl hin rfl (by decide +kernel) rfl rfl (Nat.le_of_ble_eq_true rfl) d_Mo_init_204 (fun H locs hP hD hS => ?_)
  have hP : va_P (dC, dI) classes [(h0, .inr (9, [.int 0, .ref q1, .ref q3, .ref q5, .ref q7, .ref q9, .int 0, .int 0, .ref q11, .ref q13, .ref q15, .int 0, .int 0, .int (-1), .int 0, .ref q17, .ref q19, .ref q21, .ref q23, .ref q25, .ref q27, .ref q29, .ref q31, .int 0, .int 0, .ref q33, .ref q35, .ref q37, .ref q39, .long 0, .long 0, .int 0, .long 0, .long 0, .long 0, .long 0, .int 0, .int 0, .int 0, .int 0, .ref q41, .int 0, .ref q43, .ref q45, .long 0, .null, .int 0, .int 0, .int 0, .null, .null, .null, .null, .null, .null, .int 0])), (q1, .inl (cA2, 200, .inl (fun _ => 0))), (q3, .inl (cA4, 200, .inl (fun _ => 0))), (q5, .inl (cA6, 200, .inl (fun _ => 0))), (q7, .inl (cA8, 200, .inl (fun _ => 0))), (q9, .inl (cA10, 200, .inl (fun _ => 0))), (q11, .inl (cA12, 4, .inl (fun _ => 0))), (q13, .inl (cA14, 4, .inl (fun _ => 0))), (q15, .inl (cA16, 4, .inl (fun _ => 0))), (q41, .inl (cA42, 400, .inl (fun _ => 0))), (q43, .inl (cA44, 4608, .inl (fun _ => 0))), (q45, .inl (cA46, 64, .inl (fun _ => 0)))] H := hP
  have hD : va_D A [(h0, .inr (9, [.int 0, .ref q1, .ref q3, .ref q5, .ref q7, .ref q9, .int 0, .int 0, .ref q11, .ref q13, .ref q15, .int 0, .int 0, .int (-1), .int 0, .ref q17, .ref q19, .ref q21, .ref q23, .ref q25, .ref q27, .ref q29, .ref q31, .int 0, .int 0, .ref q33, .ref q35, .ref q37, .ref q39, .long 0, .long 0, .int 0, .long 0, .long 0, .long 0, .long 0, .int 0, .int 0, .int 0, .int 0, .ref q41, .int 0, .ref q43, .ref q45, .long 0, .null, .int 0, .int 0, .int 0, .null, .null, .null, .null, .null, .null, .int 0])), (q1, .inl (cA2, 200, .inl (fun _ => 0))), (q3, .inl (cA4, 200, .inl (fun _ => 0))), (q5, .inl (cA6, 200, .inl (fun _ => 0))), (q7, .inl (cA8, 200, .inl (fun _ => 0))), (q9, .inl (cA10, 200, .inl (fun _ => 0))), (q11, .inl (cA12, 4, .inl (fun _ => 0))), (q13, .inl (cA14, 4, .inl (fun _ => 0))), (q15, .inl (cA16, 4, .inl (fun _ => 0))), (q41, .inl (cA42, 400, .inl (fun _ => 0))), (q43, .inl (cA44, 4608, .inl (fun _ => 0))), (q45, .inl (cA46, 64, .inl (fun _ => 0)))] := hD
  refine lv_aload_n hx hb d_Mo_init_207 rfl (lv_at hl 0 rfl) ?_
  refine lv_bipush (v := 100) hx hb d_Mo_init_208 (by decide) ?_
  refine va_newa (atype := .long) (a0 := (100, .inr (.inl (fun _ => 0)))) (ty := .long) hx hb (hts _ mw_165) rfl hK hP hD hS hA (fun _ => rfl) (by decide) (by decide) (by decide) (Nat.le_of_ble_eq_true rfl) (Nat.le_of_ble_eq_true rfl) d_Mo_init_210 (fun q47 cA48 H hK hP hD hS => ?_)
  have hP : va_P (dC, dI) classes [(h0, .inr (9, [.int 0, .ref q1, .ref q3, .ref q5, .ref q7, .ref q9, .int 0, .int 0, .ref q11, .ref q13, .ref q15, .int 0, .int 0, .int (-1), .int 0, .ref q17, .ref q19, .ref q21, .ref q23, .ref q25, .ref q27, .ref q29, .ref q31, .int 0, .int 0, .ref q33, .ref q35, .ref q37, .ref q39, .long 0, .long 0, .int 0, .long 0, .long 0, .long 0, .long 0, .int 0, .int 0, .int 0, .int 0, .ref q41, .int 0, .ref q43, .ref q45, .long 0, .null, .int 0, .int 0, .int 0, .null, .null, .null, .null, .null, .null, .int 0])), (q1, .inl (cA2, 200, .inl (fun _ => 0))), (q3, .inl (cA4, 200, .inl (fun _ => 0))), (q5, .inl (cA6, 200, .inl (fun _ => 0))), (q7, .inl (cA8, 200, .inl (fun _ => 0))), (q9, .inl (cA10, 200, .inl (fun _ => 0))), (q11, .inl (cA12, 4, .inl (fun _ => 0))), (q13, .inl (cA14, 4, .inl (fun _ => 0))), (q15, .inl (cA16, 4, .inl (fun _ => 0))), (q41, .inl (cA42, 400, .inl (fun _ => 0))), (q43, .inl (cA44, 4608, .inl (fun _ => 0))), (q45, .inl (cA46, 64, .inl (fun _ => 0))), (q47, .inl (cA48, 100, .inr (.inl (fun _ => 0))))] H := hP
  have hD : va_D A [(h0, .inr (9, [.int 0, .ref q1, .ref q3, .ref q5, .ref q7, .ref q9, .int 0, .int 0, .ref q11, .ref q13, .ref q15, .int 0, .int 0, .int (-1), .int 0, .ref q17, .ref q19, .ref q21, .ref q23, .ref q25, .ref q27, .ref q29, .ref q31, .int 0, .int 0, .ref q33, .ref q35, .ref q37, .ref q39, .long 0, .long 0, .int 0, .long 0, .long 0, .long 0, .long 0, .int 0, .int 0, .int 0, .int 0, .ref q41, .int 0, .ref q43, .ref q45, .long 0, .null, .int 0, .int 0, .int 0, .null, .null, .null, .null, .null, .null, .int 0])), (q1, .inl (cA2, 200, .inl (fun _ => 0))), (q3, .inl (cA4, 200, .inl (fun _ => 0))), (q5, .inl (cA6, 200, .inl (fun _ => 0))), (q7, .inl (cA8, 200, .inl (fun _ => 0))), (q9, .inl (cA10, 200, .inl (fun _ => 0))), (q11, .inl (cA12, 4, .inl (fun _ => 0))), (q13, .inl (cA14, 4, .inl (fun _ => 0))), (q15, .inl (cA16, 4, .inl (fun _ => 0))), (q41, .inl (cA42, 400, .inl (fun _ => 0))), (q43, .inl (cA44, 4608, .inl (fun _ => 0))), (q45, .inl (cA46, 64, .inl (fun _ => 0))), (q47, .inl (cA48, 100, .inr (.inl (fun _ => 0))))] := hD
  have hK : va_K (dC, dI) classes [(cA2, .int), (cA4, .int), (cA6, .int), (cA8, .int), (cA10, .int), (cA12, .int), (cA14, .int), (cA16, .int), (cA42, .byte), (cA44, .byte), (cA46, .boolean), (cA48, .long)] s := hK
  refine W.widen (k := 24) (n := 29406) (by omega) (by omega) ?_
  refine va_putF (D := (dC, dI)) (ci := 9) (v := .ref q47) (ty := (.array .long)) (C := R_Mo) (T := F_Mo) (N := 56) hx hb hts i_Mo t_Mo t_Mo_ok n_Mo hown hK hP hD hS 0 rfl rfl 45 (by decide) (hts _ mw_1142) (fun _ h9 => h9) rfl hin rfl (by decide +kernel) rfl rfl (Nat.le_of_ble_eq_true rfl) d_Mo_init_212 (fun H locs hP hD hS => ?_)
  have hP : va_P (dC, dI) classes [(h0, .inr (9, [.int 0, .ref q1, .ref q3, .ref q5, .ref q7, .ref q9, .int 0, .int 0, .ref q11, .ref q13, .ref q15, .int 0, .int 0, .int (-1), .int 0, .ref q17, .ref q19, .ref q21, .ref q23, .ref q25, .ref q27, .ref q29, .ref q31, .int 0, .int 0, .ref q33, .ref q35, .ref q37, .ref q39, .long 0, .long 0, .int 0, .long 0, .long 0, .long 0, .long 0, .int 0, .int 0, .int 0, .int 0, .ref q41, .int 0, .ref q43, .ref q45, .long 0, .ref q47, .int 0, .int 0, .int 0, .null, .null, .null, .null, .null, .null, .int 0])), (q1, .inl (cA2, 200, .inl (fun _ => 0))), (q3, .inl (cA4, 200, .inl (fun _ => 0))), (q5, .inl (cA6, 200, .inl (fun _ => 0))), (q7, .inl (cA8, 200, .inl (fun _ => 0))), (q9, .inl (cA10, 200, .inl (fun _ => 0))), (q11, .inl (cA12, 4, .inl (fun _ => 0))), (q13, .inl (cA14, 4, .inl (fun _ => 0))), (q15, .inl (cA16, 4, .inl (fun _ => 0))), (q41, .inl (cA42, 400, .inl (fun _ => 0))), (q43, .inl (cA44, 4608, .inl (fun _ => 0))), (q45, .inl (cA46, 64, .inl (fun _ => 0))), (q47, .inl (cA48, 100, .inr (.inl (fun _ => 0))))] H := hP
  have hD : va_D A [(h0, .inr (9, [.int 0, .ref q1, .ref q3, .ref q5, .ref q7, .ref q9, .int 0, .int 0, .ref q11, .ref q13, .ref q15, .int 0, .int 0, .int (-1), .int 0, .ref q17, .ref q19, .ref q21, .ref q23, .ref q25, .ref q27, .ref q29, .ref q31, .int 0, .int 0, .ref q33, .ref q35, .ref q37, .ref q39, .long 0, .long 0, .int 0, .long 0, .long 0, .long 0, .long 0, .int 0, .int 0, .int 0, .int 0, .ref q41, .int 0, .ref q43, .ref q45, .long 0, .ref q47, .int 0, .int 0, .int 0, .null, .null, .null, .null, .null, .null, .int 0])), (q1, .inl (cA2, 200, .inl (fun _ => 0))), (q3, .inl (cA4, 200, .inl (fun _ => 0))), (q5, .inl (cA6, 200, .inl (fun _ => 0))), (q7, .inl (cA8, 200, .inl (fun _ => 0))), (q9, .inl (cA10, 200, .inl (fun _ => 0))), (q11, .inl (cA12, 4, .inl (fun _ => 0))), (q13, .inl (cA14, 4, .inl (fun _ => 0))), (q15, .inl (cA16, 4, .inl (fun _ => 0))), (q41, .inl (cA42, 400, .inl (fun _ => 0))), (q43, .inl (cA44, 4608, .inl (fun _ => 0))), (q45, .inl (cA46, 64, .inl (fun _ => 0))), (q47, .inl (cA48, 100, .inr (.inl (fun _ => 0))))] := hD
  have hP := hP.sub (ws' := [(h0, .inr (9, [.int 0, .ref q1, .ref q3, .ref q5, .ref q7, .ref q9, .int 0, .int 0, .ref q11, .ref q13, .ref q15, .int 0, .int 0, .int (-1), .int 0, .ref q17, .ref q19, .ref q21, .ref q23, .ref q25, .ref q27, .ref q29, .ref q31, .int 0, .int 0, .ref q33, .ref q35, .ref q37, .ref q39, .long 0, .long 0, .int 0, .long 0, .long 0, .long 0, .long 0, .int 0, .int 0, .int 0, .int 0, .ref q41, .int 0, .ref q43, .ref q45, .long 0, .ref q47, .int 0, .int 0, .int 0, .null, .null, .null, .null, .null, .null, .int 0])), (q1, .inl (cA2, 200, .inl (fun _ => 0))), (q3, .inl (cA4, 200, .inl (fun _ => 0))), (q5, .inl (cA6, 200, .inl (fun _ => 0))), (q7, .inl (cA8, 200, .inl (fun _ => 0))), (q9, .inl (cA10, 200, .inl (fun _ => 0))), (q11, .inl (cA12, 4, .inl (fun _ => 0))), (q13, .inl (cA14, 4, .inl (fun _ => 0))), (q15, .inl (cA16, 4, .inl (fun _ => 0))), (q41, .inl (cA42, 400, .inl (fun _ => 0))), (q43, .inl (cA44, 4608, .inl (fun _ => 0))), (q45, .inl (cA46, 64, .inl (fun _ => 0)))]) [0, 1, 2, 3, 4, 5, 6, 7, 8, 9, 10, 11] rfl
  have hD := hD.sub (ws' := [(h0, .inr (9, [.int 0, .ref q1, .ref q3, .ref q5, .ref q7, .ref q9, .int 0, .int 0, .ref q11, .ref q13, .ref q15, .int 0, .int 0, .int (-1), .int 0, .ref q17, .ref q19, .ref q21, .ref q23, .ref q25, .ref q27, .ref q29, .ref q31, .int 0, .int 0, .ref q33, .ref q35, .ref q37, .ref q39, .long 0, .long 0, .int 0, .long 0, .long 0, .long 0, .long 0, .int 0, .int 0, .int 0, .int 0, .ref q41, .int 0, .ref q43, .ref q45, .long 0, .ref q47, .int 0, .int 0, .int 0, .null, .null, .null, .null, .null, .null, .int 0])), (q1, .inl (cA2, 200, .inl (fun _ => 0))), (q3, .inl (cA4, 200, .inl (fun _ => 0))), (q5, .inl (cA6, 200, .inl (fun _ => 0))), (q7, .inl (cA8, 200, .inl (fun _ => 0))), (q9, .inl (cA10, 200, .inl (fun _ => 0))), (q11, .inl (cA12, 4, .inl (fun _ => 0))), (q13, .inl (cA14, 4, .inl (fun _ => 0))), (q15, .inl (cA16, 4, .inl (fun _ => 0))), (q41, .inl (cA42, 400, .inl (fun _ => 0))), (q43, .inl (cA44, 4608, .inl (fun _ => 0))), (q45, .inl (cA46, 64, .inl (fun _ => 0)))]) [0, 1, 2, 3, 4, 5, 6, 7, 8, 9, 10, 11] (by decide) rfl
  have hK := hK.sub (tys' := [(cA2, .int), (cA4, .int), (cA6, .int), (cA8, .int), (cA10, .int), (cA12, .int), (cA14, .int), (cA16, .int), (cA42, .byte), (cA44, .byte), (cA46, .boolean)]) [0, 1, 2, 3, 4, 5, 6, 7, 8, 9, 10] rfl
  refine lv_aload_n hx hb d_Mo_init_215 rfl (lv_at hl 0 rfl) ?_
  refine lv_bipush (v := 19) hx hb d_Mo_init_216 (by decide) ?_
  refine va_newa (atype := .int) (a0 := (19, .inl (fun _ => 0))) (ty := .int) hx hb (hts _ mw_73) rfl hK hP hD hS hA (fun _ => rfl) (by decide) (by decide) (by decide) (Nat.le_of_ble_eq_true rfl) (Nat.le_of_ble_eq_true rfl) d_Mo_init_218 (fun q49 cA50 H hK hP hD hS => ?_)
  have hP : va_P (dC, dI) classes [(h0, .inr (9, [.int 0, .ref q1, .ref q3, .ref q5, .ref q7, .ref q9, .int 0, .int 0, .ref q11, .ref q13, .ref q15, .int 0, .int 0, .int (-1), .int 0, .ref q17, .ref q19, .ref q21, .ref q23, .ref q25, .ref q27, .ref q29, .ref q31, .int 0, .int 0, .ref q33, .ref q35, .ref q37, .ref q39, .long 0, .long 0, .int 0, .long 0, .long 0, .long 0, .long 0, .int 0, .int 0, .int 0, .int 0, .ref q41, .int 0, .ref q43, .ref q45, .long 0, .ref q47, .int 0, .int 0, .int 0, .null, .null, .null, .null, .null, .null, .int 0])), (q1, .inl (cA2, 200, .inl (fun _ => 0))), (q3, .inl (cA4, 200, .inl (fun _ => 0))), (q5, .inl (cA6, 200, .inl (fun _ => 0))), (q7, .inl (cA8, 200, .inl (fun _ => 0))), (q9, .inl (cA10, 200, .inl (fun _ => 0))), (q11, .inl (cA12, 4, .inl (fun _ => 0))), (q13, .inl (cA14, 4, .inl (fun _ => 0))), (q15, .inl (cA16, 4, .inl (fun _ => 0))), (q41, .inl (cA42, 400, .inl (fun _ => 0))), (q43, .inl (cA44, 4608, .inl (fun _ => 0))), (q45, .inl (cA46, 64, .inl (fun _ => 0))), (q49, .inl (cA50, 19, .inl (fun _ => 0)))] H := hP
  have hD : va_D A [(h0, .inr (9, [.int 0, .ref q1, .ref q3, .ref q5, .ref q7, .ref q9, .int 0, .int 0, .ref q11, .ref q13, .ref q15, .int 0, .int 0, .int (-1), .int 0, .ref q17, .ref q19, .ref q21, .ref q23, .ref q25, .ref q27, .ref q29, .ref q31, .int 0, .int 0, .ref q33, .ref q35, .ref q37, .ref q39, .long 0, .long 0, .int 0, .long 0, .long 0, .long 0, .long 0, .int 0, .int 0, .int 0, .int 0, .ref q41, .int 0, .ref q43, .ref q45, .long 0, .ref q47, .int 0, .int 0, .int 0, .null, .null, .null, .null, .null, .null, .int 0])), (q1, .inl (cA2, 200, .inl (fun _ => 0))), (q3, .inl (cA4, 200, .inl (fun _ => 0))), (q5, .inl (cA6, 200, .inl (fun _ => 0))), (q7, .inl (cA8, 200, .inl (fun _ => 0))), (q9, .inl (cA10, 200, .inl (fun _ => 0))), (q11, .inl (cA12, 4, .inl (fun _ => 0))), (q13, .inl (cA14, 4, .inl (fun _ => 0))), (q15, .inl (cA16, 4, .inl (fun _ => 0))), (q41, .inl (cA42, 400, .inl (fun _ => 0))), (q43, .inl (cA44, 4608, .inl (fun _ => 0))), (q45, .inl (cA46, 64, .inl (fun _ => 0))), (q49, .inl (cA50, 19, .inl (fun _ => 0)))] := hD
  have hK : va_K (dC, dI) classes [(cA2, .int), (cA4, .int), (cA6, .int), (cA8, .int), (cA10, .int), (cA12, .int), (cA14, .int), (cA16, .int), (cA42, .byte), (cA44, .byte), (cA46, .boolean), (cA50, .int)] s := hK
  refine W.widen (k := 25) (n := 29425) (by omega) (by omega) ?_
  refine va_putF (D := (dC, dI)) (ci := 9) (v := .ref q49) (ty := (.array .int)) (C := R_Mo) (T := F_Mo) (N := 56) hx hb hts i_Mo t_Mo t_Mo_ok n_Mo hown hK hP hD hS 0 rfl rfl 49 (by decide) (hts _ mw_1146) (fun _ h9 => h9) rfl hin rfl (by decide +kernel) rfl rfl (Nat.le_of_ble_eq_true rfl) d_Mo_init_220 (fun H locs hP hD hS => ?_)
  have hP : va_P (dC, dI) classes [(h0, .inr (9, [.int 0, .ref q1, .ref q3, .ref q5, .ref q7, .ref q9, .int 0, .int 0, .ref q11, .ref q13, .ref q15, .int 0, .int 0, .int (-1), .int 0, .ref q17, .ref q19, .ref q21, .ref q23, .ref q25, .ref q27, .ref q29, .ref q31, .int 0, .int 0, .ref q33, .ref q35, .ref q37, .ref q39, .long 0, .long 0, .int 0, .long 0, .long 0, .long 0, .long 0, .int 0, .int 0, .int 0, .int 0, .ref q41, .int 0, .ref q43, .ref q45, .long 0, .ref q47, .int 0, .int 0, .int 0, .ref q49, .null, .null, .null, .null, .null, .int 0])), (q1, .inl (cA2, 200, .inl (fun _ => 0))), (q3, .inl (cA4, 200, .inl (fun _ => 0))), (q5, .inl (cA6, 200, .inl (fun _ => 0))), (q7, .inl (cA8, 200, .inl (fun _ => 0))), (q9, .inl (cA10, 200, .inl (fun _ => 0))), (q11, .inl (cA12, 4, .inl (fun _ => 0))), (q13, .inl (cA14, 4, .inl (fun _ => 0))), (q15, .inl (cA16, 4, .inl (fun _ => 0))), (q41, .inl (cA42, 400, .inl (fun _ => 0))), (q43, .inl (cA44, 4608, .inl (fun _ => 0))), (q45, .inl (cA46, 64, .inl (fun _ => 0))), (q49, .inl (cA50, 19, .inl (fun _ => 0)))] H := hP
  have hD : va_D A [(h0, .inr (9, [.int 0, .ref q1, .ref q3, .ref q5, .ref q7, .ref q9, .int 0, .int 0, .ref q11, .ref q13, .ref q15, .int 0, .int 0, .int (-1), .int 0, .ref q17, .ref q19, .ref q21, .ref q23, .ref q25, .ref q27, .ref q29, .ref q31, .int 0, .int 0, .ref q33, .ref q35, .ref q37, .ref q39, .long 0, .long 0, .int 0, .long 0, .long 0, .long 0, .long 0, .int 0, .int 0, .int 0, .int 0, .ref q41, .int 0, .ref q43, .ref q45, .long 0, .ref q47, .int 0, .int 0, .int 0, .ref q49, .null, .null, .null, .null, .null, .int 0])), (q1, .inl (cA2, 200, .inl (fun _ => 0))), (q3, .inl (cA4, 200, .inl (fun _ => 0))), (q5, .inl (cA6, 200, .inl (fun _ => 0))), (q7, .inl (cA8, 200, .inl (fun _ => 0))), (q9, .inl (cA10, 200, .inl (fun _ => 0))), (q11, .inl (cA12, 4, .inl (fun _ => 0))), (q13, .inl (cA14, 4, .inl (fun _ => 0))), (q15, .inl (cA16, 4, .inl (fun _ => 0))), (q41, .inl (cA42, 400, .inl (fun _ => 0))), (q43, .inl (cA44, 4608, .inl (fun _ => 0))), (q45, .inl (cA46, 64, .inl (fun _ => 0))), (q49, .inl (cA50, 19, .inl (fun _ => 0)))] := hD
  have hP := hP.sub (ws' := [(h0, .inr (9, [.int 0, .ref q1, .ref q3, .ref q5, .ref q7, .ref q9, .int 0, .int 0, .ref q11, .ref q13, .ref q15, .int 0, .int 0, .int (-1), .int 0, .ref q17, .ref q19, .ref q21, .ref q23, .ref q25, .ref q27, .ref q29, .ref q31, .int 0, .int 0, .ref q33, .ref q35, .ref q37, .ref q39, .long 0, .long 0, .int 0, .long 0, .long 0, .long 0, .long 0, .int 0, .int 0, .int 0, .int 0, .ref q41, .int 0, .ref q43, .ref q45, .long 0, .ref q47, .int 0, .int 0, .int 0, .ref q49, .null, .null, .null, .null, .null, .int 0])), (q1, .inl (cA2, 200, .inl (fun _ => 0))), (q3, .inl (cA4, 200, .inl (fun _ => 0))), (q5, .inl (cA6, 200, .inl (fun _ => 0))), (q7, .inl (cA8, 200, .inl (fun _ => 0))), (q9, .inl (cA10, 200, .inl (fun _ => 0))), (q11, .inl (cA12, 4, .inl (fun _ => 0))), (q13, .inl (cA14, 4, .inl (fun _ => 0))), (q15, .inl (cA16, 4, .inl (fun _ => 0))), (q41, .inl (cA42, 400, .inl (fun _ => 0))), (q43, .inl (cA44, 4608, .inl (fun _ => 0))), (q45, .inl (cA46, 64, .inl (fun _ => 0)))]) [0, 1, 2, 3, 4, 5, 6, 7, 8, 9, 10, 11] rfl
  have hD := hD.sub (ws' := [(h0, .inr (9, [.int 0, .ref q1, .ref q3, .ref q5, .ref q7, .ref q9, .int 0, .int 0, .ref q11, .ref q13, .ref q15, .int 0, .int 0, .int (-1), .int 0, .ref q17, .ref q19, .ref q21, .ref q23, .ref q25, .ref q27, .ref q29, .ref q31, .int 0, .int 0, .ref q33, .ref q35, .ref q37, .ref q39, .long 0, .long 0, .int 0, .long 0, .long 0, .long 0, .long 0, .int 0, .int 0, .int 0, .int 0, .ref q41, .int 0, .ref q43, .ref q45, .long 0, .ref q47, .int 0, .int 0, .int 0, .ref q49, .null, .null, .null, .null, .null, .int 0])), (q1, .inl (cA2, 200, .inl (fun _ => 0))), (q3, .inl (cA4, 200, .inl (fun _ => 0))), (q5, .inl (cA6, 200, .inl (fun _ => 0))), (q7, .inl (cA8, 200, .inl (fun _ => 0))), (q9, .inl (cA10, 200, .inl (fun _ => 0))), (q11, .inl (cA12, 4, .inl (fun _ => 0))), (q13, .inl (cA14, 4, .inl (fun _ => 0))), (q15, .inl (cA16, 4, .inl (fun _ => 0))), (q41, .inl (cA42, 400, .inl (fun _ => 0))), (q43, .inl (cA44, 4608, .inl (fun _ => 0))), (q45, .inl (cA46, 64, .inl (fun _ => 0)))]) [0, 1, 2, 3, 4, 5, 6, 7, 8, 9, 10, 11] (by decide) rfl
  have hK := hK.sub (tys' := [(cA2, .int), (cA4, .int), (cA6, .int), (cA8, .int), (cA10, .int), (cA12, .int), (cA14, .int), (cA16, .int), (cA42, .byte), (cA44, .byte), (cA46, .boolean)]) [0, 1, 2, 3, 4, 5, 6, 7, 8, 9, 10] rfl
  refine lv_aload_n hx hb d_Mo_init_223 rfl (lv_at hl 0 rfl) ?_
  refine lv_bipush (v := 19) hx hb d_Mo_init_224 (by decide) ?_
  refine va_newa (atype := .int) (a0 := (19, .inl (fun _ => 0))) (ty := .int) hx hb (hts _ mw_73) rfl hK hP hD hS hA (fun _ => rfl) (by decide) (by decide) (by decide) (Nat.le_of_ble_eq_true rfl) (Nat.le_of_ble_eq_true rfl) d_Mo_init_226 (fun q51 cA52 H hK hP hD hS => ?_)
  have hP : va_P (dC, dI) classes [(h0, .inr (9, [.int 0, .ref q1, .ref q3, .ref q5, .ref q7, .ref q9, .int 0, .int 0, .ref q11, .ref q13, .ref q15, .int 0, .int 0, .int (-1), .int 0, .ref q17, .ref q19, .ref q21, .ref q23, .ref q25, .ref q27, .ref q29, .ref q31, .int 0, .int 0, .ref q33, .ref q35, .ref q37, .ref q39, .long 0, .long 0, .int 0, .long 0, .long 0, .long 0, .long 0, .int 0, .int 0, .int 0, .int 0, .ref q41, .int 0, .ref q43, .ref q45, .long 0, .ref q47, .int 0, .int 0, .int 0, .ref q49, .null, .null, .null, .null, .null, .int 0])), (q1, .inl (cA2, 200, .inl (fun _ => 0))), (q3, .inl (cA4, 200, .inl (fun _ => 0))), (q5, .inl (cA6, 200, .inl (fun _ => 0))), (q7, .inl (cA8, 200, .inl (fun _ => 0))), (q9, .inl (cA10, 200, .inl (fun _ => 0))), (q11, .inl (cA12, 4, .inl (fun _ => 0))), (q13, .inl (cA14, 4, .inl (fun _ => 0))), (q15, .inl (cA16, 4, .inl (fun _ => 0))), (q41, .inl (cA42, 400, .inl (fun _ => 0))), (q43, .inl (cA44, 4608, .inl (fun _ => 0))), (q45, .inl (cA46, 64, .inl (fun _ => 0))), (q51, .inl (cA52, 19, .inl (fun _ => 0)))] H := hP
  have hD : va_D A [(h0, .inr (9, [.int 0, .ref q1, .ref q3, .ref q5, .ref q7, .ref q9, .int 0, .int 0, .ref q11, .ref q13, .ref q15, .int 0, .int 0, .int (-1), .int 0, .ref q17, .ref q19, .ref q21, .ref q23, .ref q25, .ref q27, .ref q29, .ref q31, .int 0, .int 0, .ref q33, .ref q35, .ref q37, .ref q39, .long 0, .long 0, .int 0, .long 0, .long 0, .long 0, .long 0, .int 0, .int 0, .int 0, .int 0, .ref q41, .int 0, .ref q43, .ref q45, .long 0, .ref q47, .int 0, .int 0, .int 0, .ref q49, .null, .null, .null, .null, .null, .int 0])), (q1, .inl (cA2, 200, .inl (fun _ => 0))), (q3, .inl (cA4, 200, .inl (fun _ => 0))), (q5, .inl (cA6, 200, .inl (fun _ => 0))), (q7, .inl (cA8, 200, .inl (fun _ => 0))), (q9, .inl (cA10, 200, .inl (fun _ => 0))), (q11, .inl (cA12, 4, .inl (fun _ => 0))), (q13, .inl (cA14, 4, .inl (fun _ => 0))), (q15, .inl (cA16, 4, .inl (fun _ => 0))), (q41, .inl (cA42, 400, .inl (fun _ => 0))), (q43, .inl (cA44, 4608, .inl (fun _ => 0))), (q45, .inl (cA46, 64, .inl (fun _ => 0))), (q51, .inl (cA52, 19, .inl (fun _ => 0)))] := hD
  have hK : va_K (dC, dI) classes [(cA2, .int), (cA4, .int), (cA6, .int), (cA8, .int), (cA10, .int), (cA12, .int), (cA14, .int), (cA16, .int), (cA42, .byte), (cA44, .byte), (cA46, .boolean), (cA52, .int)] s := hK
  refine W.widen (k := 26) (n := 29444) (by omega) (by omega) ?_
  refine va_putF (D := (dC, dI)) (ci := 9) (v := .ref q51) (ty := (.array .int)) (C := R_Mo) (T := F_Mo) (N := 56) hx hb hts i_Mo t_Mo t_Mo_ok n_Mo hown hK hP hD hS 0 rfl rfl 50 (by decide) (hts _ mw_1147) (fun _ h9 => h9) rfl hin rfl (by decide +kernel) rfl rfl (Nat.le_of_ble_eq_true rfl) d_Mo_init_228 (fun H locs hP hD hS => ?_)
  have hP : va_P (dC, dI) classes [(h0, .inr (9, [.int 0, .ref q1, .ref q3, .ref q5, .ref q7, .ref q9, .int 0, .int 0, .ref q11, .ref q13, .ref q15, .int 0, .int 0, .int (-1), .int 0, .ref q17, .ref q19, .ref q21, .ref q23, .ref q25, .ref q27, .ref q29, .ref q31, .int 0, .int 0, .ref q33, .ref q35, .ref q37, .ref q39, .long 0, .long 0, .int 0, .long 0, .long 0, .long 0, .long 0, .int 0, .int 0, .int 0, .int 0, .ref q41, .int 0, .ref q43, .ref q45, .long 0, .ref q47, .int 0, .int 0, .int 0, .ref q49, .ref q51, .null, .null, .null, .null, .int 0])), (q1, .inl (cA2, 200, .inl (fun _ => 0))), (q3, .inl (cA4, 200, .inl (fun _ => 0))), (q5, .inl (cA6, 200, .inl (fun _ => 0))), (q7, .inl (cA8, 200, .inl (fun _ => 0))), (q9, .inl (cA10, 200, .inl (fun _ => 0))), (q11, .inl (cA12, 4, .inl (fun _ => 0))), (q13, .inl (cA14, 4, .inl (fun _ => 0))), (q15, .inl (cA16, 4, .inl (fun _ => 0))), (q41, .inl (cA42, 400, .inl (fun _ => 0))), (q43, .inl (cA44, 4608, .inl (fun _ => 0))), (q45, .inl (cA46, 64, .inl (fun _ => 0))), (q51, .inl (cA52, 19, .inl (fun _ => 0)))] H := hP
  have hD : va_D A [(h0, .inr (9, [.int 0, .ref q1, .ref q3, .ref q5, .ref q7, .ref q9, .int 0, .int 0, .ref q11, .ref q13, .ref q15, .int 0, .int 0, .int (-1), .int 0, .ref q17, .ref q19, .ref q21, .ref q23, .ref q25, .ref q27, .ref q29, .ref q31, .int 0, .int 0, .ref q33, .ref q35, .ref q37, .ref q39, .long 0, .long 0, .int 0, .long 0, .long 0, .long 0, .long 0, .int 0, .int 0, .int 0, .int 0, .ref q41, .int 0, .ref q43, .ref q45, .long 0, .ref q47, .int 0, .int 0, .int 0, .ref q49, .ref q51, .null, .null, .null, .null, .int 0])), (q1, .inl (cA2, 200, .inl (fun _ => 0))), (q3, .inl (cA4, 200, .inl (fun _ => 0))), (q5, .inl (cA6, 200, .inl (fun _ => 0))), (q7, .inl (cA8, 200, .inl (fun _ => 0))), (q9, .inl (cA10, 200, .inl (fun _ => 0))), (q11, .inl (cA12, 4, .inl (fun _ => 0))), (q13, .inl (cA14, 4, .inl (fun _ => 0))), (q15, .inl (cA16, 4, .inl (fun _ => 0))), (q41, .inl (cA42, 400, .inl (fun _ => 0))), (q43, .inl (cA44, 4608, .inl (fun _ => 0))), (q45, .inl (cA46, 64, .inl (fun _ => 0))), (q51, .inl (cA52, 19, .inl (fun _ => 0)))] := hD
  have hP := hP.sub (ws' := [(h0, .inr (9, [.int 0, .ref q1, .ref q3, .ref q5, .ref q7, .ref q9, .int 0, .int 0, .ref q11, .ref q13, .ref q15, .int 0, .int 0, .int (-1), .int 0, .ref q17, .ref q19, .ref q21, .ref q23, .ref q25, .ref q27, .ref q29, .ref q31, .int 0, .int 0, .ref q33, .ref q35, .ref q37, .ref q39, .long 0, .long 0, .int 0, .long 0, .long 0, .long 0, .long 0, .int 0, .int 0, .int 0, .int 0, .ref q41, .int 0, .ref q43, .ref q45, .long 0, .ref q47, .int 0, .int 0, .int 0, .ref q49, .ref q51, .null, .null, .null, .null, .int 0])), (q1, .inl (cA2, 200, .inl (fun _ => 0))), (q3, .inl (cA4, 200, .inl (fun _ => 0))), (q5, .inl (cA6, 200, .inl (fun _ => 0))), (q7, .inl (cA8, 200, .inl (fun _ => 0))), (q9, .inl (cA10, 200, .inl (fun _ => 0))), (q11, .inl (cA12, 4, .inl (fun _ => 0))), (q13, .inl (cA14, 4, .inl (fun _ => 0))), (q15, .inl (cA16, 4, .inl (fun _ => 0))), (q41, .inl (cA42, 400, .inl (fun _ => 0))), (q43, .inl (cA44, 4608, .inl (fun _ => 0))), (q45, .inl (cA46, 64, .inl (fun _ => 0)))]) [0, 1, 2, 3, 4, 5, 6, 7, 8, 9, 10, 11] rfl
  have hD := hD.sub (ws' := [(h0, .inr (9, [.int 0, .ref q1, .ref q3, .ref q5, .ref q7, .ref q9, .int 0, .int 0, .ref q11, .ref q13, .ref q15, .int 0, .int 0, .int (-1), .int 0, .ref q17, .ref q19, .ref q21, .ref q23, .ref q25, .ref q27, .ref q29, .ref q31, .int 0, .int 0, .ref q33, .ref q35, .ref q37, .ref q39, .long 0, .long 0, .int 0, .long 0, .long 0, .long 0, .long 0, .int 0, .int 0, .int 0, .int 0, .ref q41, .int 0, .ref q43, .ref q45, .long 0, .ref q47, .int 0, .int 0, .int 0, .ref q49, .ref q51, .null, .null, .null, .null, .int 0])), (q1, .inl (cA2, 200, .inl (fun _ => 0))), (q3, .inl (cA4, 200, .inl (fun _ => 0))), (q5, .inl (cA6, 200, .inl (fun _ => 0))), (q7, .inl (cA8, 200, .inl (fun _ => 0))), (q9, .inl (cA10, 200, .inl (fun _ => 0))), (q11, .inl (cA12, 4, .inl (fun _ => 0))), (q13, .inl (cA14, 4, .inl (fun _ => 0))), (q15, .inl (cA16, 4, .inl (fun _ => 0))), (q41, .inl (cA42, 400, .inl (fun _ => 0))), (q43, .inl (cA44, 4608, .inl (fun _ => 0))), (q45, .inl (cA46, 64, .inl (fun _ => 0)))]) [0, 1, 2, 3, 4, 5, 6, 7, 8, 9, 10, 11] (by decide) rfl
  have hK := hK.sub (tys' := [(cA2, .int), (cA4, .int), (cA6, .int), (cA8, .int), (cA10, .int), (cA12, .int), (cA14, .int), (cA16, .int), (cA42, .byte), (cA44, .byte), (cA46, .boolean)]) [0, 1, 2, 3, 4, 5, 6, 7, 8, 9, 10] rfl
  refine lv_aload_n hx hb d_Mo_init_231 rfl (lv_at hl 0 rfl) ?_
  refine lv_bipush (v := 19) hx hb d_Mo_init_232 (by decide) ?_
  refine va_newa (atype := .int) (a0 := (19, .inl (fun _ => 0))) (ty := .int) hx hb (hts _ mw_73) rfl hK hP hD hS hA (fun _ => rfl) (by decide) (by decide) (by decide) (Nat.le_of_ble_eq_true rfl) (Nat.le_of_ble_eq_true rfl) d_Mo_init_234 (fun q53 cA54 H hK hP hD hS => ?_)
  have hP : va_P (dC, dI) classes [(h0, .inr (9, [.int 0, .ref q1, .ref q3, .ref q5, .ref q7, .ref q9, .int 0, .int 0, .ref q11, .ref q13, .ref q15, .int 0, .int 0, .int (-1), .int 0, .ref q17, .ref q19, .ref q21, .ref q23, .ref q25, .ref q27, .ref q29, .ref q31, .int 0, .int 0, .ref q33, .ref q35, .ref q37, .ref q39, .long 0, .long 0, .int 0, .long 0, .long 0, .long 0, .long 0, .int 0, .int 0, .int 0, .int 0, .ref q41, .int 0, .ref q43, .ref q45, .long 0, .ref q47, .int 0, .int 0, .int 0, .ref q49, .ref q51, .null, .null, .null, .null, .int 0])), (q1, .inl (cA2, 200, .inl (fun _ => 0))), (q3, .inl (cA4, 200, .inl (fun _ => 0))), (q5, .inl (cA6, 200, .inl (fun _ => 0))), (q7, .inl (cA8, 200, .inl (fun _ => 0))), (q9, .inl (cA10, 200, .inl (fun _ => 0))), (q11, .inl (cA12, 4, .inl (fun _ => 0))), (q13, .inl (cA14, 4, .inl (fun _ => 0))), (q15, .inl (cA16, 4, .inl (fun _ => 0))), (q41, .inl (cA42, 400, .inl (fun _ => 0))), (q43, .inl (cA44, 4608, .inl (fun _ => 0))), (q45, .inl (cA46, 64, .inl (fun _ => 0))), (q53, .inl (cA54, 19, .inl (fun _ => 0)))] H := hP
  have hD : va_D A [(h0, .inr (9, [.int 0, .ref q1, .ref q3, .ref q5, .ref q7, .ref q9, .int 0, .int 0, .ref q11, .ref q13, .ref q15, .int 0, .int 0, .int (-1), .int 0, .ref q17, .ref q19, .ref q21, .ref q23, .ref q25, .ref q27, .ref q29, .ref q31, .int 0, .int 0, .ref q33, .ref q35, .ref q37, .ref q39, .long 0, .long 0, .int 0, .long 0, .long 0, .long 0, .long 0, .int 0, .int 0, .int 0, .int 0, .ref q41, .int 0, .ref q43, .ref q45, .long 0, .ref q47, .int 0, .int 0, .int 0, .ref q49, .ref q51, .null, .null, .null, .null, .int 0])), (q1, .inl (cA2, 200, .inl (fun _ => 0))), (q3, .inl (cA4, 200, .inl (fun _ => 0))), (q5, .inl (cA6, 200, .inl (fun _ => 0))), (q7, .inl (cA8, 200, .inl (fun _ => 0))), (q9, .inl (cA10, 200, .inl (fun _ => 0))), (q11, .inl (cA12, 4, .inl (fun _ => 0))), (q13, .inl (cA14, 4, .inl (fun _ => 0))), (q15, .inl (cA16, 4, .inl (fun _ => 0))), (q41, .inl (cA42, 400, .inl (fun _ => 0))), (q43, .inl (cA44, 4608, .inl (fun _ => 0))), (q45, .inl (cA46, 64, .inl (fun _ => 0))), (q53, .inl (cA54, 19, .inl (fun _ => 0)))] := hD
  have hK : va_K (dC, dI) classes [(cA2, .int), (cA4, .int), (cA6, .int), (cA8, .int), (cA10, .int), (cA12, .int), (cA14, .int), (cA16, .int), (cA42, .byte), (cA44, .byte), (cA46, .boolean), (cA54, .int)] s := hK
  refine W.widen (k := 27) (n := 29463) (by omega) (by omega) ?_
  refine va_putF (D := (dC, dI)) (ci := 9) (v := .ref q53) (ty := (.array .int)) (C := R_Mo) (T := F_Mo) (N := 56) hx hb hts i_Mo t_Mo t_Mo_ok n_Mo hown hK hP hD hS 0 rfl rfl 51 (by decide) (hts _ mw_1148) (fun _ h9 => h9) rfl hin rfl (by decide +kernel) rfl rfl (Nat.le_of_ble_eq_true rfl) d_Mo_init_236 (fun H locs hP hD hS => ?_)
  have hP : va_P (dC, dI) classes [(h0, .inr (9, [.int 0, .ref q1, .ref q3, .ref q5, .ref q7, .ref q9, .int 0, .int 0, .ref q11, .ref q13, .ref q15, .int 0, .int 0, .int (-1), .int 0, .ref q17, .ref q19, .ref q21, .ref q23, .ref q25, .ref q27, .ref q29, .ref q31, .int 0, .int 0, .ref q33, .ref q35, .ref q37, .ref q39, .long 0, .long 0, .int 0, .long 0, .long 0, .long 0, .long 0, .int 0, .int 0, .int 0, .int 0, .ref q41, .int 0, .ref q43, .ref q45, .long 0, .ref q47, .int 0, .int 0, .int 0, .ref q49, .ref q51, .ref q53, .null, .null, .null, .int 0])), (q1, .inl (cA2, 200, .inl (fun _ => 0))), (q3, .inl (cA4, 200, .inl (fun _ => 0))), (q5, .inl (cA6, 200, .inl (fun _ => 0))), (q7, .inl (cA8, 200, .inl (fun _ => 0))), (q9, .inl (cA10, 200, .inl (fun _ => 0))), (q11, .inl (cA12, 4, .inl (fun _ => 0))), (q13, .inl (cA14, 4, .inl (fun _ => 0))), (q15, .inl (cA16, 4, .inl (fun _ => 0))), (q41, .inl (cA42, 400, .inl (fun _ => 0))), (q43, .inl (cA44, 4608, .inl (fun _ => 0))), (q45, .inl (cA46, 64, .inl (fun _ => 0))), (q53, .inl (cA54, 19, .inl (fun _ => 0)))] H := hP
  have hD : va_D A [(h0, .inr (9, [.int 0, .ref q1, .ref q3, .ref q5, .ref q7, .ref q9, .int 0, .int 0, .ref q11, .ref q13, .ref q15, .int 0, .int 0, .int (-1), .int 0, .ref q17, .ref q19, .ref q21, .ref q23, .ref q25, .ref q27, .ref q29, .ref q31, .int 0, .int 0, .ref q33, .ref q35, .ref q37, .ref q39, .long 0, .long 0, .int 0, .long 0, .long 0, .long 0, .long 0, .int 0, .int 0, .int 0, .int 0, .ref q41, .int 0, .ref q43, .ref q45, .long 0, .ref q47, .int 0, .int 0, .int 0, .ref q49, .ref q51, .ref q53, .null, .null, .null, .int 0])), (q1, .inl (cA2, 200, .inl (fun _ => 0))), (q3, .inl (cA4, 200, .inl (fun _ => 0))), (q5, .inl (cA6, 200, .inl (fun _ => 0))), (q7, .inl (cA8, 200, .inl (fun _ => 0))), (q9, .inl (cA10, 200, .inl (fun _ => 0))), (q11, .inl (cA12, 4, .inl (fun _ => 0))), (q13, .inl (cA14, 4, .inl (fun _ => 0))), (q15, .inl (cA16, 4, .inl (fun _ => 0))), (q41, .inl (cA42, 400, .inl (fun _ => 0))), (q43, .inl (cA44, 4608, .inl (fun _ => 0))), (q45, .inl (cA46, 64, .inl (fun _ => 0))), (q53, .inl (cA54, 19, .inl (fun _ => 0)))] := hD
  have hP := hP.sub (ws' := [(h0, .inr (9, [.int 0, .ref q1, .ref q3, .ref q5, .ref q7, .ref q9, .int 0, .int 0, .ref q11, .ref q13, .ref q15, .int 0, .int 0, .int (-1), .int 0, .ref q17, .ref q19, .ref q21, .ref q23, .ref q25, .ref q27, .ref q29, .ref q31, .int 0, .int 0, .ref q33, .ref q35, .ref q37, .ref q39, .long 0, .long 0, .int 0, .long 0, .long 0, .long 0, .long 0, .int 0, .int 0, .int 0, .int 0, .ref q41, .int 0, .ref q43, .ref q45, .long 0, .ref q47, .int 0, .int 0, .int 0, .ref q49, .ref q51, .ref q53, .null, .null, .null, .int 0])), (q1, .inl (cA2, 200, .inl (fun _ => 0))), (q3, .inl (cA4, 200, .inl (fun _ => 0))), (q5, .inl (cA6, 200, .inl (fun _ => 0))), (q7, .inl (cA8, 200, .inl (fun _ => 0))), (q9, .inl (cA10, 200, .inl (fun _ => 0))), (q11, .inl (cA12, 4, .inl (fun _ => 0))), (q13, .inl (cA14, 4, .inl (fun _ => 0))), (q15, .inl (cA16, 4, .inl (fun _ => 0))), (q41, .inl (cA42, 400, .inl (fun _ => 0))), (q43, .inl (cA44, 4608, .inl (fun _ => 0))), (q45, .inl (cA46, 64, .inl (fun _ => 0)))]) [0, 1, 2, 3, 4, 5, 6, 7, 8, 9, 10, 11] rfl
  have hD := hD.sub (ws' := [(h0, .inr (9, [.int 0, .ref q1, .ref q3, .ref q5, .ref q7, .ref q9, .int 0, .int 0, .ref q11, .ref q13, .ref q15, .int 0, .int 0, .int (-1), .int 0, .ref q17, .ref q19, .ref q21, .ref q23, .ref q25, .ref q27, .ref q29, .ref q31, .int 0, .int 0, .ref q33, .ref q35, .ref q37, .ref q39, .long 0, .long 0, .int 0, .long 0, .long 0, .long 0, .long 0, .int 0, .int 0, .int 0, .int 0, .ref q41, .int 0, .ref q43, .ref q45, .long 0, .ref q47, .int 0, .int 0, .int 0, .ref q49, .ref q51, .ref q53, .null, .null, .null, .int 0])), (q1, .inl (cA2, 200, .inl (fun _ => 0))), (q3, .inl (cA4, 200, .inl (fun _ => 0))), (q5, .inl (cA6, 200, .inl (fun _ => 0))), (q7, .inl (cA8, 200, .inl (fun _ => 0))), (q9, .inl (cA10, 200, .inl (fun _ => 0))), (q11, .inl (cA12, 4, .inl (fun _ => 0))), (q13, .inl (cA14, 4, .inl (fun _ => 0))), (q15, .inl (cA16, 4, .inl (fun _ => 0))), (q41, .inl (cA42, 400, .inl (fun _ => 0))), (q43, .inl (cA44, 4608, .inl (fun _ => 0))), (q45, .inl (cA46, 64, .inl (fun _ => 0)))]) [0, 1, 2, 3, 4, 5, 6, 7, 8, 9, 10, 11] (by decide) rfl
  have hK := hK.sub (tys' := [(cA2, .int), (cA4, .int), (cA6, .int), (cA8, .int), (cA10, .int), (cA12, .int), (cA14, .int), (cA16, .int), (cA42, .byte), (cA44, .byte), (cA46, .boolean)]) [0, 1, 2, 3, 4, 5, 6, 7, 8, 9, 10] rfl
  refine lv_aload_n hx hb d_Mo_init_239 rfl (lv_at hl 0 rfl) ?_
  refine lv_bipush (v := 19) hx hb d_Mo_init_240 (by decide) ?_
  refine va_newa (atype := .int) (a0 := (19, .inl (fun _ => 0))) (ty := .int) hx hb (hts _ mw_73) rfl hK hP hD hS hA (fun _ => rfl) (by decide) (by decide) (by decide) (Nat.le_of_ble_eq_true rfl) (Nat.le_of_ble_eq_true rfl) d_Mo_init_242 (fun q55 cA56 H hK hP hD hS => ?_)
  have hP : va_P (dC, dI) classes [(h0, .inr (9, [.int 0, .ref q1, .ref q3, .ref q5, .ref q7, .ref q9, .int 0, .int 0, .ref q11, .ref q13, .ref q15, .int 0, .int 0, .int (-1), .int 0, .ref q17, .ref q19, .ref q21, .ref q23, .ref q25, .ref q27, .ref q29, .ref q31, .int 0, .int 0, .ref q33, .ref q35, .ref q37, .ref q39, .long 0, .long 0, .int 0, .long 0, .long 0, .long 0, .long 0, .int 0, .int 0, .int 0, .int 0, .ref q41, .int 0, .ref q43, .ref q45, .long 0, .ref q47, .int 0, .int 0, .int 0, .ref q49, .ref q51, .ref q53, .null, .null, .null, .int 0])), (q1, .inl (cA2, 200, .inl (fun _ => 0))), (q3, .inl (cA4, 200, .inl (fun _ => 0))), (q5, .inl (cA6, 200, .inl (fun _ => 0))), (q7, .inl (cA8, 200, .inl (fun _ => 0))), (q9, .inl (cA10, 200, .inl (fun _ => 0))), (q11, .inl (cA12, 4, .inl (fun _ => 0))), (q13, .inl (cA14, 4, .inl (fun _ => 0))), (q15, .inl (cA16, 4, .inl (fun _ => 0))), (q41, .inl (cA42, 400, .inl (fun _ => 0))), (q43, .inl (cA44, 4608, .inl (fun _ => 0))), (q45, .inl (cA46, 64, .inl (fun _ => 0))), (q55, .inl (cA56, 19, .inl (fun _ => 0)))] H := hP
  have hD : va_D A [(h0, .inr (9, [.int 0, .ref q1, .ref q3, .ref q5, .ref q7, .ref q9, .int 0, .int 0, .ref q11, .ref q13, .ref q15, .int 0, .int 0, .int (-1), .int 0, .ref q17, .ref q19, .ref q21, .ref q23, .ref q25, .ref q27, .ref q29, .ref q31, .int 0, .int 0, .ref q33, .ref q35, .ref q37, .ref q39, .long 0, .long 0, .int 0, .long 0, .long 0, .long 0, .long 0, .int 0, .int 0, .int 0, .int 0, .ref q41, .int 0, .ref q43, .ref q45, .long 0, .ref q47, .int 0, .int 0, .int 0, .ref q49, .ref q51, .ref q53, .null, .null, .null, .int 0])), (q1, .inl (cA2, 200, .inl (fun _ => 0))), (q3, .inl (cA4, 200, .inl (fun _ => 0))), (q5, .inl (cA6, 200, .inl (fun _ => 0))), (q7, .inl (cA8, 200, .inl (fun _ => 0))), (q9, .inl (cA10, 200, .inl (fun _ => 0))), (q11, .inl (cA12, 4, .inl (fun _ => 0))), (q13, .inl (cA14, 4, .inl (fun _ => 0))), (q15, .inl (cA16, 4, .inl (fun _ => 0))), (q41, .inl (cA42, 400, .inl (fun _ => 0))), (q43, .inl (cA44, 4608, .inl (fun _ => 0))), (q45, .inl (cA46, 64, .inl (fun _ => 0))), (q55, .inl (cA56, 19, .inl (fun _ => 0)))] := hD
  have hK : va_K (dC, dI) classes [(cA2, .int), (cA4, .int), (cA6, .int), (cA8, .int), (cA10, .int), (cA12, .int), (cA14, .int), (cA16, .int), (cA42, .byte), (cA44, .byte), (cA46, .boolean), (cA56, .int)] s := hK
  refine W.widen (k := 28) (n := 29482) (by omega) (by omega) ?_
  refine va_putF (D := (dC, dI)) (ci := 9) (v := .ref q55) (ty := (.array .int)) (C := R_Mo) (T := F_Mo) (N := 56) hx hb hts i_Mo t_Mo t_Mo_ok n_Mo hown hK hP hD hS 0 rfl rfl 52 (by decide) (hts _ mw_1149) (fun _ h9 => h9) rfl hin rfl (by decide +kernel) rfl rfl (Nat.le_of_ble_eq_true rfl) d_Mo_init_244 (fun H locs hP hD hS => ?_)
  have hP : va_P (dC, dI) classes [(h0, .inr (9, [.int 0, .ref q1, .ref q3, .ref q5, .ref q7, .ref q9, .int 0, .int 0, .ref q11, .ref q13, .ref q15, .int 0, .int 0, .int (-1), .int 0, .ref q17, .ref q19, .ref q21, .ref q23, .ref q25, .ref q27, .ref q29, .ref q31, .int 0, .int 0, .ref q33, .ref q35, .ref q37, .ref q39, .long 0, .long 0, .int 0, .long 0, .long 0, .long 0, .long 0, .int 0, .int 0, .int 0, .int 0, .ref q41, .int 0, .ref q43, .ref q45, .long 0, .ref q47, .int 0, .int 0, .int 0, .ref q49, .ref q51, .ref q53, .ref q55, .null, .null, .int 0])), (q1, .inl (cA2, 200, .inl (fun _ => 0))), (q3, .inl (cA4, 200, .inl (fun _ => 0))), (q5, .inl (cA6, 200, .inl (fun _ => 0))), (q7, .inl (cA8, 200, .inl (fun _ => 0))), (q9, .inl (cA10, 200, .inl (fun _ => 0))), (q11, .inl (cA12, 4, .inl (fun _ => 0))), (q13, .inl (cA14, 4, .inl (fun _ => 0))), (q15, .inl (cA16, 4, .inl (fun _ => 0))), (q41, .inl (cA42, 400, .inl (fun _ => 0))), (q43, .inl (cA44, 4608, .inl (fun _ => 0))), (q45, .inl (cA46, 64, .inl (fun _ => 0))), (q55, .inl (cA56, 19, .inl (fun _ => 0)))] H := hP
  have hD : va_D A [(h0, .inr (9, [.int 0, .ref q1, .ref q3, .ref q5, .ref q7, .ref q9, .int 0, .int 0, .ref q11, .ref q13, .ref q15, .int 0, .int 0, .int (-1), .int 0, .ref q17, .ref q19, .ref q21, .ref q23, .ref q25, .ref q27, .ref q29, .ref q31, .int 0, .int 0, .ref q33, .ref q35, .ref q37, .ref q39, .long 0, .long 0, .int 0, .long 0, .long 0, .long 0, .long 0, .int 0, .int 0, .int 0, .int 0, .ref q41, .int 0, .ref q43, .ref q45, .long 0, .ref q47, .int 0, .int 0, .int 0, .ref q49, .ref q51, .ref q53, .ref q55, .null, .null, .int 0])), (q1, .inl (cA2, 200, .inl (fun _ => 0))), (q3, .inl (cA4, 200, .inl (fun _ => 0))), (q5, .inl (cA6, 200, .inl (fun _ => 0))), (q7, .inl (cA8, 200, .inl (fun _ => 0))), (q9, .inl (cA10, 200, .inl (fun _ => 0))), (q11, .inl (cA12, 4, .inl (fun _ => 0))), (q13, .inl (cA14, 4, .inl (fun _ => 0))), (q15, .inl (cA16, 4, .inl (fun _ => 0))), (q41, .inl (cA42, 400, .inl (fun _ => 0))), (q43, .inl (cA44, 4608, .inl (fun _ => 0))), (q45, .inl (cA46, 64, .inl (fun _ => 0))), (q55, .inl (cA56, 19, .inl (fun _ => 0)))] := hD
  have hP := hP.sub (ws' := [(h0, .inr (9, [.int 0, .ref q1, .ref q3, .ref q5, .ref q7, .ref q9, .int 0, .int 0, .ref q11, .ref q13, .ref q15, .int 0, .int 0, .int (-1), .int 0, .ref q17, .ref q19, .ref q21, .ref q23, .ref q25, .ref q27, .ref q29, .ref q31, .int 0, .int 0, .ref q33, .ref q35, .ref q37, .ref q39, .long 0, .long 0, .int 0, .long 0, .long 0, .long 0, .long 0, .int 0, .int 0, .int 0, .int 0, .ref q41, .int 0, .ref q43, .ref q45, .long 0, .ref q47, .int 0, .int 0, .int 0, .ref q49, .ref q51, .ref q53, .ref q55, .null, .null, .int 0])), (q1, .inl (cA2, 200, .inl (fun _ => 0))), (q3, .inl (cA4, 200, .inl (fun _ => 0))), (q5, .inl (cA6, 200, .inl (fun _ => 0))), (q7, .inl (cA8, 200, .inl (fun _ => 0))), (q9, .inl (cA10, 200, .inl (fun _ => 0))), (q11, .inl (cA12, 4, .inl (fun _ => 0))), (q13, .inl (cA14, 4, .inl (fun _ => 0))), (q15, .inl (cA16, 4, .inl (fun _ => 0))), (q41, .inl (cA42, 400, .inl (fun _ => 0))), (q43, .inl (cA44, 4608, .inl (fun _ => 0))), (q45, .inl (cA46, 64, .inl (fun _ => 0)))]) [0, 1, 2, 3, 4, 5, 6, 7, 8, 9, 10, 11] rfl
  have hD := hD.sub (ws' := [(h0, .inr (9, [.int 0, .ref q1, .ref q3, .ref q5, .ref q7, .ref q9, .int 0, .int 0, .ref q11, .ref q13, .ref q15, .int 0, .int 0, .int (-1), .int 0, .ref q17, .ref q19, .ref q21, .ref q23, .ref q25, .ref q27, .ref q29, .ref q31, .int 0, .int 0, .ref q33, .ref q35, .ref q37, .ref q39, .long 0, .long 0, .int 0, .long 0, .long 0, .long 0, .long 0, .int 0, .int 0, .int 0, .int 0, .ref q41, .int 0, .ref q43, .ref q45, .long 0, .ref q47, .int 0, .int 0, .int 0, .ref q49, .ref q51, .ref q53, .ref q55, .null, .null, .int 0])), (q1, .inl (cA2, 200, .inl (fun _ => 0))), (q3, .inl (cA4, 200, .inl (fun _ => 0))), (q5, .inl (cA6, 200, .inl (fun _ => 0))), (q7, .inl (cA8, 200, .inl (fun _ => 0))), (q9, .inl (cA10, 200, .inl (fun _ => 0))), (q11, .inl (cA12, 4, .inl (fun _ => 0))), (q13, .inl (cA14, 4, .inl (fun _ => 0))), (q15, .inl (cA16, 4, .inl (fun _ => 0))), (q41, .inl (cA42, 400, .inl (fun _ => 0))), (q43, .inl (cA44, 4608, .inl (fun _ => 0))), (q45, .inl (cA46, 64, .inl (fun _ => 0)))]) [0, 1, 2, 3, 4, 5, 6, 7, 8, 9, 10, 11] (by decide) rfl
  have hK := hK.sub (tys' := [(cA2, .int), (cA4, .int), (cA6, .int), (cA8, .int), (cA10, .int), (cA12, .int), (cA14, .int), (cA16, .int), (cA42, .byte), (cA44, .byte), (cA46, .boolean)]) [0, 1, 2, 3, 4, 5, 6, 7, 8, 9, 10] rfl
  refine lv_aload_n hx hb d_Mo_init_247 rfl (lv_at hl 0 rfl) ?_
  refine lv_bipush (v := 19) hx hb d_Mo_init_248 (by decide) ?_
  refine va_newa (atype := .long) (a0 := (19, .inr (.inl (fun _ => 0)))) (ty := .long) hx hb (hts _ mw_165) rfl hK hP hD hS hA (fun _ => rfl) (by decide) (by decide) (by decide) (Nat.le_of_ble_eq_true rfl) (Nat.le_of_ble_eq_true rfl) d_Mo_init_250 (fun q57 cA58 H hK hP hD hS => ?_)
  have hP : va_P (dC, dI) classes [(h0, .inr (9, [.int 0, .ref q1, .ref q3, .ref q5, .ref q7, .ref q9, .int 0, .int 0, .ref q11, .ref q13, .ref q15, .int 0, .int 0, .int (-1), .int 0, .ref q17, .ref q19, .ref q21, .ref q23, .ref q25, .ref q27, .ref q29, .ref q31, .int 0, .int 0, .ref q33, .ref q35, .ref q37, .ref q39, .long 0, .long 0, .int 0, .long 0, .long 0, .long 0, .long 0, .int 0, .int 0, .int 0, .int 0, .ref q41, .int 0, .ref q43, .ref q45, .long 0, .ref q47, .int 0, .int 0, .int 0, .ref q49, .ref q51, .ref q53, .ref q55, .null, .null, .int 0])), (q1, .inl (cA2, 200, .inl (fun _ => 0))), (q3, .inl (cA4, 200, .inl (fun _ => 0))), (q5, .inl (cA6, 200, .inl (fun _ => 0))), (q7, .inl (cA8, 200, .inl (fun _ => 0))), (q9, .inl (cA10, 200, .inl (fun _ => 0))), (q11, .inl (cA12, 4, .inl (fun _ => 0))), (q13, .inl (cA14, 4, .inl (fun _ => 0))), (q15, .inl (cA16, 4, .inl (fun _ => 0))), (q41, .inl (cA42, 400, .inl (fun _ => 0))), (q43, .inl (cA44, 4608, .inl (fun _ => 0))), (q45, .inl (cA46, 64, .inl (fun _ => 0))), (q57, .inl (cA58, 19, .inr (.inl (fun _ => 0))))] H := hP
  have hD : va_D A [(h0, .inr (9, [.int 0, .ref q1, .ref q3, .ref q5, .ref q7, .ref q9, .int 0, .int 0, .ref q11, .ref q13, .ref q15, .int 0, .int 0, .int (-1), .int 0, .ref q17, .ref q19, .ref q21, .ref q23, .ref q25, .ref q27, .ref q29, .ref q31, .int 0, .int 0, .ref q33, .ref q35, .ref q37, .ref q39, .long 0, .long 0, .int 0, .long 0, .long 0, .long 0, .long 0, .int 0, .int 0, .int 0, .int 0, .ref q41, .int 0, .ref q43, .ref q45, .long 0, .ref q47, .int 0, .int 0, .int 0, .ref q49, .ref q51, .ref q53, .ref q55, .null, .null, .int 0])), (q1, .inl (cA2, 200, .inl (fun _ => 0))), (q3, .inl (cA4, 200, .inl (fun _ => 0))), (q5, .inl (cA6, 200, .inl (fun _ => 0))), (q7, .inl (cA8, 200, .inl (fun _ => 0))), (q9, .inl (cA10, 200, .inl (fun _ => 0))), (q11, .inl (cA12, 4, .inl (fun _ => 0))), (q13, .inl (cA14, 4, .inl (fun _ => 0))), (q15, .inl (cA16, 4, .inl (fun _ => 0))), (q41, .inl (cA42, 400, .inl (fun _ => 0))), (q43, .inl (cA44, 4608, .inl (fun _ => 0))), (q45, .inl (cA46, 64, .inl (fun _ => 0))), (q57, .inl (cA58, 19, .inr (.inl (fun _ => 0))))] := hD
  have hK : va_K (dC, dI) classes [(cA2, .int), (cA4, .int), (cA6, .int), (cA8, .int), (cA10, .int), (cA12, .int), (cA14, .int), (cA16, .int), (cA42, .byte), (cA44, .byte), (cA46, .boolean), (cA58, .long)] s := hK
  refine W.widen (k := 29) (n := 29501) (by omega) (by omega) ?_
  refine va_putF (D := (dC, dI)) (ci := 9) (v := .ref q57) (ty := (.array .long)) (C := R_Mo) (T := F_Mo) (N := 56) hx hb hts i_Mo t_Mo t_Mo_ok n_Mo hown hK hP hD hS 0 rfl rfl 53 (by decide) (hts _ mw_1150) (fun _ h9 => h9) rfl hin rfl (by decide +kernel) rfl rfl (Nat.le_of_ble_eq_true rfl) d_Mo_init_252 (fun H locs hP hD hS => ?_)
  have hP : va_P (dC, dI) classes [(h0, .inr (9, [.int 0, .ref q1, .ref q3, .ref q5, .ref q7, .ref q9, .int 0, .int 0, .ref q11, .ref q13, .ref q15, .int 0, .int 0, .int (-1), .int 0, .ref q17, .ref q19, .ref q21, .ref q23, .ref q25, .ref q27, .ref q29, .ref q31, .int 0, .int 0, .ref q33, .ref q35, .ref q37, .ref q39, .long 0, .long 0, .int 0, .long 0, .long 0, .long 0, .long 0, .int 0, .int 0, .int 0, .int 0, .ref q41, .int 0, .ref q43, .ref q45, .long 0, .ref q47, .int 0, .int 0, .int 0, .ref q49, .ref q51, .ref q53, .ref q55, .ref q57, .null, .int 0])), (q1, .inl (cA2, 200, .inl (fun _ => 0))), (q3, .inl (cA4, 200, .inl (fun _ => 0))), (q5, .inl (cA6, 200, .inl (fun _ => 0))), (q7, .inl (cA8, 200, .inl (fun _ => 0))), (q9, .inl (cA10, 200, .inl (fun _ => 0))), (q11, .inl (cA12, 4, .inl (fun _ => 0))), (q13, .inl (cA14, 4, .inl (fun _ => 0))), (q15, .inl (cA16, 4, .inl (fun _ => 0))), (q41, .inl (cA42, 400, .inl (fun _ => 0))), (q43, .inl (cA44, 4608, .inl (fun _ => 0))), (q45, .inl (cA46, 64, .inl (fun _ => 0))), (q57, .inl (cA58, 19, .inr (.inl (fun _ => 0))))] H := hP
  have hD : va_D A [(h0, .inr (9, [.int 0, .ref q1, .ref q3, .ref q5, .ref q7, .ref q9, .int 0, .int 0, .ref q11, .ref q13, .ref q15, .int 0, .int 0, .int (-1), .int 0, .ref q17, .ref q19, .ref q21, .ref q23, .ref q25, .ref q27, .ref q29, .ref q31, .int 0, .int 0, .ref q33, .ref q35, .ref q37, .ref q39, .long 0, .long 0, .int 0, .long 0, .long 0, .long 0, .long 0, .int 0, .int 0, .int 0, .int 0, .ref q41, .int 0, .ref q43, .ref q45, .long 0, .ref q47, .int 0, .int 0, .int 0, .ref q49, .ref q51, .ref q53, .ref q55, .ref q57, .null, .int 0])), (q1, .inl (cA2, 200, .inl (fun _ => 0))), (q3, .inl (cA4, 200, .inl (fun _ => 0))), (q5, .inl (cA6, 200, .inl (fun _ => 0))), (q7, .inl (cA8, 200, .inl (fun _ => 0))), (q9, .inl (cA10, 200, .inl (fun _ => 0))), (q11, .inl (cA12, 4, .inl (fun _ => 0))), (q13, .inl (cA14, 4, .inl (fun _ => 0))), (q15, .inl (cA16, 4, .inl (fun _ => 0))), (q41, .inl (cA42, 400, .inl (fun _ => 0))), (q43, .inl (cA44, 4608, .inl (fun _ => 0))), (q45, .inl (cA46, 64, .inl (fun _ => 0))), (q57, .inl (cA58, 19, .inr (.inl (fun _ => 0))))] := hD
  have hP := hP.sub (ws' := [(h0, .inr (9, [.int 0, .ref q1, .ref q3, .ref q5, .ref q7, .ref q9, .int 0, .int 0, .ref q11, .ref q13, .ref q15, .int 0, .int 0, .int (-1), .int 0, .ref q17, .ref q19, .ref q21, .ref q23, .ref q25, .ref q27, .ref q29, .ref q31, .int 0, .int 0, .ref q33, .ref q35, .ref q37, .ref q39, .long 0, .long 0, .int 0, .long 0, .long 0, .long 0, .long 0, .int 0, .int 0, .int 0, .int 0, .ref q41, .int 0, .ref q43, .ref q45, .long 0, .ref q47, .int 0, .int 0, .int 0, .ref q49, .ref q51, .ref q53, .ref q55, .ref q57, .null, .int 0])), (q1, .inl (cA2, 200, .inl (fun _ => 0))), (q3, .inl (cA4, 200, .inl (fun _ => 0))), (q5, .inl (cA6, 200, .inl (fun _ => 0))), (q7, .inl (cA8, 200, .inl (fun _ => 0))), (q9, .inl (cA10, 200, .inl (fun _ => 0))), (q11, .inl (cA12, 4, .inl (fun _ => 0))), (q13, .inl (cA14, 4, .inl (fun _ => 0))), (q15, .inl (cA16, 4, .inl (fun _ => 0))), (q41, .inl (cA42, 400, .inl (fun _ => 0))), (q43, .inl (cA44, 4608, .inl (fun _ => 0))), (q45, .inl (cA46, 64, .inl (fun _ => 0)))]) [0, 1, 2, 3, 4, 5, 6, 7, 8, 9, 10, 11] rfl
  have hD := hD.sub (ws' := [(h0, .inr (9, [.int 0, .ref q1, .ref q3, .ref q5, .ref q7, .ref q9, .int 0, .int 0, .ref q11, .ref q13, .ref q15, .int 0, .int 0, .int (-1), .int 0, .ref q17, .ref q19, .ref q21, .ref q23, .ref q25, .ref q27, .ref q29, .ref q31, .int 0, .int 0, .ref q33, .ref q35, .ref q37, .ref q39, .long 0, .long 0, .int 0, .long 0, .long 0, .long 0, .long 0, .int 0, .int 0, .int 0, .int 0, .ref q41, .int 0, .ref q43, .ref q45, .long 0, .ref q47, .int 0, .int 0, .int 0, .ref q49, .ref q51, .ref q53, .ref q55, .ref q57, .null, .int 0])), (q1, .inl (cA2, 200, .inl (fun _ => 0))), (q3, .inl (cA4, 200, .inl (fun _ => 0))), (q5, .inl (cA6, 200, .inl (fun _ => 0))), (q7, .inl (cA8, 200, .inl (fun _ => 0))), (q9, .inl (cA10, 200, .inl (fun _ => 0))), (q11, .inl (cA12, 4, .inl (fun _ => 0))), (q13, .inl (cA14, 4, .inl (fun _ => 0))), (q15, .inl (cA16, 4, .inl (fun _ => 0))), (q41, .inl (cA42, 400, .inl (fun _ => 0))), (q43, .inl (cA44, 4608, .inl (fun _ => 0))), (q45, .inl (cA46, 64, .inl (fun _ => 0)))]) [0, 1, 2, 3, 4, 5, 6, 7, 8, 9, 10, 11] (by decide) rfl
  have hK := hK.sub (tys' := [(cA2, .int), (cA4, .int), (cA6, .int), (cA8, .int), (cA10, .int), (cA12, .int), (cA14, .int), (cA16, .int), (cA42, .byte), (cA44, .byte), (cA46, .boolean)]) [0, 1, 2, 3, 4, 5, 6, 7, 8, 9, 10] rfl
  refine lv_aload_n hx hb d_Mo_init_255 rfl (lv_at hl 0 rfl) ?_
  refine lv_bipush (v := 64) hx hb d_Mo_init_256 (by decide) ?_
  refine va_newa (atype := .byte) (a0 := (64, .inl (fun _ => 0))) (ty := .byte) hx hb (hts _ mw_117) rfl hK hP hD hS hA (fun _ => rfl) (by decide) (by decide) (by decide) (Nat.le_of_ble_eq_true rfl) (Nat.le_of_ble_eq_true rfl) d_Mo_init_258 (fun q59 cA60 H hK hP hD hS => ?_)
  have hP : va_P (dC, dI) classes [(h0, .inr (9, [.int 0, .ref q1, .ref q3, .ref q5, .ref q7, .ref q9, .int 0, .int 0, .ref q11, .ref q13, .ref q15, .int 0, .int 0, .int (-1), .int 0, .ref q17, .ref q19, .ref q21, .ref q23, .ref q25, .ref q27, .ref q29, .ref q31, .int 0, .int 0, .ref q33, .ref q35, .ref q37, .ref q39, .long 0, .long 0, .int 0, .long 0, .long 0, .long 0, .long 0, .int 0, .int 0, .int 0, .int 0, .ref q41, .int 0, .ref q43, .ref q45, .long 0, .ref q47, .int 0, .int 0, .int 0, .ref q49, .ref q51, .ref q53, .ref q55, .ref q57, .null, .int 0])), (q1, .inl (cA2, 200, .inl (fun _ => 0))), (q3, .inl (cA4, 200, .inl (fun _ => 0))), (q5, .inl (cA6, 200, .inl (fun _ => 0))), (q7, .inl (cA8, 200, .inl (fun _ => 0))), (q9, .inl (cA10, 200, .inl (fun _ => 0))), (q11, .inl (cA12, 4, .inl (fun _ => 0))), (q13, .inl (cA14, 4, .inl (fun _ => 0))), (q15, .inl (cA16, 4, .inl (fun _ => 0))), (q41, .inl (cA42, 400, .inl (fun _ => 0))), (q43, .inl (cA44, 4608, .inl (fun _ => 0))), (q45, .inl (cA46, 64, .inl (fun _ => 0))), (q59, .inl (cA60, 64, .inl (fun _ => 0)))] H := hP
  have hD : va_D A [(h0, .inr (9, [.int 0, .ref q1, .ref q3, .ref q5, .ref q7, .ref q9, .int 0, .int 0, .ref q11, .ref q13, .ref q15, .int 0, .int 0, .int (-1), .int 0, .ref q17, .ref q19, .ref q21, .ref q23, .ref q25, .ref q27, .ref q29, .ref q31, .int 0, .int 0, .ref q33, .ref q35, .ref q37, .ref q39, .long 0, .long 0, .int 0, .long 0, .long 0, .long 0, .long 0, .int 0, .int 0, .int 0, .int 0, .ref q41, .int 0, .ref q43, .ref q45, .long 0, .ref q47, .int 0, .int 0, .int 0, .ref q49, .ref q51, .ref q53, .ref q55, .ref q57, .null, .int 0])), (q1, .inl (cA2, 200, .inl (fun _ => 0))), (q3, .inl (cA4, 200, .inl (fun _ => 0))), (q5, .inl (cA6, 200, .inl (fun _ => 0))), (q7, .inl (cA8, 200, .inl (fun _ => 0))), (q9, .inl (cA10, 200, .inl (fun _ => 0))), (q11, .inl (cA12, 4, .inl (fun _ => 0))), (q13, .inl (cA14, 4, .inl (fun _ => 0))), (q15, .inl (cA16, 4, .inl (fun _ => 0))), (q41, .inl (cA42, 400, .inl (fun _ => 0))), (q43, .inl (cA44, 4608, .inl (fun _ => 0))), (q45, .inl (cA46, 64, .inl (fun _ => 0))), (q59, .inl (cA60, 64, .inl (fun _ => 0)))] := hD
  have hK : va_K (dC, dI) classes [(cA2, .int), (cA4, .int), (cA6, .int), (cA8, .int), (cA10, .int), (cA12, .int), (cA14, .int), (cA16, .int), (cA42, .byte), (cA44, .byte), (cA46, .boolean), (cA60, .byte)] s := hK
  refine W.widen (k := 30) (n := 29565) (by omega) (by omega) ?_
  refine va_putF (D := (dC, dI)) (ci := 9) (v := .ref q59) (ty := (.array .byte)) (C := R_Mo) (T := F_Mo) (N := 56) hx hb hts i_Mo t_Mo t_Mo_ok n_Mo hown hK hP hD hS 0 rfl rfl 54 (by decide) (hts _ mw_1151) (fun _ h9 => h9) rfl hin rfl (by decide +kernel) rfl rfl (Nat.le_of_ble_eq_true rfl) d_Mo_init_260 (fun H locs hP hD hS => ?_)
  have hP : va_P (dC, dI) classes [(h0, .inr (9, [.int 0, .ref q1, .ref q3, .ref q5, .ref q7, .ref q9, .int 0, .int 0, .ref q11, .ref q13, .ref q15, .int 0, .int 0, .int (-1), .int 0, .ref q17, .ref q19, .ref q21, .ref q23, .ref q25, .ref q27, .ref q29, .ref q31, .int 0, .int 0, .ref q33, .ref q35, .ref q37, .ref q39, .long 0, .long 0, .int 0, .long 0, .long 0, .long 0, .long 0, .int 0, .int 0, .int 0, .int 0, .ref q41, .int 0, .ref q43, .ref q45, .long 0, .ref q47, .int 0, .int 0, .int 0, .ref q49, .ref q51, .ref q53, .ref q55, .ref q57, .ref q59, .int 0])), (q1, .inl (cA2, 200, .inl (fun _ => 0))), (q3, .inl (cA4, 200, .inl (fun _ => 0))), (q5, .inl (cA6, 200, .inl (fun _ => 0))), (q7, .inl (cA8, 200, .inl (fun _ => 0))), (q9, .inl (cA10, 200, .inl (fun _ => 0))), (q11, .inl (cA12, 4, .inl (fun _ => 0))), (q13, .inl (cA14, 4, .inl (fun _ => 0))), (q15, .inl (cA16, 4, .inl (fun _ => 0))), (q41, .inl (cA42, 400, .inl (fun _ => 0))), (q43, .inl (cA44, 4608, .inl (fun _ => 0))), (q45, .inl (cA46, 64, .inl (fun _ => 0))), (q59, .inl (cA60, 64, .inl (fun _ => 0)))] H := hP
  have hD : va_D A [(h0, .inr (9, [.int 0, .ref q1, .ref q3, .ref q5, .ref q7, .ref q9, .int 0, .int 0, .ref q11, .ref q13, .ref q15, .int 0, .int 0, .int (-1), .int 0, .ref q17, .ref q19, .ref q21, .ref q23, .ref q25, .ref q27, .ref q29, .ref q31, .int 0, .int 0, .ref q33, .ref q35, .ref q37, .ref q39, .long 0, .long 0, .int 0, .long 0, .long 0, .long 0, .long 0, .int 0, .int 0, .int 0, .int 0, .ref q41, .int 0, .ref q43, .ref q45, .long 0, .ref q47, .int 0, .int 0, .int 0, .ref q49, .ref q51, .ref q53, .ref q55, .ref q57, .ref q59, .int 0])), (q1, .inl (cA2, 200, .inl (fun _ => 0))), (q3, .inl (cA4, 200, .inl (fun _ => 0))), (q5, .inl (cA6, 200, .inl (fun _ => 0))), (q7, .inl (cA8, 200, .inl (fun _ => 0))), (q9, .inl (cA10, 200, .inl (fun _ => 0))), (q11, .inl (cA12, 4, .inl (fun _ => 0))), (q13, .inl (cA14, 4, .inl (fun _ => 0))), (q15, .inl (cA16, 4, .inl (fun _ => 0))), (q41, .inl (cA42, 400, .inl (fun _ => 0))), (q43, .inl (cA44, 4608, .inl (fun _ => 0))), (q45, .inl (cA46, 64, .inl (fun _ => 0))), (q59, .inl (cA60, 64, .inl (fun _ => 0)))] := hD
  have hP := hP.sub (ws' := [(h0, .inr (9, [.int 0, .ref q1, .ref q3, .ref q5, .ref q7, .ref q9, .int 0, .int 0, .ref q11, .ref q13, .ref q15, .int 0, .int 0, .int (-1), .int 0, .ref q17, .ref q19, .ref q21, .ref q23, .ref q25, .ref q27, .ref q29, .ref q31, .int 0, .int 0, .ref q33, .ref q35, .ref q37, .ref q39, .long 0, .long 0, .int 0, .long 0, .long 0, .long 0, .long 0, .int 0, .int 0, .int 0, .int 0, .ref q41, .int 0, .ref q43, .ref q45, .long 0, .ref q47, .int 0, .int 0, .int 0, .ref q49, .ref q51, .ref q53, .ref q55, .ref q57, .ref q59, .int 0])), (q1, .inl (cA2, 200, .inl (fun _ => 0))), (q3, .inl (cA4, 200, .inl (fun _ => 0))), (q5, .inl (cA6, 200, .inl (fun _ => 0))), (q7, .inl (cA8, 200, .inl (fun _ => 0))), (q9, .inl (cA10, 200, .inl (fun _ => 0))), (q11, .inl (cA12, 4, .inl (fun _ => 0))), (q13, .inl (cA14, 4, .inl (fun _ => 0))), (q15, .inl (cA16, 4, .inl (fun _ => 0))), (q41, .inl (cA42, 400, .inl (fun _ => 0))), (q43, .inl (cA44, 4608, .inl (fun _ => 0))), (q45, .inl (cA46, 64, .inl (fun _ => 0)))]) [0, 1, 2, 3, 4, 5, 6, 7, 8, 9, 10, 11] rfl
  have hD := hD.sub (ws' := [(h0, .inr (9, [.int 0, .ref q1, .ref q3, .ref q5, .ref q7, .ref q9, .int 0, .int 0, .ref q11, .ref q13, .ref q15, .int 0, .int 0, .int (-1), .int 0, .ref q17, .ref q19, .ref q21, .ref q23, .ref q25, .ref q27, .ref q29, .ref q31, .int 0, .int 0, .ref q33, .ref q35, .ref q37, .ref q39, .long 0, .long 0, .int 0, .long 0, .long 0, .long 0, .long 0, .int 0, .int 0, .int 0, .int 0, .ref q41, .int 0, .ref q43, .ref q45, .long 0, .ref q47, .int 0, .int 0, .int 0, .ref q49, .ref q51, .ref q53, .ref q55, .ref q57, .ref q59, .int 0])), (q1, .inl (cA2, 200, .inl (fun _ => 0))), (q3, .inl (cA4, 200, .inl (fun _ => 0))), (q5, .inl (cA6, 200, .inl (fun _ => 0))), (q7, .inl (cA8, 200, .inl (fun _ => 0))), (q9, .inl (cA10, 200, .inl (fun _ => 0))), (q11, .inl (cA12, 4, .inl (fun _ => 0))), (q13, .inl (cA14, 4, .inl (fun _ => 0))), (q15, .inl (cA16, 4, .inl (fun _ => 0))), (q41, .inl (cA42, 400, .inl (fun _ => 0))), (q43, .inl (cA44, 4608, .inl (fun _ => 0))), (q45, .inl (cA46, 64, .inl (fun _ => 0)))]) [0, 1, 2, 3, 4, 5, 6, 7, 8, 9, 10, 11] (by decide) rfl
  have hK := hK.sub (tys' := [(cA2, .int), (cA4, .int), (cA6, .int), (cA8, .int), (cA10, .int), (cA12, .int), (cA14, .int), (cA16, .int), (cA42, .byte), (cA44, .byte), (cA46, .boolean)]) [0, 1, 2, 3, 4, 5, 6, 7, 8, 9, 10] rfl
  have hP9 := hP.sub (ws' := [(h0, .inr (9, [.int 0, .ref q1, .ref q3, .ref q5, .ref q7, .ref q9, .int 0, .int 0, .ref q11, .ref q13, .ref q15, .int 0, .int 0, .int (-1), .int 0, .ref q17, .ref q19, .ref q21, .ref q23, .ref q25, .ref q27, .ref q29, .ref q31, .int 0, .int 0, .ref q33, .ref q35, .ref q37, .ref q39, .long 0, .long 0, .int 0, .long 0, .long 0, .long 0, .long 0, .int 0, .int 0, .int 0, .int 0, .ref q41, .int 0, .ref q43, .ref q45, .long 0, .ref q47, .int 0, .int 0, .int 0, .ref q49, .ref q51, .ref q53, .ref q55, .ref q57, .ref q59, .int 0])), (q1, .inl (cA2, 200, .inl (fun _ => 0))), (q3, .inl (cA4, 200, .inl (fun _ => 0))), (q5, .inl (cA6, 200, .inl (fun _ => 0))), (q7, .inl (cA8, 200, .inl (fun _ => 0))), (q9, .inl (cA10, 200, .inl (fun _ => 0))), (q11, .inl (cA12, 4, .inl (fun _ => 0))), (q13, .inl (cA14, 4, .inl (fun _ => 0))), (q15, .inl (cA16, 4, .inl (fun _ => 0))), (q41, .inl (cA42, 400, .inl (fun _ => 0))), (q43, .inl (cA44, 4608, .inl (fun _ => 0))), (q45, .inl (cA46, 64, .inl (fun _ => 0)))]) [0, 1, 2, 3, 4, 5, 6, 7, 8, 9, 10, 11] rfl
  have hD9 := hD.sub (ws' := [(h0, .inr (9, [.int 0, .ref q1, .ref q3, .ref q5, .ref q7, .ref q9, .int 0, .int 0, .ref q11, .ref q13, .ref q15, .int 0, .int 0, .int (-1), .int 0, .ref q17, .ref q19, .ref q21, .ref q23, .ref q25, .ref q27, .ref q29, .ref q31, .int 0, .int 0, .ref q33, .ref q35, .ref q37, .ref q39, .long 0, .long 0, .int 0, .long 0, .long 0, .long 0, .long 0, .int 0, .int 0, .int 0, .int 0, .ref q41, .int 0, .ref q43, .ref q45, .long 0, .ref q47, .int 0, .int 0, .int 0, .ref q49, .ref q51, .ref q53, .ref q55, .ref q57, .ref q59, .int 0])), (q1, .inl (cA2, 200, .inl (fun _ => 0))), (q3, .inl (cA4, 200, .inl (fun _ => 0))), (q5, .inl (cA6, 200, .inl (fun _ => 0))), (q7, .inl (cA8, 200, .inl (fun _ => 0))), (q9, .inl (cA10, 200, .inl (fun _ => 0))), (q11, .inl (cA12, 4, .inl (fun _ => 0))), (q13, .inl (cA14, 4, .inl (fun _ => 0))), (q15, .inl (cA16, 4, .inl (fun _ => 0))), (q41, .inl (cA42, 400, .inl (fun _ => 0))), (q43, .inl (cA44, 4608, .inl (fun _ => 0))), (q45, .inl (cA46, 64, .inl (fun _ => 0)))]) [0, 1, 2, 3, 4, 5, 6, 7, 8, 9, 10, 11] (by decide) rfl
  have hK9 := hK.sub (tys' := [(cA2, .int), (cA4, .int), (cA6, .int), (cA8, .int), (cA10, .int), (cA12, .int), (cA14, .int), (cA16, .int), (cA42, .byte), (cA44, .byte), (cA46, .boolean)]) [0, 1, 2, 3, 4, 5, 6, 7, 8, 9, 10] rfl
  refine W.widen (k := 30) (n := 29565) (by omega) (by omega) ?_
  exact W.vret hx hb hr (fun t ht hW => ⟨⟨(), rfl, trivial, q1, cA2, q3, cA4, q5, cA6, q7, cA8, q9, cA10, q11, cA12, q13, cA14, q15, cA16, q17, q19, q21, q23, q25, q27, q29, q31, q33, q35, q37, q39, q41, cA42, q43, cA44, q45, cA46, q47, q49, q51, q53, q55, q57, q59, by rw [ht]; exact hP9, va_K.moved hW.alike hK9, hD9⟩, hS.F ht⟩) hS.2.2 d_Mo_init_263
end
