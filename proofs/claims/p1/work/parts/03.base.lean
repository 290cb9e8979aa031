/-! What every contract of this claim says of its start: the world, the tables' words that don't ride in a contract's own list, the statics of Throwable where something is thrown. -/
theorem ks_move {C n d : String} {u U : State} (hvm : u.vm.Alike U.vm) (hh : ∀ q : Nat, q < u.heap.size → U.heap[q]? = u.heap[q]?) (h : (Cond.laysStatic C n d).before #[] u = true) (hr : (Cond.isRef (.static C n d)).before #[] u = true) :
    (Cond.laysStatic C n d).before #[] U = true ∧ (Cond.isRef (.static C n d)).before #[] U = true := by
  obtain ⟨c, k, i, f, a, cell, h1, h2, h3, h4, h5, h6, h7, h8, h9⟩ := Cond.laysStatic_spec h
  obtain ⟨k', hi', he⟩ := State.fieldFound?_setVm hvm h2
  have g1 : U.vm.findClass C = some c := by rw [hvm.findClass]; exact h1
  have g5 : U.heap[a]? = some cell := by rw [hh a (Array.getElem?_eq_some_iff.mp h5).1]; exact h5
  have g4 : k'.statics = some a := by rw [he]; exact h4
  have g9 : k'.staticTypes[f.slot]? = some f.type := by rw [he]; exact h9
  have hi2 : U.fieldFound? C n d = some (c, k', i, f) := hi'
  have e0 : (Term.static C n d).eval #[] u none [] u = cell.slots[f.slot]? := by simp [Term.eval, State.fieldNamed?, h2, h3, h4, h5, h6]
  have e1 : (Term.static C n d).eval #[] U none [] U = cell.slots[f.slot]? := by simp [Term.eval, State.fieldNamed?, hi2, h3, g4, g5, h6]
  refine ⟨?_, ?_⟩
  · simp only [Cond.before, Cond.holds, Cond.value, g1, hi2, g4, g5, Option.bind_some, Option.map_some, h3, h6, h7, g9]
    simp [h8]
  · simp only [Cond.before, Cond.holds, Cond.value, e0] at hr
    simp only [Cond.before, Cond.holds, Cond.value, e1]
    exact hr
def zz_ST (n d : String) (U : State) : Prop := (Cond.laysStatic Bundle.tN n d).before #[] U = true ∧ (Cond.isRef (.static Bundle.tN n d)).before #[] U = true
def zz_S (U : State) : Prop := zz_ST "UNASSIGNED_STACK" Bundle.steD U ∧ zz_ST "SUPPRESSED_SENTINEL" Bundle.listD U
theorem zz_S.move {u U : State} (hvm : u.vm.Alike U.vm) (hh : ∀ q : Nat, q < u.heap.size → U.heap[q]? = u.heap[q]?) (h : zz_S u) : zz_S U :=
  ⟨ks_move hvm hh h.1.1 h.1.2, ks_move hvm hh h.2.1 h.2.2⟩
theorem zz_T.warm {s U : State} (hW : s.WarmedH U.vm) (h : zz_T s) : zz_T U := by
  obtain ⟨h1, h2, h3, h4⟩ := h
  refine ⟨fun w hw => ?_, va_AO.moved hW.alike h2, va_Nc.moved hW.alike h3, fun r hr => ?_⟩
  · have h9 := h1 w hw
    simp only [zz_NT, List.mem_cons, List.not_mem_nil, or_false] at hw
    rcases hw with rfl | rfl | rfl | rfl | rfl | rfl | rfl | rfl | rfl | rfl | rfl | rfl | rfl <;> first | exact va_Nw.warmM hW h9 | exact va_Nw.warmC hW h9 | exact va_Nw.warmD hW h9
  · obtain ⟨q, hq⟩ := h4 r hr
    exact ⟨q, vk_R.warm hW hq⟩
/-- the start of a contract: the heap's size, the world, its classes, its cells apart, the tables' other words -/
def zz_B (dC : Nat → ClassId) (dI : Nat → Nat → Nat) (ws : va_W) (tys : List (ClassId × FieldType)) (sz : Nat) : State → Prop := fun U => U.heap.size = sz ∧ va_P (dC, dI) classes ws U.heap ∧ va_K (dC, dI) classes tys U ∧ va_D (fun _ => True) ws ∧ zz_T U
def zz_BS (dC : Nat → ClassId) (dI : Nat → Nat → Nat) (ws : va_W) (tys : List (ClassId × FieldType)) (sz : Nat) : State → Prop := fun U => zz_B dC dI ws tys sz U ∧ zz_S U
theorem zz_T.calling {U : State} {g : JFrame} {mk : MethodId} {a : Array Value} (h : zz_T U) : zz_T (U.calling g mk a) := by
  obtain ⟨h1, h2, h3, h4⟩ := h
  exact ⟨fun w hw => va_Nw.same (u := U) (U := U.calling g mk a) (zz_NT_tab w hw) rfl (h1 w hw), h2, h3, fun r hr => h4 r hr⟩
theorem zz_blind {av : List Value} {dC : Nat → ClassId} {dI : Nat → Nat → Nat} {ws : va_W} {tys : List (ClassId × FieldType)} {sz : Nat} : FrameBlind (va_Pc av (zz_B dC dI ws tys sz)) := by
  intro a U g mk q
  obtain ⟨q0, q1, qP, qK, qD, qT⟩ := q
  exact ⟨q0, q1, qP, va_K.moved (u := U) (U := U.calling g mk a) (Vm.Alike.refl U.vm) qK, qD, qT.calling⟩
theorem zz_blindS {av : List Value} {dC : Nat → ClassId} {dI : Nat → Nat → Nat} {ws : va_W} {tys : List (ClassId × FieldType)} {sz : Nat} : FrameBlind (va_Pc av (zz_BS dC dI ws tys sz)) := by
  intro a U g mk q
  obtain ⟨q0, ⟨q1, qP, qK, qD, qT⟩, qS⟩ := q
  exact ⟨q0, ⟨q1, qP, va_K.moved (u := U) (U := U.calling g mk a) (Vm.Alike.refl U.vm) qK, qD, qT.calling⟩, qS⟩
theorem zz_pre {dC : Nat → ClassId} {dI : Nat → Nat → Nat} {ws : va_W} {tys : List (ClassId × FieldType)} {s : State} {H : Heap} {A : Nat → Prop} (hP : va_P (dC, dI) classes ws H) (hK : va_K (dC, dI) classes tys s) (hD : va_D A ws) (hT : zz_T s) :
    ∀ U : State, U.heap = H → s.WarmedH U.vm → zz_B dC dI ws tys H.size U := fun U hU hW => ⟨by rw [hU], by rw [hU]; exact hP, va_K.moved hW.alike hK, hD.weaken (fun _ _ _ _ => trivial), hT.warm hW⟩
theorem zz_preS {dC : Nat → ClassId} {dI : Nat → Nat → Nat} {ws : va_W} {tys : List (ClassId × FieldType)} {s : State} {H : Heap} {A : Nat → Prop} (hP : va_P (dC, dI) classes ws H) (hK : va_K (dC, dI) classes tys s) (hD : va_D A ws) (hT : zz_T s) (hS : zz_S s) (hh : ∀ q : Nat, q < s.heap.size → H[q]? = s.heap[q]?) :
    ∀ U : State, U.heap = H → s.WarmedH U.vm → zz_BS dC dI ws tys H.size U := fun U hU hW => ⟨zz_pre hP hK hD hT U hU hW, hS.move hW.alike (fun q hq => by rw [hU]; exact hh q hq)⟩
/-- words of a call, out of the one list -/
theorem zz_good {w : Cond} (h : w ∈ zz_W) : w ∈ zz_W ∧ ((w.onTables && w.keeps) = true ∨ ∃ ty, w = .arrayClass ty) := ⟨h, good_of_word (List.all_eq_true.mp zz_W_good w h)⟩
theorem zz_goodC {c : Cond} (h : c ∈ zz_W) : GoodIn zz_W (c :: zz_W) := fun w hw => by
  rcases List.mem_cons.mp hw with rfl | hw
  · exact zz_good h
  · exact zz_good hw
section ZZC
variable {R : Room} {s : State} {args : Array Value} {own C : String} {index maxL mc ms : Nat} {y : MethodName} {bytes : ByteArray} {ret : Option FieldType} {rm : Room}
theorem zz_cB (n : Nat) (hts : ∀ w ∈ zz_W, w.before args s = true) (hl : .methodLink own index y ∈ zz_W) (hc : .code y bytes maxL ret ∈ zz_W) (hini : .initialized y.cls ∈ zz_W) (hrc : rm.cells = mc) (hrs : rm.slots = ms)
    (hd : y.cls ≠ "java/lang/invoke/MethodHandle" ∧ y.cls ≠ "java/lang/invoke/VarHandle" ∧ (parseMethodDescriptor y.desc).map (fun d => d.parameters.length) = some n) (hR : rm.frames + 1 ≤ R.frames ∧ 8 + (maxL + 11) + rm.locals ≤ R.locals) :
    CallB R s args own index y bytes maxL ret (.code y bytes maxL ret :: zz_W) rm mc ms n := callB_of n hts (zz_goodC hc) rfl hrc hrs (hts _ hini) (hts _ hl) hd hR
theorem zz_cV (n : Nat) (hts : ∀ w ∈ zz_W, w.before args s = true) (hl : .methodLink own index y ∈ zz_W) (hc : .code y bytes maxL ret ∈ zz_W) (hini : .initialized y.cls ∈ zz_W) (hi : .instanceMethod y ∈ zz_W) (hsel : .selects C y y ∈ zz_W) (hrc : rm.cells = mc) (hrs : rm.slots = ms)
    (hd : y.cls ≠ "java/lang/invoke/MethodHandle" ∧ y.cls ≠ "java/lang/invoke/VarHandle" ∧ (parseMethodDescriptor y.desc).map (fun d => d.parameters.length) = some n) (hR : rm.frames + 1 ≤ R.frames ∧ 8 + (maxL + 11) + rm.locals ≤ R.locals) :
    CallW R s args own C index y bytes maxL ret (.code y bytes maxL ret :: zz_W) rm mc ms n := ⟨zz_cB n hts hl hc hini hrc hrs hd hR, hts _ hi, hts _ hsel⟩
theorem zz_cI (n : Nat) (hts : ∀ w ∈ zz_W, w.before args s = true) (hl : .methodLink own index y ∈ zz_W) (hc : .code y bytes maxL none ∈ zz_W) (hini : .initialized y.cls ∈ zz_W) (hi : .instanceMethod y ∈ zz_W) (hn : y.name = "<init>") (hrc : rm.cells = mc) (hrs : rm.slots = ms)
    (hd : y.cls ≠ "java/lang/invoke/MethodHandle" ∧ y.cls ≠ "java/lang/invoke/VarHandle" ∧ (parseMethodDescriptor y.desc).map (fun d => d.parameters.length) = some n) (hR : rm.frames + 1 ≤ R.frames ∧ 8 + (maxL + 11) + rm.locals ≤ R.locals) :
    CallB R s args own index y bytes maxL none (.code y bytes maxL none :: zz_W) rm mc ms n ∧ y.name = "<init>" ∧ (Cond.instanceMethod y).before args s = true := ⟨zz_cB n hts hl hc hini hrc hrs hd hR, hn, hts _ hi⟩
theorem zz_cS (n : Nat) (hts : ∀ w ∈ zz_W, w.before args s = true) (hl : .methodLink own index y ∈ zz_W) (hc : .code y bytes maxL ret ∈ zz_W) (hini : .initialized y.cls ∈ zz_W) (hst : .static y ∈ zz_W) (hrc : rm.cells = mc) (hrs : rm.slots = ms)
    (hd : y.cls ≠ "java/lang/invoke/MethodHandle" ∧ y.cls ≠ "java/lang/invoke/VarHandle" ∧ (parseMethodDescriptor y.desc).map (fun d => d.parameters.length) = some n) (hR : rm.frames + 1 ≤ R.frames ∧ 8 + (maxL + 11) + rm.locals ≤ R.locals) :
    CallB R s args own index y bytes maxL ret (.code y bytes maxL ret :: zz_W) rm mc ms n ∧ (Cond.static y).before args s = true := ⟨zz_cB n hts hl hc hini hrc hrs hd hR, hts _ hst⟩
theorem zz_cN {host : String} (n : Nat) (hts : ∀ w ∈ zz_W, w.before args s = true) (hT : zz_T s) (hl : .methodLinkNest own index y host ∈ zz_NT) (hc : .code y bytes maxL ret ∈ zz_W) (hini : .initialized y.cls ∈ zz_W) (hrc : rm.cells = mc) (hrs : rm.slots = ms)
    (hd : y.cls ≠ "java/lang/invoke/MethodHandle" ∧ y.cls ≠ "java/lang/invoke/VarHandle" ∧ (parseMethodDescriptor y.desc).map (fun d => d.parameters.length) = some n) (hR : rm.frames + 1 ≤ R.frames ∧ 8 + (maxL + 11) + rm.locals ≤ R.locals) :
    va_CN R s args own index y host bytes maxL ret (.code y bytes maxL ret :: zz_W) rm mc ms n := va_cnB n hts (zz_goodC hc) rfl hrc hrs (hT.1 _ hl) (hts _ hini) hd hR
end ZZC

theorem zz_D0 {A : Nat → Prop} : va_D A [] := ⟨fun i j p q h => by simp at h, fun k q h => by simp at h⟩
theorem zz_A0 {sz q : Nat} (h : va_A [] sz q) : sz ≤ q := by
  rcases h with ⟨k, e, h⟩ | h
  · simp at h
  · exact h
theorem zz_Af {A : Nat → Prop} {H0 H : Heap} {locs : List Loc} {q : Nat} (hS : va_S A H0 H locs) (hA : ∀ q, H0.size ≤ q → A q) (h : va_A [] H.size q) : A q := hA q (Nat.le_trans hS.1 (zz_A0 h))
theorem zz_keep {D : va_G} {cl : List vw_C} {ws : va_W} {H H1 : Heap} (hP : va_P D cl ws H) (hk : ∀ q : Nat, q < H.size → ¬ va_A [] H.size q → H1[q]? = H[q]?) : va_P D cl ws H1 := fun k q h => (hP k q h).kept (hk q.1 (hP k q h).lt (fun z => absurd (zz_A0 z) (Nat.not_le.mpr (hP k q h).lt)))
theorem zz_keep2 {D : va_G} {cl : List vw_C} {ws : va_W} {H H1 : Heap} (hP : va_P D cl ws H) (hk : ∀ q : Nat, q < H.size → H1[q]? = H[q]?) : va_P D cl ws H1 := fun k q h => (hP k q h).kept (hk q.1 (hP k q h).lt)
theorem zz_Sg {A : Nat → Prop} {H0 H H1 : Heap} {locs : List Loc} (hS : va_S A H0 H locs) (hz : H.size ≤ H1.size) (hk : ∀ q : Nat, q < H.size → H1[q]? = H[q]?) : va_S A H0 H1 locs := ⟨Nat.le_trans hS.1 hz, fun q h1 h2 => (hk q (Nat.lt_of_lt_of_le h1 hS.1)).trans (hS.2.1 q h1 h2), hS.2.2⟩
theorem zz_S.st {args : Array Value} {s : State} (h : zz_S s) : th_st args s := ⟨h.1.2, h.2.2⟩
theorem zz_up {args : Array Value} {s : State} (hts : ∀ w ∈ zz_W, w.before args s = true) (hT : zz_T s) (hZ : zz_S s) : ∀ a ∈ th_up, a.before args s = true := by
  intro a ha
  rcases zz_up_in a ha with h | h | rfl | rfl
  · exact hts a h
  · exact va_Nw.use (zz_NT_tab a h) (hT.1 a h)
  · exact hZ.1.1
  · exact hZ.2.1
theorem zz_own_IAE {args : Array Value} {s : State} (hts : ∀ w ∈ zz_W, w.before args s = true) (hT : zz_T s) : ∀ a ∈ th_own R_FG 69 E_IAE 7 prog_17_method_2_code, a.before args s = true := by
  intro a ha
  rcases zz_ow_IAE a ha with h | h
  · exact hts a h
  · exact va_Nw.use (zz_NT_tab a h) (hT.1 a h)
theorem zz_own_ISE {args : Array Value} {s : State} (hts : ∀ w ∈ zz_W, w.before args s = true) (hT : zz_T s) : ∀ a ∈ th_own R_FG 80 E_ISE 7 prog_18_method_2_code, a.before args s = true := by
  intro a ha
  rcases zz_ow_ISE a ha with h | h
  · exact hts a h
  · exact va_Nw.use (zz_NT_tab a h) (hT.1 a h)
theorem zz_own_IOE {args : Array Value} {s : State} (hts : ∀ w ∈ zz_W, w.before args s = true) (hT : zz_T s) : ∀ a ∈ th_own R_FG 109 E_IOE 7 prog_19_method_2_code, a.before args s = true := by
  intro a ha
  rcases zz_ow_IOE a ha with h | h
  · exact hts a h
  · exact va_Nw.use (zz_NT_tab a h) (hT.1 a h)
theorem zz_own_NSE {args : Array Value} {s : State} (hts : ∀ w ∈ zz_W, w.before args s = true) (hT : zz_T s) : ∀ a ∈ th_own R_FG 130 E_NSE 13 prog_28_method_4_code, a.before args s = true := by
  intro a ha
  rcases zz_ow_NSE a ha with h | h
  · exact hts a h
  · exact va_Nw.use (zz_NT_tab a h) (hT.1 a h)
theorem zz_goodS {own : String} {index : Nat} {y : MethodName} {cw : Cond} (hl : .methodLink own index y ∈ zz_W) (hs : .static y ∈ zz_W) (hi : .initialized own ∈ zz_W) (hc : cw ∈ zz_W) : GoodIn zz_W (wsS own index y (cw :: zz_W)) := by
  intro w hw
  simp only [wsS, List.mem_append, List.mem_cons, List.not_mem_nil, or_false] at hw
  rcases hw with (rfl | rfl | rfl) | rfl | hw
  · exact zz_good hl
  · exact zz_good hs
  · exact zz_good hi
  · exact zz_good hc
  · exact zz_good hw
theorem zz_m1 {i : Int32} (h1 : ¬ i < 0) (h2 : ¬ (-1 : Int32) < i) : False := by
  rw [Int32.lt_iff_toInt_lt] at h1 h2
  have e0 : (0 : Int32).toInt = 0 := by decide
  have e1 : (-1 : Int32).toInt = -1 := by decide
  omega
theorem zz_z0 {i : Int32} (h1 : ¬ i < 0) (h2 : ¬ (0 : Int32) < i) : i = 0 := by
  rw [Int32.lt_iff_toInt_lt] at h1 h2
  have e0 : (0 : Int32).toInt = 0 := by decide
  exact Int32.toInt_inj.mp (by omega)
