set_option maxHeartbeats 4000000 in
set_option maxRecDepth 100000 in
/-- within: 1 and inside, or 0 and outside -/
theorem FG_within (l : Launch) (dC : Nat → ClassId) (dI : Nat → Nat → Nat) (sz : Nat) (n : Int32) (lo : Int32) (hi : Int32) : Met l y_FG_within (.code y_FG_within prog_1_method_15_code 3 (some .boolean) :: zz_W) ({ frames := 0, cells := 0, slots := 0, locals := 0 }) (va_Pc [.int n, .int lo, .int hi] (zz_B dC dI [] [] sz)) (va_Qi (fun (r : Int32) (_ : Unit) => (r = 1 ∧ ¬ n < lo ∧ ¬ hi < n) ∨ (r = 0 ∧ (n < lo ∨ hi < n))) (fun (_ : Unit) (_ : State) => True) (va_A [] sz)) 0 0 (va_A [] sz) := by
  refine Met.ofW (cc := prog_1_method_15_code) (maxL := 3) (ret := (some .boolean)) (by decide) rfl ?_
  intro p e s m args below meth c s₁ B hml hv
  obtain ⟨rfl, hsz, hP, hK, hD0, hT⟩ := hv
  have hx := B.exec
  have hb := B.bytes
  have hr := B.returns
  have hts0 := atoms_spec (ws := (.code y_FG_within prog_1_method_15_code 3 (some .boolean) :: zz_W)) B.pre
  have hts : ∀ w ∈ zz_W, w.before _ s = true := fun w h => hts0 w (List.mem_cons_of_mem _ h)
  have hown : s.vm.findClass R_FG = some m.cls := findClass_of_methodNamed B.named
  have hlocks := B.notSynchronized
  subst hsz
  generalize hAe : va_A [] s.heap.size = A at ⊢
  have hA : ∀ q : Nat, s.heap.size ≤ q → A q := fun q h => by rw [← hAe]; exact Or.inr h
  have hS : va_S A s.heap s.heap [] := va_S.rf
  have hl := lv_entry ([.int n, .int lo, .int hi]) (n := 3) (Nat.le_of_ble_eq_true rfl)
  rw [lg_entry_eq]
  generalize (lg_sl ([.int n, .int lo, .int hi]) ++ List.replicate (3 - (lg_sl ([.int n, .int lo, .int hi])).length) Slot.unset).toArray = ls at hl ⊢
  have hl : lv_has ls 3 [(0, .int n), (1, .int lo), (2, .int hi)] := hl
  refine lv_iload_n hx hb d_FG_within_0 rfl (lv_at hl 0 rfl) ?_
  refine lv_iload_n hx hb d_FG_within_1 rfl (lv_at hl 1 rfl) ?_
  refine lv_icmp_lt (tgt := 14) hx hb d_FG_within_2 (by decide) (fun cd1 => ?_) (fun cd1 => ?_)
  · refine lv_iconst (v := 0) hx hb d_FG_within_14 (by decide) ?_
    refine W.widen (k := 0) (n := 0) (by omega) (by omega) ?_
    exact W.zret (ty := .boolean) (v := 0) hx hb hr rfl (fun t ht hW => ⟨⟨0, (), rfl, Or.inr ⟨rfl, Or.inl cd1⟩, trivial⟩, hS.F ht⟩) hS.2.2 d_FG_within_15
  · refine lv_iload_n hx hb d_FG_within_5 rfl (lv_at hl 0 rfl) ?_
    refine lv_iload_n hx hb d_FG_within_6 rfl (lv_at hl 2 rfl) ?_
    refine lv_icmp_gt (tgt := 14) hx hb d_FG_within_7 (by decide) (fun cd2 => ?_) (fun cd2 => ?_)
    · refine lv_iconst (v := 0) hx hb d_FG_within_14 (by decide) ?_
      refine W.widen (k := 0) (n := 0) (by omega) (by omega) ?_
      exact W.zret (ty := .boolean) (v := 0) hx hb hr rfl (fun t ht hW => ⟨⟨0, (), rfl, Or.inr ⟨rfl, Or.inr cd2⟩, trivial⟩, hS.F ht⟩) hS.2.2 d_FG_within_15
    · refine lv_iconst (v := 1) hx hb d_FG_within_10 (by decide) ?_
      refine lv_goto (tgt := 15) hx hb d_FG_within_11 (by decide) ?_
      refine W.widen (k := 0) (n := 0) (by omega) (by omega) ?_
      exact W.zret (ty := .boolean) (v := 1) hx hb hr rfl (fun t ht hW => ⟨⟨1, (), rfl, Or.inl ⟨rfl, cd1, cd2⟩, trivial⟩, hS.F ht⟩) hS.2.2 d_FG_within_15
set_option maxHeartbeats 4000000 in
set_option maxRecDepth 100000 in
theorem Ra_init (l : Launch) (dC : Nat → ClassId) (dI : Nat → Nat → Nat) (sz : Nat) (h0 : Nat) : Met l y_Ra_init (.code y_Ra_init prog_8_method_1_code 1 none :: zz_W) ({ frames := 1, cells := 0, slots := 0, locals := 12 }) (va_Pc [.ref h0] (zz_B dC dI [(h0, .inr (7, [.long 0, .long 0]))] [] sz)) (va_Qv (fun (_ : Unit) => True) (fun (_ : Unit) (t : State) => va_P (dC, dI) classes [] t.heap ∧ va_K (dC, dI) classes [] t ∧ va_D (va_A [(h0, .inr (7, [.long 0, .long 0]))] sz) []) (va_A [(h0, .inr (7, [.long 0, .long 0]))] sz)) 0 0 (va_A [(h0, .inr (7, [.long 0, .long 0]))] sz) := by
  refine Met.ofW (cc := prog_8_method_1_code) (maxL := 1) (ret := none) (by decide) rfl ?_
  intro p e s m args below meth c s₁ B hml hv
  obtain ⟨rfl, hsz, hP, hK, hD0, hT⟩ := hv
  have hx := B.exec
  have hb := B.bytes
  have hr := B.returns
  have hts0 := atoms_spec (ws := (.code y_Ra_init prog_8_method_1_code 1 none :: zz_W)) B.pre
  have hts : ∀ w ∈ zz_W, w.before _ s = true := fun w h => hts0 w (List.mem_cons_of_mem _ h)
  have hown : s.vm.findClass R_Ra = some m.cls := findClass_of_methodNamed B.named
  have hlocks := B.notSynchronized
  have hin : meth.name = "<init>" := (name_of_methodNamed B.named B.method).1
  subst hsz
  have hD := hD0.self (sz := s.heap.size)
  generalize hAe : va_A [(h0, .inr (7, [.long 0, .long 0]))] s.heap.size = A at hD ⊢
  have hA : ∀ q : Nat, s.heap.size ≤ q → A q := fun q h => by rw [← hAe]; exact Or.inr h
  have hS : va_S A s.heap s.heap [] := va_S.rf
  have hl := lv_entry ([.ref h0]) (n := 1) (Nat.le_of_ble_eq_true rfl)
  rw [lg_entry_eq]
  generalize (lg_sl ([.ref h0]) ++ List.replicate (1 - (lg_sl ([.ref h0])).length) Slot.unset).toArray = ls at hl ⊢
  have hl : lv_has ls 1 [(0, .ref h0)] := hl
  refine lv_aload_n hx hb d_Ra_init_0 rfl (lv_at hl 0 rfl) ?_
  refine W.objInit hx hb hown (hts _ mw_218) (hts _ mw_33) (hts _ mw_oinit) rfl (by rw [hml]; exact hl.1) rfl d_Ra_init_1 (Nat.le_of_ble_eq_true rfl) (Nat.le_of_ble_eq_true rfl) ?_
  refine W.eq (g2 := F0 m 4 ls []) rfl ?_
  have hP9 := hP.sub (ws' := []) [] rfl
  have hD9 := hD.sub (ws' := []) [] (by decide) rfl
  have hK9 := hK.sub (tys' := []) [] rfl
  refine W.widen (k := 0) (n := 0) (by omega) (by omega) ?_
  exact W.vret hx hb hr (fun t ht hW => ⟨⟨(), rfl, trivial, by rw [ht]; exact hP9, va_K.moved hW.alike hK9, hD9⟩, hS.F ht⟩) hS.2.2 d_Ra_init_4
set_option maxHeartbeats 4000000 in
set_option maxRecDepth 100000 in
theorem St_init (l : Launch) (dC : Nat → ClassId) (dI : Nat → Nat → Nat) (sz : Nat) (h0 : Nat) : Met l y_St_init (.code y_St_init prog_12_method_1_code 1 none :: zz_W) ({ frames := 1, cells := 6, slots := 103, locals := 12 }) (va_Pc [.ref h0] (zz_B dC dI [(h0, .inr (6, [.null, .null, .null, .null, .null, .null, .int 0, .int 0]))] [] sz)) (va_Qv (fun (_ : Unit) => True) (fun (_ : Unit) (t : State) => ∃ (q1 : Nat) (q3 : Nat) (q5 : Nat) (q7 : Nat) (q9 : Nat) (q11 : Nat), va_P (dC, dI) classes [(h0, .inr (6, [.ref q1, .ref q3, .ref q5, .ref q7, .ref q9, .ref q11, .int 0, .int 0]))] t.heap ∧ va_K (dC, dI) classes [] t ∧ va_D (va_A [(h0, .inr (6, [.null, .null, .null, .null, .null, .null, .int 0, .int 0]))] sz) [(h0, .inr (6, [.ref q1, .ref q3, .ref q5, .ref q7, .ref q9, .ref q11, .int 0, .int 0]))]) (va_A [(h0, .inr (6, [.null, .null, .null, .null, .null, .null, .int 0, .int 0]))] sz)) 6 103 (va_A [(h0, .inr (6, [.null, .null, .null, .null, .null, .null, .int 0, .int 0]))] sz) := by
  refine Met.ofW (cc := prog_12_method_1_code) (maxL := 1) (ret := none) (by decide) rfl ?_
  intro p e s m args below meth c s₁ B hml hv
  obtain ⟨rfl, hsz, hP, hK, hD0, hT⟩ := hv
  have hx := B.exec
  have hb := B.bytes
  have hr := B.returns
  have hts0 := atoms_spec (ws := (.code y_St_init prog_12_method_1_code 1 none :: zz_W)) B.pre
  have hts : ∀ w ∈ zz_W, w.before _ s = true := fun w h => hts0 w (List.mem_cons_of_mem _ h)
  have hown : s.vm.findClass R_St = some m.cls := findClass_of_methodNamed B.named
  have hlocks := B.notSynchronized
  have hin : meth.name = "<init>" := (name_of_methodNamed B.named B.method).1
  subst hsz
  have hD := hD0.self (sz := s.heap.size)
  generalize hAe : va_A [(h0, .inr (6, [.null, .null, .null, .null, .null, .null, .int 0, .int 0]))] s.heap.size = A at hD ⊢
  have hA : ∀ q : Nat, s.heap.size ≤ q → A q := fun q h => by rw [← hAe]; exact Or.inr h
  have hS : va_S A s.heap s.heap [] := va_S.rf
  have hl := lv_entry ([.ref h0]) (n := 1) (Nat.le_of_ble_eq_true rfl)
  rw [lg_entry_eq]
  generalize (lg_sl ([.ref h0]) ++ List.replicate (1 - (lg_sl ([.ref h0])).length) Slot.unset).toArray = ls at hl ⊢
  have hl : lv_has ls 1 [(0, .ref h0)] := hl
  refine lv_aload_n hx hb d_St_init_0 rfl (lv_at hl 0 rfl) ?_
  refine W.objInit hx hb hown (hts _ mw_177) (hts _ mw_33) (hts _ mw_oinit) rfl (by rw [hml]; exact hl.1) rfl d_St_init_1 (Nat.le_of_ble_eq_true rfl) (Nat.le_of_ble_eq_true rfl) ?_
  refine W.eq (g2 := F0 m 4 ls []) rfl ?_
  refine lv_aload_n hx hb d_St_init_4 rfl (lv_at hl 0 rfl) ?_
  refine lv_bipush (v := 19) hx hb d_St_init_5 (by decide) ?_
  refine va_newa (atype := .int) (a0 := (19, .inl (fun _ => 0))) (ty := .int) hx hb (hts _ mw_73) rfl hK hP hD hS hA (fun _ => rfl) (by decide) (by decide) (by decide) (Nat.le_of_ble_eq_true rfl) (Nat.le_of_ble_eq_true rfl) d_St_init_7 (fun q1 cA2 H hK hP hD hS => ?_)
  have hP : va_P (dC, dI) classes [(h0, .inr (6, [.null, .null, .null, .null, .null, .null, .int 0, .int 0])), (q1, .inl (cA2, 19, .inl (fun _ => 0)))] H := hP
  have hD : va_D A [(h0, .inr (6, [.null, .null, .null, .null, .null, .null, .int 0, .int 0])), (q1, .inl (cA2, 19, .inl (fun _ => 0)))] := hD
  have hK : va_K (dC, dI) classes [(cA2, .int)] s := hK
  refine W.widen (k := 1) (n := 19) (by omega) (by omega) ?_
  refine va_putF (D := (dC, dI)) (ci := 6) (v := .ref q1) (ty := (.array .int)) (C := R_St) (T := F_St) (N := 8) hx hb hts i_St t_St t_St_ok n_St hown hK hP hD hS 0 rfl rfl 0 (by decide) (hts _ mw_178) (fun _ h9 => h9) rfl hin rfl (by decide +kernel) rfl rfl (Nat.le_of_ble_eq_true rfl) d_St_init_9 (fun H locs hP hD hS => ?_)
  have hP : va_P (dC, dI) classes [(h0, .inr (6, [.ref q1, .null, .null, .null, .null, .null, .int 0, .int 0])), (q1, .inl (cA2, 19, .inl (fun _ => 0)))] H := hP
  have hD : va_D A [(h0, .inr (6, [.ref q1, .null, .null, .null, .null, .null, .int 0, .int 0])), (q1, .inl (cA2, 19, .inl (fun _ => 0)))] := hD
  refine lv_aload_n hx hb d_St_init_12 rfl (lv_at hl 0 rfl) ?_
  refine lv_bipush (v := 19) hx hb d_St_init_13 (by decide) ?_
  refine va_newa (atype := .int) (a0 := (19, .inl (fun _ => 0))) (ty := .int) hx hb (hts _ mw_73) rfl hK hP hD hS hA (fun _ => rfl) (by decide) (by decide) (by decide) (Nat.le_of_ble_eq_true rfl) (Nat.le_of_ble_eq_true rfl) d_St_init_15 (fun q3 cA4 H hK hP hD hS => ?_)
  have hP : va_P (dC, dI) classes [(h0, .inr (6, [.ref q1, .null, .null, .null, .null, .null, .int 0, .int 0])), (q1, .inl (cA2, 19, .inl (fun _ => 0))), (q3, .inl (cA4, 19, .inl (fun _ => 0)))] H := hP
  have hD : va_D A [(h0, .inr (6, [.ref q1, .null, .null, .null, .null, .null, .int 0, .int 0])), (q1, .inl (cA2, 19, .inl (fun _ => 0))), (q3, .inl (cA4, 19, .inl (fun _ => 0)))] := hD
  have hK : va_K (dC, dI) classes [(cA2, .int), (cA4, .int)] s := hK
  refine W.widen (k := 2) (n := 38) (by omega) (by omega) ?_
  refine va_putF (D := (dC, dI)) (ci := 6) (v := .ref q3) (ty := (.array .int)) (C := R_St) (T := F_St) (N := 8) hx hb hts i_St t_St t_St_ok n_St hown hK hP hD hS 0 rfl rfl 1 (by decide) (hts _ mw_180) (fun _ h9 => h9) rfl hin rfl (by decide +kernel) rfl rfl (Nat.le_of_ble_eq_true rfl) d_St_init_17 (fun H locs hP hD hS => ?_)
  have hP : va_P (dC, dI) classes [(h0, .inr (6, [.ref q1, .ref q3, .null, .null, .null, .null, .int 0, .int 0])), (q1, .inl (cA2, 19, .inl (fun _ => 0))), (q3, .inl (cA4, 19, .inl (fun _ => 0)))] H := hP
  have hD : va_D A [(h0, .inr (6, [.ref q1, .ref q3, .null, .null, .null, .null, .int 0, .int 0])), (q1, .inl (cA2, 19, .inl (fun _ => 0))), (q3, .inl (cA4, 19, .inl (fun _ => 0)))] := hD
  refine lv_aload_n hx hb d_St_init_20 rfl (lv_at hl 0 rfl) ?_
  refine lv_bipush (v := 19) hx hb d_St_init_21 (by decide) ?_
  refine va_newa (atype := .int) (a0 := (19, .inl (fun _ => 0))) (ty := .int) hx hb (hts _ mw_73) rfl hK hP hD hS hA (fun _ => rfl) (by decide) (by decide) (by decide) (Nat.le_of_ble_eq_true rfl) (Nat.le_of_ble_eq_true rfl) d_St_init_23 (fun q5 cA6 H hK hP hD hS => ?_)
  have hP : va_P (dC, dI) classes [(h0, .inr (6, [.ref q1, .ref q3, .null, .null, .null, .null, .int 0, .int 0])), (q1, .inl (cA2, 19, .inl (fun _ => 0))), (q3, .inl (cA4, 19, .inl (fun _ => 0))), (q5, .inl (cA6, 19, .inl (fun _ => 0)))] H := hP
  have hD : va_D A [(h0, .inr (6, [.ref q1, .ref q3, .null, .null, .null, .null, .int 0, .int 0])), (q1, .inl (cA2, 19, .inl (fun _ => 0))), (q3, .inl (cA4, 19, .inl (fun _ => 0))), (q5, .inl (cA6, 19, .inl (fun _ => 0)))] := hD
  have hK : va_K (dC, dI) classes [(cA2, .int), (cA4, .int), (cA6, .int)] s := hK
  refine W.widen (k := 3) (n := 57) (by omega) (by omega) ?_
  refine va_putF (D := (dC, dI)) (ci := 6) (v := .ref q5) (ty := (.array .int)) (C := R_St) (T := F_St) (N := 8) hx hb hts i_St t_St t_St_ok n_St hown hK hP hD hS 0 rfl rfl 2 (by decide) (hts _ mw_182) (fun _ h9 => h9) rfl hin rfl (by decide +kernel) rfl rfl (Nat.le_of_ble_eq_true rfl) d_St_init_25 (fun H locs hP hD hS => ?_)
  have hP : va_P (dC, dI) classes [(h0, .inr (6, [.ref q1, .ref q3, .ref q5, .null, .null, .null, .int 0, .int 0])), (q1, .inl (cA2, 19, .inl (fun _ => 0))), (q3, .inl (cA4, 19, .inl (fun _ => 0))), (q5, .inl (cA6, 19, .inl (fun _ => 0)))] H := hP
  have hD : va_D A [(h0, .inr (6, [.ref q1, .ref q3, .ref q5, .null, .null, .null, .int 0, .int 0])), (q1, .inl (cA2, 19, .inl (fun _ => 0))), (q3, .inl (cA4, 19, .inl (fun _ => 0))), (q5, .inl (cA6, 19, .inl (fun _ => 0)))] := hD
  refine lv_aload_n hx hb d_St_init_28 rfl (lv_at hl 0 rfl) ?_
  refine lv_bipush (v := 19) hx hb d_St_init_29 (by decide) ?_
  refine va_newa (atype := .long) (a0 := (19, .inr (.inl (fun _ => 0)))) (ty := .long) hx hb (hts _ mw_165) rfl hK hP hD hS hA (fun _ => rfl) (by decide) (by decide) (by decide) (Nat.le_of_ble_eq_true rfl) (Nat.le_of_ble_eq_true rfl) d_St_init_31 (fun q7 cA8 H hK hP hD hS => ?_)
  have hP : va_P (dC, dI) classes [(h0, .inr (6, [.ref q1, .ref q3, .ref q5, .null, .null, .null, .int 0, .int 0])), (q1, .inl (cA2, 19, .inl (fun _ => 0))), (q3, .inl (cA4, 19, .inl (fun _ => 0))), (q5, .inl (cA6, 19, .inl (fun _ => 0))), (q7, .inl (cA8, 19, .inr (.inl (fun _ => 0))))] H := hP
  have hD : va_D A [(h0, .inr (6, [.ref q1, .ref q3, .ref q5, .null, .null, .null, .int 0, .int 0])), (q1, .inl (cA2, 19, .inl (fun _ => 0))), (q3, .inl (cA4, 19, .inl (fun _ => 0))), (q5, .inl (cA6, 19, .inl (fun _ => 0))), (q7, .inl (cA8, 19, .inr (.inl (fun _ => 0))))] := hD
  have hK : va_K (dC, dI) classes [(cA2, .int), (cA4, .int), (cA6, .int), (cA8, .long)] s := hK
  refine W.widen (k := 4) (n := 76) (by omega) (by omega) ?_
  refine va_putF (D := (dC, dI)) (ci := 6) (v := .ref q7) (ty := (.array .long)) (C := R_St) (T := F_St) (N := 8) hx hb hts i_St t_St t_St_ok n_St hown hK hP hD hS 0 rfl rfl 3 (by decide) (hts _ mw_184) (fun _ h9 => h9) rfl hin rfl (by decide +kernel) rfl rfl (Nat.le_of_ble_eq_true rfl) d_St_init_33 (fun H locs hP hD hS => ?_)
  have hP : va_P (dC, dI) classes [(h0, .inr (6, [.ref q1, .ref q3, .ref q5, .ref q7, .null, .null, .int 0, .int 0])), (q1, .inl (cA2, 19, .inl (fun _ => 0))), (q3, .inl (cA4, 19, .inl (fun _ => 0))), (q5, .inl (cA6, 19, .inl (fun _ => 0))), (q7, .inl (cA8, 19, .inr (.inl (fun _ => 0))))] H := hP
  have hD : va_D A [(h0, .inr (6, [.ref q1, .ref q3, .ref q5, .ref q7, .null, .null, .int 0, .int 0])), (q1, .inl (cA2, 19, .inl (fun _ => 0))), (q3, .inl (cA4, 19, .inl (fun _ => 0))), (q5, .inl (cA6, 19, .inl (fun _ => 0))), (q7, .inl (cA8, 19, .inr (.inl (fun _ => 0))))] := hD
  refine lv_aload_n hx hb d_St_init_36 rfl (lv_at hl 0 rfl) ?_
  refine lv_bipush (v := 19) hx hb d_St_init_37 (by decide) ?_
  refine va_newa (atype := .long) (a0 := (19, .inr (.inl (fun _ => 0)))) (ty := .long) hx hb (hts _ mw_165) rfl hK hP hD hS hA (fun _ => rfl) (by decide) (by decide) (by decide) (Nat.le_of_ble_eq_true rfl) (Nat.le_of_ble_eq_true rfl) d_St_init_39 (fun q9 cA10 H hK hP hD hS => ?_)
  have hP : va_P (dC, dI) classes [(h0, .inr (6, [.ref q1, .ref q3, .ref q5, .ref q7, .null, .null, .int 0, .int 0])), (q1, .inl (cA2, 19, .inl (fun _ => 0))), (q3, .inl (cA4, 19, .inl (fun _ => 0))), (q5, .inl (cA6, 19, .inl (fun _ => 0))), (q7, .inl (cA8, 19, .inr (.inl (fun _ => 0)))), (q9, .inl (cA10, 19, .inr (.inl (fun _ => 0))))] H := hP
  have hD : va_D A [(h0, .inr (6, [.ref q1, .ref q3, .ref q5, .ref q7, .null, .null, .int 0, .int 0])), (q1, .inl (cA2, 19, .inl (fun _ => 0))), (q3, .inl (cA4, 19, .inl (fun _ => 0))), (q5, .inl (cA6, 19, .inl (fun _ => 0))), (q7, .inl (cA8, 19, .inr (.inl (fun _ => 0)))), (q9, .inl (cA10, 19, .inr (.inl (fun _ => 0))))] := hD
  have hK : va_K (dC, dI) classes [(cA2, .int), (cA4, .int), (cA6, .int), (cA8, .long), (cA10, .long)] s := hK
  refine W.widen (k := 5) (n := 95) (by omega) (by omega) ?_
  refine va_putF (D := (dC, dI)) (ci := 6) (v := .ref q9) (ty := (.array .long)) (C := R_St) (T := F_St) (N := 8) hx hb hts i_St t_St t_St_ok n_St hown hK hP hD hS 0 rfl rfl 4 (by decide) (hts _ mw_187) (fun _ h9 => h9) rfl hin rfl (by decide +kernel) rfl rfl (Nat.le_of_ble_eq_true rfl) d_St_init_41 (fun H locs hP hD hS => ?_)
  have hP : va_P (dC, dI) classes [(h0, .inr (6, [.ref q1, .ref q3, .ref q5, .ref q7, .ref q9, .null, .int 0, .int 0])), (q1, .inl (cA2, 19, .inl (fun _ => 0))), (q3, .inl (cA4, 19, .inl (fun _ => 0))), (q5, .inl (cA6, 19, .inl (fun _ => 0))), (q7, .inl (cA8, 19, .inr (.inl (fun _ => 0)))), (q9, .inl (cA10, 19, .inr (.inl (fun _ => 0))))] H := hP
  have hD : va_D A [(h0, .inr (6, [.ref q1, .ref q3, .ref q5, .ref q7, .ref q9, .null, .int 0, .int 0])), (q1, .inl (cA2, 19, .inl (fun _ => 0))), (q3, .inl (cA4, 19, .inl (fun _ => 0))), (q5, .inl (cA6, 19, .inl (fun _ => 0))), (q7, .inl (cA8, 19, .inr (.inl (fun _ => 0)))), (q9, .inl (cA10, 19, .inr (.inl (fun _ => 0))))] := hD
  refine lv_aload_n hx hb d_St_init_44 rfl (lv_at hl 0 rfl) ?_
  refine lv_bipush (v := 8) hx hb d_St_init_45 (by decide) ?_
  refine va_newa (atype := .int) (a0 := (8, .inl (fun _ => 0))) (ty := .int) hx hb (hts _ mw_73) rfl hK hP hD hS hA (fun _ => rfl) (by decide) (by decide) (by decide) (Nat.le_of_ble_eq_true rfl) (Nat.le_of_ble_eq_true rfl) d_St_init_47 (fun q11 cA12 H hK hP hD hS => ?_)
  have hP : va_P (dC, dI) classes [(h0, .inr (6, [.ref q1, .ref q3, .ref q5, .ref q7, .ref q9, .null, .int 0, .int 0])), (q1, .inl (cA2, 19, .inl (fun _ => 0))), (q3, .inl (cA4, 19, .inl (fun _ => 0))), (q5, .inl (cA6, 19, .inl (fun _ => 0))), (q7, .inl (cA8, 19, .inr (.inl (fun _ => 0)))), (q9, .inl (cA10, 19, .inr (.inl (fun _ => 0)))), (q11, .inl (cA12, 8, .inl (fun _ => 0)))] H := hP
  have hD : va_D A [(h0, .inr (6, [.ref q1, .ref q3, .ref q5, .ref q7, .ref q9, .null, .int 0, .int 0])), (q1, .inl (cA2, 19, .inl (fun _ => 0))), (q3, .inl (cA4, 19, .inl (fun _ => 0))), (q5, .inl (cA6, 19, .inl (fun _ => 0))), (q7, .inl (cA8, 19, .inr (.inl (fun _ => 0)))), (q9, .inl (cA10, 19, .inr (.inl (fun _ => 0)))), (q11, .inl (cA12, 8, .inl (fun _ => 0)))] := hD
  have hK : va_K (dC, dI) classes [(cA2, .int), (cA4, .int), (cA6, .int), (cA8, .long), (cA10, .long), (cA12, .int)] s := hK
  refine W.widen (k := 6) (n := 103) (by omega) (by omega) ?_
  refine va_putF (D := (dC, dI)) (ci := 6) (v := .ref q11) (ty := (.array .int)) (C := R_St) (T := F_St) (N := 8) hx hb hts i_St t_St t_St_ok n_St hown hK hP hD hS 0 rfl rfl 5 (by decide) (hts _ mw_190) (fun _ h9 => h9) rfl hin rfl (by decide +kernel) rfl rfl (Nat.le_of_ble_eq_true rfl) d_St_init_49 (fun H locs hP hD hS => ?_)
  have hP : va_P (dC, dI) classes [(h0, .inr (6, [.ref q1, .ref q3, .ref q5, .ref q7, .ref q9, .ref q11, .int 0, .int 0])), (q1, .inl (cA2, 19, .inl (fun _ => 0))), (q3, .inl (cA4, 19, .inl (fun _ => 0))), (q5, .inl (cA6, 19, .inl (fun _ => 0))), (q7, .inl (cA8, 19, .inr (.inl (fun _ => 0)))), (q9, .inl (cA10, 19, .inr (.inl (fun _ => 0)))), (q11, .inl (cA12, 8, .inl (fun _ => 0)))] H := hP
  have hD : va_D A [(h0, .inr (6, [.ref q1, .ref q3, .ref q5, .ref q7, .ref q9, .ref q11, .int 0, .int 0])), (q1, .inl (cA2, 19, .inl (fun _ => 0))), (q3, .inl (cA4, 19, .inl (fun _ => 0))), (q5, .inl (cA6, 19, .inl (fun _ => 0))), (q7, .inl (cA8, 19, .inr (.inl (fun _ => 0)))), (q9, .inl (cA10, 19, .inr (.inl (fun _ => 0)))), (q11, .inl (cA12, 8, .inl (fun _ => 0)))] := hD
  have hP9 := hP.sub (ws' := [(h0, .inr (6, [.ref q1, .ref q3, .ref q5, .ref q7, .ref q9, .ref q11, .int 0, .int 0]))]) [0] rfl
  have hD9 := hD.sub (ws' := [(h0, .inr (6, [.ref q1, .ref q3, .ref q5, .ref q7, .ref q9, .ref q11, .int 0, .int 0]))]) [0] (by decide) rfl
  have hK9 := hK.sub (tys' := []) [] rfl
  refine W.widen (k := 6) (n := 103) (by omega) (by omega) ?_
  exact W.vret hx hb hr (fun t ht hW => ⟨⟨(), rfl, trivial, q1, q3, q5, q7, q9, q11, by rw [ht]; exact hP9, va_K.moved hW.alike hK9, hD9⟩, hS.F ht⟩) hS.2.2 d_St_init_52
set_option maxHeartbeats 4000000 in
set_option maxRecDepth 100000 in
theorem Pr_init (l : Launch) (dC : Nat → ClassId) (dI : Nat → Nat → Nat) (sz : Nat) (h0 : Nat) : Met l y_Pr_init (.code y_Pr_init prog_7_method_1_code 1 none :: zz_W) ({ frames := 1, cells := 5, slots := 1000, locals := 12 }) (va_Pc [.ref h0] (zz_B dC dI [(h0, .inr (1, [.null, .null, .null, .null, .null, .int 0]))] [] sz)) (va_Qv (fun (_ : Unit) => True) (fun (_ : Unit) (t : State) => ∃ (q1 : Nat) (cA2 : ClassId) (q3 : Nat) (cA4 : ClassId) (q5 : Nat) (cA6 : ClassId) (q7 : Nat) (cA8 : ClassId) (q9 : Nat) (cA10 : ClassId), va_P (dC, dI) classes [(h0, .inr (1, [.ref q1, .ref q3, .ref q5, .ref q7, .ref q9, .int 0])), (q1, .inl (cA2, 200, .inl (fun _ => 0))), (q3, .inl (cA4, 200, .inl (fun _ => 0))), (q5, .inl (cA6, 200, .inl (fun _ => 0))), (q7, .inl (cA8, 200, .inl (fun _ => 0))), (q9, .inl (cA10, 200, .inl (fun _ => 0)))] t.heap ∧ va_K (dC, dI) classes [(cA2, .int), (cA4, .int), (cA6, .int), (cA8, .int), (cA10, .int)] t ∧ va_D (va_A [(h0, .inr (1, [.null, .null, .null, .null, .null, .int 0]))] sz) [(h0, .inr (1, [.ref q1, .ref q3, .ref q5, .ref q7, .ref q9, .int 0])), (q1, .inl (cA2, 200, .inl (fun _ => 0))), (q3, .inl (cA4, 200, .inl (fun _ => 0))), (q5, .inl (cA6, 200, .inl (fun _ => 0))), (q7, .inl (cA8, 200, .inl (fun _ => 0))), (q9, .inl (cA10, 200, .inl (fun _ => 0)))]) (va_A [(h0, .inr (1, [.null, .null, .null, .null, .null, .int 0]))] sz)) 5 1000 (va_A [(h0, .inr (1, [.null, .null, .null, .null, .null, .int 0]))] sz) := by
  refine Met.ofW (cc := prog_7_method_1_code) (maxL := 1) (ret := none) (by decide) rfl ?_
  intro p e s m args below meth c s₁ B hml hv
  obtain ⟨rfl, hsz, hP, hK, hD0, hT⟩ := hv
  have hx := B.exec
  have hb := B.bytes
  have hr := B.returns
  have hts0 := atoms_spec (ws := (.code y_Pr_init prog_7_method_1_code 1 none :: zz_W)) B.pre
  have hts : ∀ w ∈ zz_W, w.before _ s = true := fun w h => hts0 w (List.mem_cons_of_mem _ h)
  have hown : s.vm.findClass R_Pr = some m.cls := findClass_of_methodNamed B.named
  have hlocks := B.notSynchronized
  have hin : meth.name = "<init>" := (name_of_methodNamed B.named B.method).1
  subst hsz
  have hD := hD0.self (sz := s.heap.size)
  generalize hAe : va_A [(h0, .inr (1, [.null, .null, .null, .null, .null, .int 0]))] s.heap.size = A at hD ⊢
  have hA : ∀ q : Nat, s.heap.size ≤ q → A q := fun q h => by rw [← hAe]; exact Or.inr h
  have hS : va_S A s.heap s.heap [] := va_S.rf
  have hl := lv_entry ([.ref h0]) (n := 1) (Nat.le_of_ble_eq_true rfl)
  rw [lg_entry_eq]
  generalize (lg_sl ([.ref h0]) ++ List.replicate (1 - (lg_sl ([.ref h0])).length) Slot.unset).toArray = ls at hl ⊢
  have hl : lv_has ls 1 [(0, .ref h0)] := hl
  refine lv_aload_n hx hb d_Pr_init_0 rfl (lv_at hl 0 rfl) ?_
  refine W.objInit hx hb hown (hts _ mw_40) (hts _ mw_33) (hts _ mw_oinit) rfl (by rw [hml]; exact hl.1) rfl d_Pr_init_1 (Nat.le_of_ble_eq_true rfl) (Nat.le_of_ble_eq_true rfl) ?_
  refine W.eq (g2 := F0 m 4 ls []) rfl ?_
  refine lv_aload_n hx hb d_Pr_init_4 rfl (lv_at hl 0 rfl) ?_
  refine lv_sipush (v := 200) hx hb d_Pr_init_5 (by decide) ?_
  refine va_newa (atype := .int) (a0 := (200, .inl (fun _ => 0))) (ty := .int) hx hb (hts _ mw_73) rfl hK hP hD hS hA (fun _ => rfl) (by decide) (by decide) (by decide) (Nat.le_of_ble_eq_true rfl) (Nat.le_of_ble_eq_true rfl) d_Pr_init_8 (fun q1 cA2 H hK hP hD hS => ?_)
  have hP : va_P (dC, dI) classes [(h0, .inr (1, [.null, .null, .null, .null, .null, .int 0])), (q1, .inl (cA2, 200, .inl (fun _ => 0)))] H := hP
  have hD : va_D A [(h0, .inr (1, [.null, .null, .null, .null, .null, .int 0])), (q1, .inl (cA2, 200, .inl (fun _ => 0)))] := hD
  have hK : va_K (dC, dI) classes [(cA2, .int)] s := hK
  refine W.widen (k := 1) (n := 200) (by omega) (by omega) ?_
  refine va_putF (D := (dC, dI)) (ci := 1) (v := .ref q1) (ty := (.array .int)) (C := R_Pr) (T := F_Pr) (N := 6) hx hb hts i_Pr t_Pr t_Pr_ok n_Pr hown hK hP hD hS 0 rfl rfl 0 (by decide) (hts _ mw_41) (fun _ h9 => h9) rfl hin rfl (by decide +kernel) rfl rfl (Nat.le_of_ble_eq_true rfl) d_Pr_init_10 (fun H locs hP hD hS => ?_)
  have hP : va_P (dC, dI) classes [(h0, .inr (1, [.ref q1, .null, .null, .null, .null, .int 0])), (q1, .inl (cA2, 200, .inl (fun _ => 0)))] H := hP
  have hD : va_D A [(h0, .inr (1, [.ref q1, .null, .null, .null, .null, .int 0])), (q1, .inl (cA2, 200, .inl (fun _ => 0)))] := hD
  refine lv_aload_n hx hb d_Pr_init_13 rfl (lv_at hl 0 rfl) ?_
  refine lv_sipush (v := 200) hx hb d_Pr_init_14 (by decide) ?_
  refine va_newa (atype := .int) (a0 := (200, .inl (fun _ => 0))) (ty := .int) hx hb (hts _ mw_73) rfl hK hP hD hS hA (fun _ => rfl) (by decide) (by decide) (by decide) (Nat.le_of_ble_eq_true rfl) (Nat.le_of_ble_eq_true rfl) d_Pr_init_17 (fun q3 cA4 H hK hP hD hS => ?_)
  have hP : va_P (dC, dI) classes [(h0, .inr (1, [.ref q1, .null, .null, .null, .null, .int 0])), (q1, .inl (cA2, 200, .inl (fun _ => 0))), (q3, .inl (cA4, 200, .inl (fun _ => 0)))] H := hP
  have hD : va_D A [(h0, .inr (1, [.ref q1, .null, .null, .null, .null, .int 0])), (q1, .inl (cA2, 200, .inl (fun _ => 0))), (q3, .inl (cA4, 200, .inl (fun _ => 0)))] := hD
  have hK : va_K (dC, dI) classes [(cA2, .int), (cA4, .int)] s := hK
  refine W.widen (k := 2) (n := 400) (by omega) (by omega) ?_
  refine va_putF (D := (dC, dI)) (ci := 1) (v := .ref q3) (ty := (.array .int)) (C := R_Pr) (T := F_Pr) (N := 6) hx hb hts i_Pr t_Pr t_Pr_ok n_Pr hown hK hP hD hS 0 rfl rfl 1 (by decide) (hts _ mw_44) (fun _ h9 => h9) rfl hin rfl (by decide +kernel) rfl rfl (Nat.le_of_ble_eq_true rfl) d_Pr_init_19 (fun H locs hP hD hS => ?_)
  have hP : va_P (dC, dI) classes [(h0, .inr (1, [.ref q1, .ref q3, .null, .null, .null, .int 0])), (q1, .inl (cA2, 200, .inl (fun _ => 0))), (q3, .inl (cA4, 200, .inl (fun _ => 0)))] H := hP
  have hD : va_D A [(h0, .inr (1, [.ref q1, .ref q3, .null, .null, .null, .int 0])), (q1, .inl (cA2, 200, .inl (fun _ => 0))), (q3, .inl (cA4, 200, .inl (fun _ => 0)))] := hD
  refine lv_aload_n hx hb d_Pr_init_22 rfl (lv_at hl 0 rfl) ?_
  refine lv_sipush (v := 200) hx hb d_Pr_init_23 (by decide) ?_
  refine va_newa (atype := .int) (a0 := (200, .inl (fun _ => 0))) (ty := .int) hx hb (hts _ mw_73) rfl hK hP hD hS hA (fun _ => rfl) (by decide) (by decide) (by decide) (Nat.le_of_ble_eq_true rfl) (Nat.le_of_ble_eq_true rfl) d_Pr_init_26 (fun q5 cA6 H hK hP hD hS => ?_)
  have hP : va_P (dC, dI) classes [(h0, .inr (1, [.ref q1, .ref q3, .null, .null, .null, .int 0])), (q1, .inl (cA2, 200, .inl (fun _ => 0))), (q3, .inl (cA4, 200, .inl (fun _ => 0))), (q5, .inl (cA6, 200, .inl (fun _ => 0)))] H := hP
  have hD : va_D A [(h0, .inr (1, [.ref q1, .ref q3, .null, .null, .null, .int 0])), (q1, .inl (cA2, 200, .inl (fun _ => 0))), (q3, .inl (cA4, 200, .inl (fun _ => 0))), (q5, .inl (cA6, 200, .inl (fun _ => 0)))] := hD
  have hK : va_K (dC, dI) classes [(cA2, .int), (cA4, .int), (cA6, .int)] s := hK
  refine W.widen (k := 3) (n := 600) (by omega) (by omega) ?_
  refine va_putF (D := (dC, dI)) (ci := 1) (v := .ref q5) (ty := (.array .int)) (C := R_Pr) (T := F_Pr) (N := 6) hx hb hts i_Pr t_Pr t_Pr_ok n_Pr hown hK hP hD hS 0 rfl rfl 2 (by decide) (hts _ mw_47) (fun _ h9 => h9) rfl hin rfl (by decide +kernel) rfl rfl (Nat.le_of_ble_eq_true rfl) d_Pr_init_28 (fun H locs hP hD hS => ?_)
  have hP : va_P (dC, dI) classes [(h0, .inr (1, [.ref q1, .ref q3, .ref q5, .null, .null, .int 0])), (q1, .inl (cA2, 200, .inl (fun _ => 0))), (q3, .inl (cA4, 200, .inl (fun _ => 0))), (q5, .inl (cA6, 200, .inl (fun _ => 0)))] H := hP
  have hD : va_D A [(h0, .inr (1, [.ref q1, .ref q3, .ref q5, .null, .null, .int 0])), (q1, .inl (cA2, 200, .inl (fun _ => 0))), (q3, .inl (cA4, 200, .inl (fun _ => 0))), (q5, .inl (cA6, 200, .inl (fun _ => 0)))] := hD
  refine lv_aload_n hx hb d_Pr_init_31 rfl (lv_at hl 0 rfl) ?_
  refine lv_sipush (v := 200) hx hb d_Pr_init_32 (by decide) ?_
  refine va_newa (atype := .int) (a0 := (200, .inl (fun _ => 0))) (ty := .int) hx hb (hts _ mw_73) rfl hK hP hD hS hA (fun _ => rfl) (by decide) (by decide) (by decide) (Nat.le_of_ble_eq_true rfl) (Nat.le_of_ble_eq_true rfl) d_Pr_init_35 (fun q7 cA8 H hK hP hD hS => ?_)
  have hP : va_P (dC, dI) classes [(h0, .inr (1, [.ref q1, .ref q3, .ref q5, .null, .null, .int 0])), (q1, .inl (cA2, 200, .inl (fun _ => 0))), (q3, .inl (cA4, 200, .inl (fun _ => 0))), (q5, .inl (cA6, 200, .inl (fun _ => 0))), (q7, .inl (cA8, 200, .inl (fun _ => 0)))] H := hP
  have hD : va_D A [(h0, .inr (1, [.ref q1, .ref q3, .ref q5, .null, .null, .int 0])), (q1, .inl (cA2, 200, .inl (fun _ => 0))), (q3, .inl (cA4, 200, .inl (fun _ => 0))), (q5, .inl (cA6, 200, .inl (fun _ => 0))), (q7, .inl (cA8, 200, .inl (fun _ => 0)))] := hD
  have hK : va_K (dC, dI) classes [(cA2, .int), (cA4, .int), (cA6, .int), (cA8, .int)] s := hK
  refine W.widen (k := 4) (n := 800) (by omega) (by omega) ?_
  refine va_putF (D := (dC, dI)) (ci := 1) (v := .ref q7) (ty := (.array .int)) (C := R_Pr) (T := F_Pr) (N := 6) hx hb hts i_Pr t_Pr t_Pr_ok n_Pr hown hK hP hD hS 0 rfl rfl 3 (by decide) (hts _ mw_50) (fun _ h9 => h9) rfl hin rfl (by decide +kernel) rfl rfl (Nat.le_of_ble_eq_true rfl) d_Pr_init_37 (fun H locs hP hD hS => ?_)
  have hP : va_P (dC, dI) classes [(h0, .inr (1, [.ref q1, .ref q3, .ref q5, .ref q7, .null, .int 0])), (q1, .inl (cA2, 200, .inl (fun _ => 0))), (q3, .inl (cA4, 200, .inl (fun _ => 0))), (q5, .inl (cA6, 200, .inl (fun _ => 0))), (q7, .inl (cA8, 200, .inl (fun _ => 0)))] H := hP
  have hD : va_D A [(h0, .inr (1, [.ref q1, .ref q3, .ref q5, .ref q7, .null, .int 0])), (q1, .inl (cA2, 200, .inl (fun _ => 0))), (q3, .inl (cA4, 200, .inl (fun _ => 0))), (q5, .inl (cA6, 200, .inl (fun _ => 0))), (q7, .inl (cA8, 200, .inl (fun _ => 0)))] := hD
  refine lv_aload_n hx hb d_Pr_init_40 rfl (lv_at hl 0 rfl) ?_
  refine lv_sipush (v := 200) hx hb d_Pr_init_41 (by decide) ?_
  refine va_newa (atype := .int) (a0 := (200, .inl (fun _ => 0))) (ty := .int) hx hb (hts _ mw_73) rfl hK hP hD hS hA (fun _ => rfl) (by decide) (by decide) (by decide) (Nat.le_of_ble_eq_true rfl) (Nat.le_of_ble_eq_true rfl) d_Pr_init_44 (fun q9 cA10 H hK hP hD hS => ?_)
  have hP : va_P (dC, dI) classes [(h0, .inr (1, [.ref q1, .ref q3, .ref q5, .ref q7, .null, .int 0])), (q1, .inl (cA2, 200, .inl (fun _ => 0))), (q3, .inl (cA4, 200, .inl (fun _ => 0))), (q5, .inl (cA6, 200, .inl (fun _ => 0))), (q7, .inl (cA8, 200, .inl (fun _ => 0))), (q9, .inl (cA10, 200, .inl (fun _ => 0)))] H := hP
  have hD : va_D A [(h0, .inr (1, [.ref q1, .ref q3, .ref q5, .ref q7, .null, .int 0])), (q1, .inl (cA2, 200, .inl (fun _ => 0))), (q3, .inl (cA4, 200, .inl (fun _ => 0))), (q5, .inl (cA6, 200, .inl (fun _ => 0))), (q7, .inl (cA8, 200, .inl (fun _ => 0))), (q9, .inl (cA10, 200, .inl (fun _ => 0)))] := hD
  have hK : va_K (dC, dI) classes [(cA2, .int), (cA4, .int), (cA6, .int), (cA8, .int), (cA10, .int)] s := hK
  refine W.widen (k := 5) (n := 1000) (by omega) (by omega) ?_
  refine va_putF (D := (dC, dI)) (ci := 1) (v := .ref q9) (ty := (.array .int)) (C := R_Pr) (T := F_Pr) (N := 6) hx hb hts i_Pr t_Pr t_Pr_ok n_Pr hown hK hP hD hS 0 rfl rfl 4 (by decide) (hts _ mw_53) (fun _ h9 => h9) rfl hin rfl (by decide +kernel) rfl rfl (Nat.le_of_ble_eq_true rfl) d_Pr_init_46 (fun H locs hP hD hS => ?_)
  have hP : va_P (dC, dI) classes [(h0, .inr (1, [.ref q1, .ref q3, .ref q5, .ref q7, .ref q9, .int 0])), (q1, .inl (cA2, 200, .inl (fun _ => 0))), (q3, .inl (cA4, 200, .inl (fun _ => 0))), (q5, .inl (cA6, 200, .inl (fun _ => 0))), (q7, .inl (cA8, 200, .inl (fun _ => 0))), (q9, .inl (cA10, 200, .inl (fun _ => 0)))] H := hP
  have hD : va_D A [(h0, .inr (1, [.ref q1, .ref q3, .ref q5, .ref q7, .ref q9, .int 0])), (q1, .inl (cA2, 200, .inl (fun _ => 0))), (q3, .inl (cA4, 200, .inl (fun _ => 0))), (q5, .inl (cA6, 200, .inl (fun _ => 0))), (q7, .inl (cA8, 200, .inl (fun _ => 0))), (q9, .inl (cA10, 200, .inl (fun _ => 0)))] := hD
  have hP9 := hP.sub (ws' := [(h0, .inr (1, [.ref q1, .ref q3, .ref q5, .ref q7, .ref q9, .int 0])), (q1, .inl (cA2, 200, .inl (fun _ => 0))), (q3, .inl (cA4, 200, .inl (fun _ => 0))), (q5, .inl (cA6, 200, .inl (fun _ => 0))), (q7, .inl (cA8, 200, .inl (fun _ => 0))), (q9, .inl (cA10, 200, .inl (fun _ => 0)))]) [0, 1, 2, 3, 4, 5] rfl
  have hD9 := hD.sub (ws' := [(h0, .inr (1, [.ref q1, .ref q3, .ref q5, .ref q7, .ref q9, .int 0])), (q1, .inl (cA2, 200, .inl (fun _ => 0))), (q3, .inl (cA4, 200, .inl (fun _ => 0))), (q5, .inl (cA6, 200, .inl (fun _ => 0))), (q7, .inl (cA8, 200, .inl (fun _ => 0))), (q9, .inl (cA10, 200, .inl (fun _ => 0)))]) [0, 1, 2, 3, 4, 5] (by decide) rfl
  have hK9 := hK.sub (tys' := [(cA2, .int), (cA4, .int), (cA6, .int), (cA8, .int), (cA10, .int)]) [0, 1, 2, 3, 4] rfl
  refine W.widen (k := 5) (n := 1000) (by omega) (by omega) ?_
  exact W.vret hx hb hr (fun t ht hW => ⟨⟨(), rfl, trivial, q1, cA2, q3, cA4, q5, cA6, q7, cA8, q9, cA10, by rw [ht]; exact hP9, va_K.moved hW.alike hK9, hD9⟩, hS.F ht⟩) hS.2.2 d_Pr_init_49
