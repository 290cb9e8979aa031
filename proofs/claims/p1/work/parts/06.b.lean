set_option maxHeartbeats 4000000 in
set_option maxRecDepth 100000 in
theorem Ma_init (l : Launch) (dC : Nat → ClassId) (dI : Nat → Nat → Nat) (sz : Nat) (h0 : Nat) : Met l y_Ma_init (.code y_Ma_init prog_5_method_1_code 1 none :: zz_W) ({ frames := 1, cells := 7, slots := 4692, locals := 12 }) (va_Pc [.ref h0] (zz_B dC dI [(h0, .inr (2, [.null, .null, .null, .null, .null, .null, .null, .int 0]))] [] sz)) (va_Qv (fun (_ : Unit) => True) (fun (_ : Unit) (t : State) => ∃ (q1 : Nat) (cA2 : ClassId) (q3 : Nat) (cA4 : ClassId) (q5 : Nat) (cA6 : ClassId) (q7 : Nat) (q9 : Nat) (cA10 : ClassId) (q11 : Nat) (cA12 : ClassId) (q13 : Nat) (cA14 : ClassId), va_P (dC, dI) classes [(h0, .inr (2, [.ref q1, .ref q3, .ref q5, .ref q7, .ref q9, .ref q11, .ref q13, .int 0])), (q1, .inl (cA2, 4, .inl (fun _ => 0))), (q3, .inl (cA4, 4, .inl (fun _ => 0))), (q5, .inl (cA6, 4096, .inl (fun _ => 0))), (q9, .inl (cA10, 4, .inl (fun _ => 0))), (q11, .inl (cA12, 64, .inl (fun _ => 0))), (q13, .inl (cA14, 512, .inl (fun _ => 0)))] t.heap ∧ va_K (dC, dI) classes [(cA2, .int), (cA4, .int), (cA6, .byte), (cA10, .int), (cA12, .boolean), (cA14, .byte)] t ∧ va_D (va_A [(h0, .inr (2, [.null, .null, .null, .null, .null, .null, .null, .int 0]))] sz) [(h0, .inr (2, [.ref q1, .ref q3, .ref q5, .ref q7, .ref q9, .ref q11, .ref q13, .int 0])), (q1, .inl (cA2, 4, .inl (fun _ => 0))), (q3, .inl (cA4, 4, .inl (fun _ => 0))), (q5, .inl (cA6, 4096, .inl (fun _ => 0))), (q9, .inl (cA10, 4, .inl (fun _ => 0))), (q11, .inl (cA12, 64, .inl (fun _ => 0))), (q13, .inl (cA14, 512, .inl (fun _ => 0)))]) (va_A [(h0, .inr (2, [.null, .null, .null, .null, .null, .null, .null, .int 0]))] sz)) 7 4692 (va_A [(h0, .inr (2, [.null, .null, .null, .null, .null, .null, .null, .int 0]))] sz) := by
  refine Met.ofW (cc := prog_5_method_1_code) (maxL := 1) (ret := none) (by decide) rfl ?_
  intro p e s m args below meth c s₁ B hml hv
  obtain ⟨rfl, hsz, hP, hK, hD0, hT⟩ := hv
  have hx := B.exec
  have hb := B.bytes
  have hr := B.returns
  have hts0 := atoms_spec (ws := (.code y_Ma_init prog_5_method_1_code 1 none :: zz_W)) B.pre
  have hts : ∀ w ∈ zz_W, w.before _ s = true := fun w h => hts0 w (List.mem_cons_of_mem _ h)
  have hown : s.vm.findClass R_Ma = some m.cls := findClass_of_methodNamed B.named
  have hlocks := B.notSynchronized
  have hin : meth.name = "<init>" := (name_of_methodNamed B.named B.method).1
  subst hsz
  have hD := hD0.self (sz := s.heap.size)
  generalize hAe : va_A [(h0, .inr (2, [.null, .null, .null, .null, .null, .null, .null, .int 0]))] s.heap.size = A at hD ⊢
  have hA : ∀ q : Nat, s.heap.size ≤ q → A q := fun q h => by rw [← hAe]; exact Or.inr h
  have hS : va_S A s.heap s.heap [] := va_S.rf
  have hl := lv_entry ([.ref h0]) (n := 1) (Nat.le_of_ble_eq_true rfl)
  rw [lg_entry_eq]
  generalize (lg_sl ([.ref h0]) ++ List.replicate (1 - (lg_sl ([.ref h0])).length) Slot.unset).toArray = ls at hl ⊢
  have hl : lv_has ls 1 [(0, .ref h0)] := hl
  refine lv_aload_n hx hb d_Ma_init_0 rfl (lv_at hl 0 rfl) ?_
  refine W.objInit hx hb hown (hts _ mw_79) (hts _ mw_33) (hts _ mw_oinit) rfl (by rw [hml]; exact hl.1) rfl d_Ma_init_1 (Nat.le_of_ble_eq_true rfl) (Nat.le_of_ble_eq_true rfl) ?_
  refine W.eq (g2 := F0 m 4 ls []) rfl ?_
  refine lv_aload_n hx hb d_Ma_init_4 rfl (lv_at hl 0 rfl) ?_
  refine lv_iconst (v := 4) hx hb d_Ma_init_5 (by decide) ?_
  refine va_newa (atype := .int) (a0 := (4, .inl (fun _ => 0))) (ty := .int) hx hb (hts _ mw_73) rfl hK hP hD hS hA (fun _ => rfl) (by decide) (by decide) (by decide) (Nat.le_of_ble_eq_true rfl) (Nat.le_of_ble_eq_true rfl) d_Ma_init_6 (fun q1 cA2 H hK hP hD hS => ?_)
  have hP : va_P (dC, dI) classes [(h0, .inr (2, [.null, .null, .null, .null, .null, .null, .null, .int 0])), (q1, .inl (cA2, 4, .inl (fun _ => 0)))] H := hP
  have hD : va_D A [(h0, .inr (2, [.null, .null, .null, .null, .null, .null, .null, .int 0])), (q1, .inl (cA2, 4, .inl (fun _ => 0)))] := hD
  have hK : va_K (dC, dI) classes [(cA2, .int)] s := hK
  refine W.widen (k := 1) (n := 4) (by omega) (by omega) ?_
  refine va_putF (D := (dC, dI)) (ci := 2) (v := .ref q1) (ty := (.array .int)) (C := R_Ma) (T := F_Ma) (N := 8) hx hb hts i_Ma t_Ma t_Ma_ok n_Ma hown hK hP hD hS 0 rfl rfl 0 (by decide) (hts _ mw_80) (fun _ h9 => h9) rfl hin rfl (by decide +kernel) rfl rfl (Nat.le_of_ble_eq_true rfl) d_Ma_init_8 (fun H locs hP hD hS => ?_)
  have hP : va_P (dC, dI) classes [(h0, .inr (2, [.ref q1, .null, .null, .null, .null, .null, .null, .int 0])), (q1, .inl (cA2, 4, .inl (fun _ => 0)))] H := hP
  have hD : va_D A [(h0, .inr (2, [.ref q1, .null, .null, .null, .null, .null, .null, .int 0])), (q1, .inl (cA2, 4, .inl (fun _ => 0)))] := hD
  refine lv_aload_n hx hb d_Ma_init_11 rfl (lv_at hl 0 rfl) ?_
  refine lv_iconst (v := 4) hx hb d_Ma_init_12 (by decide) ?_
  refine va_newa (atype := .int) (a0 := (4, .inl (fun _ => 0))) (ty := .int) hx hb (hts _ mw_73) rfl hK hP hD hS hA (fun _ => rfl) (by decide) (by decide) (by decide) (Nat.le_of_ble_eq_true rfl) (Nat.le_of_ble_eq_true rfl) d_Ma_init_13 (fun q3 cA4 H hK hP hD hS => ?_)
  have hP : va_P (dC, dI) classes [(h0, .inr (2, [.ref q1, .null, .null, .null, .null, .null, .null, .int 0])), (q1, .inl (cA2, 4, .inl (fun _ => 0))), (q3, .inl (cA4, 4, .inl (fun _ => 0)))] H := hP
  have hD : va_D A [(h0, .inr (2, [.ref q1, .null, .null, .null, .null, .null, .null, .int 0])), (q1, .inl (cA2, 4, .inl (fun _ => 0))), (q3, .inl (cA4, 4, .inl (fun _ => 0)))] := hD
  have hK : va_K (dC, dI) classes [(cA2, .int), (cA4, .int)] s := hK
  refine W.widen (k := 2) (n := 8) (by omega) (by omega) ?_
  refine va_putF (D := (dC, dI)) (ci := 2) (v := .ref q3) (ty := (.array .int)) (C := R_Ma) (T := F_Ma) (N := 8) hx hb hts i_Ma t_Ma t_Ma_ok n_Ma hown hK hP hD hS 0 rfl rfl 1 (by decide) (hts _ mw_84) (fun _ h9 => h9) rfl hin rfl (by decide +kernel) rfl rfl (Nat.le_of_ble_eq_true rfl) d_Ma_init_15 (fun H locs hP hD hS => ?_)
  have hP : va_P (dC, dI) classes [(h0, .inr (2, [.ref q1, .ref q3, .null, .null, .null, .null, .null, .int 0])), (q1, .inl (cA2, 4, .inl (fun _ => 0))), (q3, .inl (cA4, 4, .inl (fun _ => 0)))] H := hP
  have hD : va_D A [(h0, .inr (2, [.ref q1, .ref q3, .null, .null, .null, .null, .null, .int 0])), (q1, .inl (cA2, 4, .inl (fun _ => 0))), (q3, .inl (cA4, 4, .inl (fun _ => 0)))] := hD
  refine lv_aload_n hx hb d_Ma_init_18 rfl (lv_at hl 0 rfl) ?_
  refine lv_sipush (v := 4096) hx hb d_Ma_init_19 (by decide) ?_
  refine va_newa (atype := .byte) (a0 := (4096, .inl (fun _ => 0))) (ty := .byte) hx hb (hts _ mw_117) rfl hK hP hD hS hA (fun _ => rfl) (by decide) (by decide) (by decide) (Nat.le_of_ble_eq_true rfl) (Nat.le_of_ble_eq_true rfl) d_Ma_init_22 (fun q5 cA6 H hK hP hD hS => ?_)
  have hP : va_P (dC, dI) classes [(h0, .inr (2, [.ref q1, .ref q3, .null, .null, .null, .null, .null, .int 0])), (q1, .inl (cA2, 4, .inl (fun _ => 0))), (q3, .inl (cA4, 4, .inl (fun _ => 0))), (q5, .inl (cA6, 4096, .inl (fun _ => 0)))] H := hP
  have hD : va_D A [(h0, .inr (2, [.ref q1, .ref q3, .null, .null, .null, .null, .null, .int 0])), (q1, .inl (cA2, 4, .inl (fun _ => 0))), (q3, .inl (cA4, 4, .inl (fun _ => 0))), (q5, .inl (cA6, 4096, .inl (fun _ => 0)))] := hD
  have hK : va_K (dC, dI) classes [(cA2, .int), (cA4, .int), (cA6, .byte)] s := hK
  refine W.widen (k := 3) (n := 4104) (by omega) (by omega) ?_
  refine va_putF (D := (dC, dI)) (ci := 2) (v := .ref q5) (ty := (.array .byte)) (C := R_Ma) (T := F_Ma) (N := 8) hx hb hts i_Ma t_Ma t_Ma_ok n_Ma hown hK hP hD hS 0 rfl rfl 2 (by decide) (hts _ mw_88) (fun _ h9 => h9) rfl hin rfl (by decide +kernel) rfl rfl (Nat.le_of_ble_eq_true rfl) d_Ma_init_24 (fun H locs hP hD hS => ?_)
  have hP : va_P (dC, dI) classes [(h0, .inr (2, [.ref q1, .ref q3, .ref q5, .null, .null, .null, .null, .int 0])), (q1, .inl (cA2, 4, .inl (fun _ => 0))), (q3, .inl (cA4, 4, .inl (fun _ => 0))), (q5, .inl (cA6, 4096, .inl (fun _ => 0)))] H := hP
  have hD : va_D A [(h0, .inr (2, [.ref q1, .ref q3, .ref q5, .null, .null, .null, .null, .int 0])), (q1, .inl (cA2, 4, .inl (fun _ => 0))), (q3, .inl (cA4, 4, .inl (fun _ => 0))), (q5, .inl (cA6, 4096, .inl (fun _ => 0)))] := hD
  refine lv_aload_n hx hb d_Ma_init_27 rfl (lv_at hl 0 rfl) ?_
  refine lv_bipush (v := 8) hx hb d_Ma_init_28 (by decide) ?_
  refine va_newa (atype := .byte) (a0 := (8, .inl (fun _ => 0))) (ty := .byte) hx hb (hts _ mw_117) rfl hK hP hD hS hA (fun _ => rfl) (by decide) (by decide) (by decide) (Nat.le_of_ble_eq_true rfl) (Nat.le_of_ble_eq_true rfl) d_Ma_init_30 (fun q7 cA8 H hK hP hD hS => ?_)
  have hP : va_P (dC, dI) classes [(h0, .inr (2, [.ref q1, .ref q3, .ref q5, .null, .null, .null, .null, .int 0])), (q1, .inl (cA2, 4, .inl (fun _ => 0))), (q3, .inl (cA4, 4, .inl (fun _ => 0))), (q5, .inl (cA6, 4096, .inl (fun _ => 0))), (q7, .inl (cA8, 8, .inl (fun _ => 0)))] H := hP
  have hD : va_D A [(h0, .inr (2, [.ref q1, .ref q3, .ref q5, .null, .null, .null, .null, .int 0])), (q1, .inl (cA2, 4, .inl (fun _ => 0))), (q3, .inl (cA4, 4, .inl (fun _ => 0))), (q5, .inl (cA6, 4096, .inl (fun _ => 0))), (q7, .inl (cA8, 8, .inl (fun _ => 0)))] := hD
  have hK : va_K (dC, dI) classes [(cA2, .int), (cA4, .int), (cA6, .byte), (cA8, .byte)] s := hK
  refine W.widen (k := 4) (n := 4112) (by omega) (by omega) ?_
  refine va_putF (D := (dC, dI)) (ci := 2) (v := .ref q7) (ty := (.array .byte)) (C := R_Ma) (T := F_Ma) (N := 8) hx hb hts i_Ma t_Ma t_Ma_ok n_Ma hown hK hP hD hS 0 rfl rfl 3 (by decide) (hts _ mw_91) (fun _ h9 => h9) rfl hin rfl (by decide +kernel) rfl rfl (Nat.le_of_ble_eq_true rfl) d_Ma_init_32 (fun H locs hP hD hS => ?_)
  have hP : va_P (dC, dI) classes [(h0, .inr (2, [.ref q1, .ref q3, .ref q5, .ref q7, .null, .null, .null, .int 0])), (q1, .inl (cA2, 4, .inl (fun _ => 0))), (q3, .inl (cA4, 4, .inl (fun _ => 0))), (q5, .inl (cA6, 4096, .inl (fun _ => 0))), (q7, .inl (cA8, 8, .inl (fun _ => 0)))] H := hP
  have hD : va_D A [(h0, .inr (2, [.ref q1, .ref q3, .ref q5, .ref q7, .null, .null, .null, .int 0])), (q1, .inl (cA2, 4, .inl (fun _ => 0))), (q3, .inl (cA4, 4, .inl (fun _ => 0))), (q5, .inl (cA6, 4096, .inl (fun _ => 0))), (q7, .inl (cA8, 8, .inl (fun _ => 0)))] := hD
  refine lv_aload_n hx hb d_Ma_init_35 rfl (lv_at hl 0 rfl) ?_
  refine lv_iconst (v := 4) hx hb d_Ma_init_36 (by decide) ?_
  refine va_newa (atype := .int) (a0 := (4, .inl (fun _ => 0))) (ty := .int) hx hb (hts _ mw_73) rfl hK hP hD hS hA (fun _ => rfl) (by decide) (by decide) (by decide) (Nat.le_of_ble_eq_true rfl) (Nat.le_of_ble_eq_true rfl) d_Ma_init_37 (fun q9 cA10 H hK hP hD hS => ?_)
  have hP : va_P (dC, dI) classes [(h0, .inr (2, [.ref q1, .ref q3, .ref q5, .ref q7, .null, .null, .null, .int 0])), (q1, .inl (cA2, 4, .inl (fun _ => 0))), (q3, .inl (cA4, 4, .inl (fun _ => 0))), (q5, .inl (cA6, 4096, .inl (fun _ => 0))), (q7, .inl (cA8, 8, .inl (fun _ => 0))), (q9, .inl (cA10, 4, .inl (fun _ => 0)))] H := hP
  have hD : va_D A [(h0, .inr (2, [.ref q1, .ref q3, .ref q5, .ref q7, .null, .null, .null, .int 0])), (q1, .inl (cA2, 4, .inl (fun _ => 0))), (q3, .inl (cA4, 4, .inl (fun _ => 0))), (q5, .inl (cA6, 4096, .inl (fun _ => 0))), (q7, .inl (cA8, 8, .inl (fun _ => 0))), (q9, .inl (cA10, 4, .inl (fun _ => 0)))] := hD
  have hK : va_K (dC, dI) classes [(cA2, .int), (cA4, .int), (cA6, .byte), (cA8, .byte), (cA10, .int)] s := hK
  refine W.widen (k := 5) (n := 4116) (by omega) (by omega) ?_
  refine va_putF (D := (dC, dI)) (ci := 2) (v := .ref q9) (ty := (.array .int)) (C := R_Ma) (T := F_Ma) (N := 8) hx hb hts i_Ma t_Ma t_Ma_ok n_Ma hown hK hP hD hS 0 rfl rfl 4 (by decide) (hts _ mw_93) (fun _ h9 => h9) rfl hin rfl (by decide +kernel) rfl rfl (Nat.le_of_ble_eq_true rfl) d_Ma_init_39 (fun H locs hP hD hS => ?_)
  have hP : va_P (dC, dI) classes [(h0, .inr (2, [.ref q1, .ref q3, .ref q5, .ref q7, .ref q9, .null, .null, .int 0])), (q1, .inl (cA2, 4, .inl (fun _ => 0))), (q3, .inl (cA4, 4, .inl (fun _ => 0))), (q5, .inl (cA6, 4096, .inl (fun _ => 0))), (q7, .inl (cA8, 8, .inl (fun _ => 0))), (q9, .inl (cA10, 4, .inl (fun _ => 0)))] H := hP
  have hD : va_D A [(h0, .inr (2, [.ref q1, .ref q3, .ref q5, .ref q7, .ref q9, .null, .null, .int 0])), (q1, .inl (cA2, 4, .inl (fun _ => 0))), (q3, .inl (cA4, 4, .inl (fun _ => 0))), (q5, .inl (cA6, 4096, .inl (fun _ => 0))), (q7, .inl (cA8, 8, .inl (fun _ => 0))), (q9, .inl (cA10, 4, .inl (fun _ => 0)))] := hD
  refine lv_aload_n hx hb d_Ma_init_42 rfl (lv_at hl 0 rfl) ?_
  refine lv_bipush (v := 64) hx hb d_Ma_init_43 (by decide) ?_
  refine va_newa (atype := .boolean) (a0 := (64, .inl (fun _ => 0))) (ty := .boolean) hx hb (hts _ mw_118) rfl hK hP hD hS hA (fun _ => rfl) (by decide) (by decide) (by decide) (Nat.le_of_ble_eq_true rfl) (Nat.le_of_ble_eq_true rfl) d_Ma_init_45 (fun q11 cA12 H hK hP hD hS => ?_)
  have hP : va_P (dC, dI) classes [(h0, .inr (2, [.ref q1, .ref q3, .ref q5, .ref q7, .ref q9, .null, .null, .int 0])), (q1, .inl (cA2, 4, .inl (fun _ => 0))), (q3, .inl (cA4, 4, .inl (fun _ => 0))), (q5, .inl (cA6, 4096, .inl (fun _ => 0))), (q7, .inl (cA8, 8, .inl (fun _ => 0))), (q9, .inl (cA10, 4, .inl (fun _ => 0))), (q11, .inl (cA12, 64, .inl (fun _ => 0)))] H := hP
  have hD : va_D A [(h0, .inr (2, [.ref q1, .ref q3, .ref q5, .ref q7, .ref q9, .null, .null, .int 0])), (q1, .inl (cA2, 4, .inl (fun _ => 0))), (q3, .inl (cA4, 4, .inl (fun _ => 0))), (q5, .inl (cA6, 4096, .inl (fun _ => 0))), (q7, .inl (cA8, 8, .inl (fun _ => 0))), (q9, .inl (cA10, 4, .inl (fun _ => 0))), (q11, .inl (cA12, 64, .inl (fun _ => 0)))] := hD
  have hK : va_K (dC, dI) classes [(cA2, .int), (cA4, .int), (cA6, .byte), (cA8, .byte), (cA10, .int), (cA12, .boolean)] s := hK
  refine W.widen (k := 6) (n := 4180) (by omega) (by omega) ?_
  refine va_putF (D := (dC, dI)) (ci := 2) (v := .ref q11) (ty := (.array .boolean)) (C := R_Ma) (T := F_Ma) (N := 8) hx hb hts i_Ma t_Ma t_Ma_ok n_Ma hown hK hP hD hS 0 rfl rfl 5 (by decide) (hts _ mw_94) (fun _ h9 => h9) rfl hin rfl (by decide +kernel) rfl rfl (Nat.le_of_ble_eq_true rfl) d_Ma_init_47 (fun H locs hP hD hS => ?_)
  have hP : va_P (dC, dI) classes [(h0, .inr (2, [.ref q1, .ref q3, .ref q5, .ref q7, .ref q9, .ref q11, .null, .int 0])), (q1, .inl (cA2, 4, .inl (fun _ => 0))), (q3, .inl (cA4, 4, .inl (fun _ => 0))), (q5, .inl (cA6, 4096, .inl (fun _ => 0))), (q7, .inl (cA8, 8, .inl (fun _ => 0))), (q9, .inl (cA10, 4, .inl (fun _ => 0))), (q11, .inl (cA12, 64, .inl (fun _ => 0)))] H := hP
  have hD : va_D A [(h0, .inr (2, [.ref q1, .ref q3, .ref q5, .ref q7, .ref q9, .ref q11, .null, .int 0])), (q1, .inl (cA2, 4, .inl (fun _ => 0))), (q3, .inl (cA4, 4, .inl (fun _ => 0))), (q5, .inl (cA6, 4096, .inl (fun _ => 0))), (q7, .inl (cA8, 8, .inl (fun _ => 0))), (q9, .inl (cA10, 4, .inl (fun _ => 0))), (q11, .inl (cA12, 64, .inl (fun _ => 0)))] := hD
  refine lv_aload_n hx hb d_Ma_init_50 rfl (lv_at hl 0 rfl) ?_
  refine lv_sipush (v := 512) hx hb d_Ma_init_51 (by decide) ?_
  refine va_newa (atype := .byte) (a0 := (512, .inl (fun _ => 0))) (ty := .byte) hx hb (hts _ mw_117) rfl hK hP hD hS hA (fun _ => rfl) (by decide) (by decide) (by decide) (Nat.le_of_ble_eq_true rfl) (Nat.le_of_ble_eq_true rfl) d_Ma_init_54 (fun q13 cA14 H hK hP hD hS => ?_)
  have hP : va_P (dC, dI) classes [(h0, .inr (2, [.ref q1, .ref q3, .ref q5, .ref q7, .ref q9, .ref q11, .null, .int 0])), (q1, .inl (cA2, 4, .inl (fun _ => 0))), (q3, .inl (cA4, 4, .inl (fun _ => 0))), (q5, .inl (cA6, 4096, .inl (fun _ => 0))), (q7, .inl (cA8, 8, .inl (fun _ => 0))), (q9, .inl (cA10, 4, .inl (fun _ => 0))), (q11, .inl (cA12, 64, .inl (fun _ => 0))), (q13, .inl (cA14, 512, .inl (fun _ => 0)))] H := hP
  have hD : va_D A [(h0, .inr (2, [.ref q1, .ref q3, .ref q5, .ref q7, .ref q9, .ref q11, .null, .int 0])), (q1, .inl (cA2, 4, .inl (fun _ => 0))), (q3, .inl (cA4, 4, .inl (fun _ => 0))), (q5, .inl (cA6, 4096, .inl (fun _ => 0))), (q7, .inl (cA8, 8, .inl (fun _ => 0))), (q9, .inl (cA10, 4, .inl (fun _ => 0))), (q11, .inl (cA12, 64, .inl (fun _ => 0))), (q13, .inl (cA14, 512, .inl (fun _ => 0)))] := hD
  have hK : va_K (dC, dI) classes [(cA2, .int), (cA4, .int), (cA6, .byte), (cA8, .byte), (cA10, .int), (cA12, .boolean), (cA14, .byte)] s := hK
  refine W.widen (k := 7) (n := 4692) (by omega) (by omega) ?_
  refine va_putF (D := (dC, dI)) (ci := 2) (v := .ref q13) (ty := (.array .byte)) (C := R_Ma) (T := F_Ma) (N := 8) hx hb hts i_Ma t_Ma t_Ma_ok n_Ma hown hK hP hD hS 0 rfl rfl 6 (by decide) (hts _ mw_95) (fun _ h9 => h9) rfl hin rfl (by decide +kernel) rfl rfl (Nat.le_of_ble_eq_true rfl) d_Ma_init_56 (fun H locs hP hD hS => ?_)
  have hP : va_P (dC, dI) classes [(h0, .inr (2, [.ref q1, .ref q3, .ref q5, .ref q7, .ref q9, .ref q11, .ref q13, .int 0])), (q1, .inl (cA2, 4, .inl (fun _ => 0))), (q3, .inl (cA4, 4, .inl (fun _ => 0))), (q5, .inl (cA6, 4096, .inl (fun _ => 0))), (q7, .inl (cA8, 8, .inl (fun _ => 0))), (q9, .inl (cA10, 4, .inl (fun _ => 0))), (q11, .inl (cA12, 64, .inl (fun _ => 0))), (q13, .inl (cA14, 512, .inl (fun _ => 0)))] H := hP
  have hD : va_D A [(h0, .inr (2, [.ref q1, .ref q3, .ref q5, .ref q7, .ref q9, .ref q11, .ref q13, .int 0])), (q1, .inl (cA2, 4, .inl (fun _ => 0))), (q3, .inl (cA4, 4, .inl (fun _ => 0))), (q5, .inl (cA6, 4096, .inl (fun _ => 0))), (q7, .inl (cA8, 8, .inl (fun _ => 0))), (q9, .inl (cA10, 4, .inl (fun _ => 0))), (q11, .inl (cA12, 64, .inl (fun _ => 0))), (q13, .inl (cA14, 512, .inl (fun _ => 0)))] := hD
  have hP9 := hP.sub (ws' := [(h0, .inr (2, [.ref q1, .ref q3, .ref q5, .ref q7, .ref q9, .ref q11, .ref q13, .int 0])), (q1, .inl (cA2, 4, .inl (fun _ => 0))), (q3, .inl (cA4, 4, .inl (fun _ => 0))), (q5, .inl (cA6, 4096, .inl (fun _ => 0))), (q9, .inl (cA10, 4, .inl (fun _ => 0))), (q11, .inl (cA12, 64, .inl (fun _ => 0))), (q13, .inl (cA14, 512, .inl (fun _ => 0)))]) [0, 1, 2, 3, 5, 6, 7] rfl
  have hD9 := hD.sub (ws' := [(h0, .inr (2, [.ref q1, .ref q3, .ref q5, .ref q7, .ref q9, .ref q11, .ref q13, .int 0])), (q1, .inl (cA2, 4, .inl (fun _ => 0))), (q3, .inl (cA4, 4, .inl (fun _ => 0))), (q5, .inl (cA6, 4096, .inl (fun _ => 0))), (q9, .inl (cA10, 4, .inl (fun _ => 0))), (q11, .inl (cA12, 64, .inl (fun _ => 0))), (q13, .inl (cA14, 512, .inl (fun _ => 0)))]) [0, 1, 2, 3, 5, 6, 7] (by decide) rfl
  have hK9 := hK.sub (tys' := [(cA2, .int), (cA4, .int), (cA6, .byte), (cA10, .int), (cA12, .boolean), (cA14, .byte)]) [0, 1, 2, 4, 5, 6] rfl
  refine W.widen (k := 7) (n := 4692) (by omega) (by omega) ?_
  exact W.vret hx hb hr (fun t ht hW => ⟨⟨(), rfl, trivial, q1, cA2, q3, cA4, q5, cA6, q7, q9, cA10, q11, cA12, q13, cA14, by rw [ht]; exact hP9, va_K.moved hW.alike hK9, hD9⟩, hS.F ht⟩) hS.2.2 d_Ma_init_59
set_option maxHeartbeats 4000000 in
set_option maxRecDepth 100000 in
theorem Me_init (l : Launch) (dC : Nat → ClassId) (dI : Nat → Nat → Nat) (sz : Nat) (h0 : Nat) (h1 : Nat) : Met l y_Me_init (.code y_Me_init prog_6_method_1_code 2 none :: zz_W) ({ frames := 1, cells := 2, slots := 464, locals := 12 }) (va_Pc [.ref h0, .ref h1] (zz_B dC dI [(h0, .inr (3, [.null, .null, .null, .int 0, .int 0]))] [] sz)) (va_Qv (fun (_ : Unit) => True) (fun (_ : Unit) (t : State) => ∃ (q1 : Nat) (cA2 : ClassId) (q3 : Nat), va_P (dC, dI) classes [(h0, .inr (3, [.ref h1, .ref q1, .ref q3, .int 0, .int 0])), (q1, .inl (cA2, 400, .inl (fun _ => 0)))] t.heap ∧ va_K (dC, dI) classes [(cA2, .byte)] t ∧ va_D (va_A [(h0, .inr (3, [.null, .null, .null, .int 0, .int 0]))] sz) [(h0, .inr (3, [.ref h1, .ref q1, .ref q3, .int 0, .int 0])), (q1, .inl (cA2, 400, .inl (fun _ => 0)))]) (va_A [(h0, .inr (3, [.null, .null, .null, .int 0, .int 0]))] sz)) 2 464 (va_A [(h0, .inr (3, [.null, .null, .null, .int 0, .int 0]))] sz) := by
  refine Met.ofW (cc := prog_6_method_1_code) (maxL := 2) (ret := none) (by decide) rfl ?_
  intro p e s m args below meth c s₁ B hml hv
  obtain ⟨rfl, hsz, hP, hK, hD0, hT⟩ := hv
  have hx := B.exec
  have hb := B.bytes
  have hr := B.returns
  have hts0 := atoms_spec (ws := (.code y_Me_init prog_6_method_1_code 2 none :: zz_W)) B.pre
  have hts : ∀ w ∈ zz_W, w.before _ s = true := fun w h => hts0 w (List.mem_cons_of_mem _ h)
  have hown : s.vm.findClass R_Me = some m.cls := findClass_of_methodNamed B.named
  have hlocks := B.notSynchronized
  have hin : meth.name = "<init>" := (name_of_methodNamed B.named B.method).1
  subst hsz
  have hD := hD0.self (sz := s.heap.size)
  generalize hAe : va_A [(h0, .inr (3, [.null, .null, .null, .int 0, .int 0]))] s.heap.size = A at hD ⊢
  have hA : ∀ q : Nat, s.heap.size ≤ q → A q := fun q h => by rw [← hAe]; exact Or.inr h
  have hS : va_S A s.heap s.heap [] := va_S.rf
  have hl := lv_entry ([.ref h0, .ref h1]) (n := 2) (Nat.le_of_ble_eq_true rfl)
  rw [lg_entry_eq]
  generalize (lg_sl ([.ref h0, .ref h1]) ++ List.replicate (2 - (lg_sl ([.ref h0, .ref h1])).length) Slot.unset).toArray = ls at hl ⊢
  have hl : lv_has ls 2 [(0, .ref h0), (1, .ref h1)] := hl
  refine lv_aload_n hx hb d_Me_init_0 rfl (lv_at hl 0 rfl) ?_
  refine W.objInit hx hb hown (hts _ mw_124) (hts _ mw_33) (hts _ mw_oinit) rfl (by rw [hml]; exact hl.1) rfl d_Me_init_1 (Nat.le_of_ble_eq_true rfl) (Nat.le_of_ble_eq_true rfl) ?_
  refine W.eq (g2 := F0 m 4 ls []) rfl ?_
  refine lv_aload_n hx hb d_Me_init_4 rfl (lv_at hl 0 rfl) ?_
  refine lv_sipush (v := 400) hx hb d_Me_init_5 (by decide) ?_
  refine va_newa (atype := .byte) (a0 := (400, .inl (fun _ => 0))) (ty := .byte) hx hb (hts _ mw_117) rfl hK hP hD hS hA (fun _ => rfl) (by decide) (by decide) (by decide) (Nat.le_of_ble_eq_true rfl) (Nat.le_of_ble_eq_true rfl) d_Me_init_8 (fun q1 cA2 H hK hP hD hS => ?_)
  have hP : va_P (dC, dI) classes [(h0, .inr (3, [.null, .null, .null, .int 0, .int 0])), (q1, .inl (cA2, 400, .inl (fun _ => 0)))] H := hP
  have hD : va_D A [(h0, .inr (3, [.null, .null, .null, .int 0, .int 0])), (q1, .inl (cA2, 400, .inl (fun _ => 0)))] := hD
  have hK : va_K (dC, dI) classes [(cA2, .byte)] s := hK
  refine W.widen (k := 1) (n := 400) (by omega) (by omega) ?_
  refine va_putF (D := (dC, dI)) (ci := 3) (v := .ref q1) (ty := (.array .byte)) (C := R_Me) (T := F_Me) (N := 5) hx hb hts i_Me t_Me t_Me_ok n_Me hown hK hP hD hS 0 rfl rfl 1 (by decide) (hts _ mw_127) (fun _ h9 => h9) rfl hin rfl (by decide +kernel) rfl rfl (Nat.le_of_ble_eq_true rfl) d_Me_init_10 (fun H locs hP hD hS => ?_)
  have hP : va_P (dC, dI) classes [(h0, .inr (3, [.null, .ref q1, .null, .int 0, .int 0])), (q1, .inl (cA2, 400, .inl (fun _ => 0)))] H := hP
  have hD : va_D A [(h0, .inr (3, [.null, .ref q1, .null, .int 0, .int 0])), (q1, .inl (cA2, 400, .inl (fun _ => 0)))] := hD
  refine lv_aload_n hx hb d_Me_init_13 rfl (lv_at hl 0 rfl) ?_
  refine lv_bipush (v := 64) hx hb d_Me_init_14 (by decide) ?_
  refine va_newa (atype := .byte) (a0 := (64, .inl (fun _ => 0))) (ty := .byte) hx hb (hts _ mw_117) rfl hK hP hD hS hA (fun _ => rfl) (by decide) (by decide) (by decide) (Nat.le_of_ble_eq_true rfl) (Nat.le_of_ble_eq_true rfl) d_Me_init_16 (fun q3 cA4 H hK hP hD hS => ?_)
  have hP : va_P (dC, dI) classes [(h0, .inr (3, [.null, .ref q1, .null, .int 0, .int 0])), (q1, .inl (cA2, 400, .inl (fun _ => 0))), (q3, .inl (cA4, 64, .inl (fun _ => 0)))] H := hP
  have hD : va_D A [(h0, .inr (3, [.null, .ref q1, .null, .int 0, .int 0])), (q1, .inl (cA2, 400, .inl (fun _ => 0))), (q3, .inl (cA4, 64, .inl (fun _ => 0)))] := hD
  have hK : va_K (dC, dI) classes [(cA2, .byte), (cA4, .byte)] s := hK
  refine W.widen (k := 2) (n := 464) (by omega) (by omega) ?_
  refine va_putF (D := (dC, dI)) (ci := 3) (v := .ref q3) (ty := (.array .byte)) (C := R_Me) (T := F_Me) (N := 5) hx hb hts i_Me t_Me t_Me_ok n_Me hown hK hP hD hS 0 rfl rfl 2 (by decide) (hts _ mw_129) (fun _ h9 => h9) rfl hin rfl (by decide +kernel) rfl rfl (Nat.le_of_ble_eq_true rfl) d_Me_init_18 (fun H locs hP hD hS => ?_)
  have hP : va_P (dC, dI) classes [(h0, .inr (3, [.null, .ref q1, .ref q3, .int 0, .int 0])), (q1, .inl (cA2, 400, .inl (fun _ => 0))), (q3, .inl (cA4, 64, .inl (fun _ => 0)))] H := hP
  have hD : va_D A [(h0, .inr (3, [.null, .ref q1, .ref q3, .int 0, .int 0])), (q1, .inl (cA2, 400, .inl (fun _ => 0))), (q3, .inl (cA4, 64, .inl (fun _ => 0)))] := hD
  refine lv_aload_n hx hb d_Me_init_21 rfl (lv_at hl 0 rfl) ?_
  refine lv_aload_n hx hb d_Me_init_22 rfl (lv_at hl 1 rfl) ?_
  refine va_putF (D := (dC, dI)) (ci := 3) (v := .ref h1) (ty := (.object R_Ma)) (C := R_Me) (T := F_Me) (N := 5) hx hb hts i_Me t_Me t_Me_ok n_Me hown hK hP hD hS 0 rfl rfl 0 (by decide) (hts _ mw_125) (fun _ h9 => h9) rfl hin rfl (by decide +kernel) rfl rfl (Nat.le_of_ble_eq_true rfl) d_Me_init_23 (fun H locs hP hD hS => ?_)
  have hP : va_P (dC, dI) classes [(h0, .inr (3, [.ref h1, .ref q1, .ref q3, .int 0, .int 0])), (q1, .inl (cA2, 400, .inl (fun _ => 0))), (q3, .inl (cA4, 64, .inl (fun _ => 0)))] H := hP
  have hD : va_D A [(h0, .inr (3, [.ref h1, .ref q1, .ref q3, .int 0, .int 0])), (q1, .inl (cA2, 400, .inl (fun _ => 0))), (q3, .inl (cA4, 64, .inl (fun _ => 0)))] := hD
  have hP9 := hP.sub (ws' := [(h0, .inr (3, [.ref h1, .ref q1, .ref q3, .int 0, .int 0])), (q1, .inl (cA2, 400, .inl (fun _ => 0)))]) [0, 1] rfl
  have hD9 := hD.sub (ws' := [(h0, .inr (3, [.ref h1, .ref q1, .ref q3, .int 0, .int 0])), (q1, .inl (cA2, 400, .inl (fun _ => 0)))]) [0, 1] (by decide) rfl
  have hK9 := hK.sub (tys' := [(cA2, .byte)]) [0] rfl
  refine W.widen (k := 2) (n := 464) (by omega) (by omega) ?_
  exact W.vret hx hb hr (fun t ht hW => ⟨⟨(), rfl, trivial, q1, cA2, q3, by rw [ht]; exact hP9, va_K.moved hW.alike hK9, hD9⟩, hS.F ht⟩) hS.2.2 d_Me_init_26
set_option maxHeartbeats 4000000 in
set_option maxRecDepth 100000 in
theorem Fo_init (l : Launch) (dC : Nat → ClassId) (dI : Nat → Nat → Nat) (sz : Nat) (h0 : Nat) : Met l y_Fo_init (.code y_Fo_init prog_4_method_1_code 1 none :: zz_W) ({ frames := 1, cells := 4, slots := 6800, locals := 12 }) (va_Pc [.ref h0] (zz_B dC dI [(h0, .inr (4, [.null, .null, .null, .null]))] [] sz)) (va_Qv (fun (_ : Unit) => True) (fun (_ : Unit) (t : State) => va_P (dC, dI) classes [] t.heap ∧ va_K (dC, dI) classes [] t ∧ va_D (va_A [(h0, .inr (4, [.null, .null, .null, .null]))] sz) []) (va_A [(h0, .inr (4, [.null, .null, .null, .null]))] sz)) 4 6800 (va_A [(h0, .inr (4, [.null, .null, .null, .null]))] sz) := by
  refine Met.ofW (cc := prog_4_method_1_code) (maxL := 1) (ret := none) (by decide) rfl ?_
  intro p e s m args below meth c s₁ B hml hv
  obtain ⟨rfl, hsz, hP, hK, hD0, hT⟩ := hv
  have hx := B.exec
  have hb := B.bytes
  have hr := B.returns
  have hts0 := atoms_spec (ws := (.code y_Fo_init prog_4_method_1_code 1 none :: zz_W)) B.pre
  have hts : ∀ w ∈ zz_W, w.before _ s = true := fun w h => hts0 w (List.mem_cons_of_mem _ h)
  have hown : s.vm.findClass R_Fo = some m.cls := findClass_of_methodNamed B.named
  have hlocks := B.notSynchronized
  have hin : meth.name = "<init>" := (name_of_methodNamed B.named B.method).1
  subst hsz
  have hD := hD0.self (sz := s.heap.size)
  generalize hAe : va_A [(h0, .inr (4, [.null, .null, .null, .null]))] s.heap.size = A at hD ⊢
  have hA : ∀ q : Nat, s.heap.size ≤ q → A q := fun q h => by rw [← hAe]; exact Or.inr h
  have hS : va_S A s.heap s.heap [] := va_S.rf
  have hl := lv_entry ([.ref h0]) (n := 1) (Nat.le_of_ble_eq_true rfl)
  rw [lg_entry_eq]
  generalize (lg_sl ([.ref h0]) ++ List.replicate (1 - (lg_sl ([.ref h0])).length) Slot.unset).toArray = ls at hl ⊢
  have hl : lv_has ls 1 [(0, .ref h0)] := hl
  refine lv_aload_n hx hb d_Fo_init_0 rfl (lv_at hl 0 rfl) ?_
  refine W.objInit hx hb hown (hts _ mw_151) (hts _ mw_33) (hts _ mw_oinit) rfl (by rw [hml]; exact hl.1) rfl d_Fo_init_1 (Nat.le_of_ble_eq_true rfl) (Nat.le_of_ble_eq_true rfl) ?_
  refine W.eq (g2 := F0 m 4 ls []) rfl ?_
  refine lv_aload_n hx hb d_Fo_init_4 rfl (lv_at hl 0 rfl) ?_
  refine lv_sipush (v := 200) hx hb d_Fo_init_5 (by decide) ?_
  refine va_newa (atype := .int) (a0 := (200, .inl (fun _ => 0))) (ty := .int) hx hb (hts _ mw_73) rfl hK hP hD hS hA (fun _ => rfl) (by decide) (by decide) (by decide) (Nat.le_of_ble_eq_true rfl) (Nat.le_of_ble_eq_true rfl) d_Fo_init_8 (fun q1 cA2 H hK hP hD hS => ?_)
  have hP : va_P (dC, dI) classes [(h0, .inr (4, [.null, .null, .null, .null])), (q1, .inl (cA2, 200, .inl (fun _ => 0)))] H := hP
  have hD : va_D A [(h0, .inr (4, [.null, .null, .null, .null])), (q1, .inl (cA2, 200, .inl (fun _ => 0)))] := hD
  have hK : va_K (dC, dI) classes [(cA2, .int)] s := hK
  refine W.widen (k := 1) (n := 200) (by omega) (by omega) ?_
  refine va_putF (D := (dC, dI)) (ci := 4) (v := .ref q1) (ty := (.array .int)) (C := R_Fo) (T := F_Fo) (N := 4) hx hb hts i_Fo t_Fo t_Fo_ok n_Fo hown hK hP hD hS 0 rfl rfl 0 (by decide) (hts _ mw_152) (fun _ h9 => h9) rfl hin rfl (by decide +kernel) rfl rfl (Nat.le_of_ble_eq_true rfl) d_Fo_init_10 (fun H locs hP hD hS => ?_)
  have hP : va_P (dC, dI) classes [(h0, .inr (4, [.ref q1, .null, .null, .null])), (q1, .inl (cA2, 200, .inl (fun _ => 0)))] H := hP
  have hD : va_D A [(h0, .inr (4, [.ref q1, .null, .null, .null])), (q1, .inl (cA2, 200, .inl (fun _ => 0)))] := hD
  refine lv_aload_n hx hb d_Fo_init_13 rfl (lv_at hl 0 rfl) ?_
  refine lv_sipush (v := 2200) hx hb d_Fo_init_14 (by decide) ?_
  refine va_newa (atype := .boolean) (a0 := (2200, .inl (fun _ => 0))) (ty := .boolean) hx hb (hts _ mw_118) rfl hK hP hD hS hA (fun _ => rfl) (by decide) (by decide) (by decide) (Nat.le_of_ble_eq_true rfl) (Nat.le_of_ble_eq_true rfl) d_Fo_init_17 (fun q3 cA4 H hK hP hD hS => ?_)
  have hP : va_P (dC, dI) classes [(h0, .inr (4, [.ref q1, .null, .null, .null])), (q1, .inl (cA2, 200, .inl (fun _ => 0))), (q3, .inl (cA4, 2200, .inl (fun _ => 0)))] H := hP
  have hD : va_D A [(h0, .inr (4, [.ref q1, .null, .null, .null])), (q1, .inl (cA2, 200, .inl (fun _ => 0))), (q3, .inl (cA4, 2200, .inl (fun _ => 0)))] := hD
  have hK : va_K (dC, dI) classes [(cA2, .int), (cA4, .boolean)] s := hK
  refine W.widen (k := 2) (n := 2400) (by omega) (by omega) ?_
  refine va_putF (D := (dC, dI)) (ci := 4) (v := .ref q3) (ty := (.array .boolean)) (C := R_Fo) (T := F_Fo) (N := 4) hx hb hts i_Fo t_Fo t_Fo_ok n_Fo hown hK hP hD hS 0 rfl rfl 1 (by decide) (hts _ mw_153) (fun _ h9 => h9) rfl hin rfl (by decide +kernel) rfl rfl (Nat.le_of_ble_eq_true rfl) d_Fo_init_19 (fun H locs hP hD hS => ?_)
  have hP : va_P (dC, dI) classes [(h0, .inr (4, [.ref q1, .ref q3, .null, .null])), (q1, .inl (cA2, 200, .inl (fun _ => 0))), (q3, .inl (cA4, 2200, .inl (fun _ => 0)))] H := hP
  have hD : va_D A [(h0, .inr (4, [.ref q1, .ref q3, .null, .null])), (q1, .inl (cA2, 200, .inl (fun _ => 0))), (q3, .inl (cA4, 2200, .inl (fun _ => 0)))] := hD
  refine lv_aload_n hx hb d_Fo_init_22 rfl (lv_at hl 0 rfl) ?_
  refine lv_sipush (v := 2200) hx hb d_Fo_init_23 (by decide) ?_
  refine va_newa (atype := .long) (a0 := (2200, .inr (.inl (fun _ => 0)))) (ty := .long) hx hb (hts _ mw_165) rfl hK hP hD hS hA (fun _ => rfl) (by decide) (by decide) (by decide) (Nat.le_of_ble_eq_true rfl) (Nat.le_of_ble_eq_true rfl) d_Fo_init_26 (fun q5 cA6 H hK hP hD hS => ?_)
  have hP : va_P (dC, dI) classes [(h0, .inr (4, [.ref q1, .ref q3, .null, .null])), (q1, .inl (cA2, 200, .inl (fun _ => 0))), (q3, .inl (cA4, 2200, .inl (fun _ => 0))), (q5, .inl (cA6, 2200, .inr (.inl (fun _ => 0))))] H := hP
  have hD : va_D A [(h0, .inr (4, [.ref q1, .ref q3, .null, .null])), (q1, .inl (cA2, 200, .inl (fun _ => 0))), (q3, .inl (cA4, 2200, .inl (fun _ => 0))), (q5, .inl (cA6, 2200, .inr (.inl (fun _ => 0))))] := hD
  have hK : va_K (dC, dI) classes [(cA2, .int), (cA4, .boolean), (cA6, .long)] s := hK
  refine W.widen (k := 3) (n := 4600) (by omega) (by omega) ?_
  refine va_putF (D := (dC, dI)) (ci := 4) (v := .ref q5) (ty := (.array .long)) (C := R_Fo) (T := F_Fo) (N := 4) hx hb hts i_Fo t_Fo t_Fo_ok n_Fo hown hK hP hD hS 0 rfl rfl 2 (by decide) (hts _ mw_154) (fun _ h9 => h9) rfl hin rfl (by decide +kernel) rfl rfl (Nat.le_of_ble_eq_true rfl) d_Fo_init_28 (fun H locs hP hD hS => ?_)
  have hP : va_P (dC, dI) classes [(h0, .inr (4, [.ref q1, .ref q3, .ref q5, .null])), (q1, .inl (cA2, 200, .inl (fun _ => 0))), (q3, .inl (cA4, 2200, .inl (fun _ => 0))), (q5, .inl (cA6, 2200, .inr (.inl (fun _ => 0))))] H := hP
  have hD : va_D A [(h0, .inr (4, [.ref q1, .ref q3, .ref q5, .null])), (q1, .inl (cA2, 200, .inl (fun _ => 0))), (q3, .inl (cA4, 2200, .inl (fun _ => 0))), (q5, .inl (cA6, 2200, .inr (.inl (fun _ => 0))))] := hD
  refine lv_aload_n hx hb d_Fo_init_31 rfl (lv_at hl 0 rfl) ?_
  refine lv_sipush (v := 2200) hx hb d_Fo_init_32 (by decide) ?_
  refine va_newa (atype := .long) (a0 := (2200, .inr (.inl (fun _ => 0)))) (ty := .long) hx hb (hts _ mw_165) rfl hK hP hD hS hA (fun _ => rfl) (by decide) (by decide) (by decide) (Nat.le_of_ble_eq_true rfl) (Nat.le_of_ble_eq_true rfl) d_Fo_init_35 (fun q7 cA8 H hK hP hD hS => ?_)
  have hP : va_P (dC, dI) classes [(h0, .inr (4, [.ref q1, .ref q3, .ref q5, .null])), (q1, .inl (cA2, 200, .inl (fun _ => 0))), (q3, .inl (cA4, 2200, .inl (fun _ => 0))), (q5, .inl (cA6, 2200, .inr (.inl (fun _ => 0)))), (q7, .inl (cA8, 2200, .inr (.inl (fun _ => 0))))] H := hP
  have hD : va_D A [(h0, .inr (4, [.ref q1, .ref q3, .ref q5, .null])), (q1, .inl (cA2, 200, .inl (fun _ => 0))), (q3, .inl (cA4, 2200, .inl (fun _ => 0))), (q5, .inl (cA6, 2200, .inr (.inl (fun _ => 0)))), (q7, .inl (cA8, 2200, .inr (.inl (fun _ => 0))))] := hD
  have hK : va_K (dC, dI) classes [(cA2, .int), (cA4, .boolean), (cA6, .long), (cA8, .long)] s := hK
  refine W.widen (k := 4) (n := 6800) (by omega) (by omega) ?_
  refine va_putF (D := (dC, dI)) (ci := 4) (v := .ref q7) (ty := (.array .long)) (C := R_Fo) (T := F_Fo) (N := 4) hx hb hts i_Fo t_Fo t_Fo_ok n_Fo hown hK hP hD hS 0 rfl rfl 3 (by decide) (hts _ mw_155) (fun _ h9 => h9) rfl hin rfl (by decide +kernel) rfl rfl (Nat.le_of_ble_eq_true rfl) d_Fo_init_37 (fun H locs hP hD hS => ?_)
  have hP : va_P (dC, dI) classes [(h0, .inr (4, [.ref q1, .ref q3, .ref q5, .ref q7])), (q1, .inl (cA2, 200, .inl (fun _ => 0))), (q3, .inl (cA4, 2200, .inl (fun _ => 0))), (q5, .inl (cA6, 2200, .inr (.inl (fun _ => 0)))), (q7, .inl (cA8, 2200, .inr (.inl (fun _ => 0))))] H := hP
  have hD : va_D A [(h0, .inr (4, [.ref q1, .ref q3, .ref q5, .ref q7])), (q1, .inl (cA2, 200, .inl (fun _ => 0))), (q3, .inl (cA4, 2200, .inl (fun _ => 0))), (q5, .inl (cA6, 2200, .inr (.inl (fun _ => 0)))), (q7, .inl (cA8, 2200, .inr (.inl (fun _ => 0))))] := hD
  have hP9 := hP.sub (ws' := []) [] rfl
  have hD9 := hD.sub (ws' := []) [] (by decide) rfl
  have hK9 := hK.sub (tys' := []) [] rfl
  refine W.widen (k := 4) (n := 6800) (by omega) (by omega) ?_
  exact W.vret hx hb hr (fun t ht hW => ⟨⟨(), rfl, trivial, by rw [ht]; exact hP9, va_K.moved hW.alike hK9, hD9⟩, hS.F ht⟩) hS.2.2 d_Fo_init_40
set_option maxHeartbeats 4000000 in
set_option maxRecDepth 100000 in
theorem Ru_init (l : Launch) (dC : Nat → ClassId) (dI : Nat → Nat → Nat) (sz : Nat) (h0 : Nat) (h1 : Nat) (h2 : Nat) (h3 : Nat) : Met l y_Ru_init (.code y_Ru_init prog_10_method_1_code 4 none :: zz_W) ({ frames := 1, cells := 3, slots := 130, locals := 12 }) (va_Pc [.ref h0, .ref h1, .ref h2, .ref h3] (zz_B dC dI [(h0, .inr (8, [.null, .null, .null, .null, .null, .null, .int 0, .int 0, .long 0, .int 0, .int 0, .int 0]))] [] sz)) (va_Qv (fun (_ : Unit) => True) (fun (_ : Unit) (t : State) => ∃ (q1 : Nat) (q3 : Nat) (q5 : Nat), va_P (dC, dI) classes [(h0, .inr (8, [.ref h1, .ref h2, .ref h3, .ref q1, .ref q3, .ref q5, .int 0, .int 0, .long 0, .int 0, .int 0, .int 0]))] t.heap ∧ va_K (dC, dI) classes [] t ∧ va_D (va_A [(h0, .inr (8, [.null, .null, .null, .null, .null, .null, .int 0, .int 0, .long 0, .int 0, .int 0, .int 0]))] sz) [(h0, .inr (8, [.ref h1, .ref h2, .ref h3, .ref q1, .ref q3, .ref q5, .int 0, .int 0, .long 0, .int 0, .int 0, .int 0]))]) (va_A [(h0, .inr (8, [.null, .null, .null, .null, .null, .null, .int 0, .int 0, .long 0, .int 0, .int 0, .int 0]))] sz)) 3 130 (va_A [(h0, .inr (8, [.null, .null, .null, .null, .null, .null, .int 0, .int 0, .long 0, .int 0, .int 0, .int 0]))] sz) := by
  refine Met.ofW (cc := prog_10_method_1_code) (maxL := 4) (ret := none) (by decide) rfl ?_
  intro p e s m args below meth c s₁ B hml hv
  obtain ⟨rfl, hsz, hP, hK, hD0, hT⟩ := hv
  have hx := B.exec
  have hb := B.bytes
  have hr := B.returns
  have hts0 := atoms_spec (ws := (.code y_Ru_init prog_10_method_1_code 4 none :: zz_W)) B.pre
  have hts : ∀ w ∈ zz_W, w.before _ s = true := fun w h => hts0 w (List.mem_cons_of_mem _ h)
  have hown : s.vm.findClass R_Ru = some m.cls := findClass_of_methodNamed B.named
  have hlocks := B.notSynchronized
  have hin : meth.name = "<init>" := (name_of_methodNamed B.named B.method).1
  subst hsz
  have hD := hD0.self (sz := s.heap.size)
  generalize hAe : va_A [(h0, .inr (8, [.null, .null, .null, .null, .null, .null, .int 0, .int 0, .long 0, .int 0, .int 0, .int 0]))] s.heap.size = A at hD ⊢
  have hA : ∀ q : Nat, s.heap.size ≤ q → A q := fun q h => by rw [← hAe]; exact Or.inr h
  have hS : va_S A s.heap s.heap [] := va_S.rf
  have hl := lv_entry ([.ref h0, .ref h1, .ref h2, .ref h3]) (n := 4) (Nat.le_of_ble_eq_true rfl)
  rw [lg_entry_eq]
  generalize (lg_sl ([.ref h0, .ref h1, .ref h2, .ref h3]) ++ List.replicate (4 - (lg_sl ([.ref h0, .ref h1, .ref h2, .ref h3])).length) Slot.unset).toArray = ls at hl ⊢
  have hl : lv_has ls 4 [(0, .ref h0), (1, .ref h1), (2, .ref h2), (3, .ref h3)] := hl
  refine lv_aload_n hx hb d_Ru_init_0 rfl (lv_at hl 0 rfl) ?_
  refine W.objInit hx hb hown (hts _ mw_281) (hts _ mw_33) (hts _ mw_oinit) rfl (by rw [hml]; exact hl.1) rfl d_Ru_init_1 (Nat.le_of_ble_eq_true rfl) (Nat.le_of_ble_eq_true rfl) ?_
  refine W.eq (g2 := F0 m 4 ls []) rfl ?_
  refine lv_aload_n hx hb d_Ru_init_4 rfl (lv_at hl 0 rfl) ?_
  refine lv_bipush (v := 11) hx hb d_Ru_init_5 (by decide) ?_
  refine va_newa (atype := .long) (a0 := (11, .inr (.inl (fun _ => 0)))) (ty := .long) hx hb (hts _ mw_165) rfl hK hP hD hS hA (fun _ => rfl) (by decide) (by decide) (by decide) (Nat.le_of_ble_eq_true rfl) (Nat.le_of_ble_eq_true rfl) d_Ru_init_7 (fun q1 cA2 H hK hP hD hS => ?_)
  have hP : va_P (dC, dI) classes [(h0, .inr (8, [.null, .null, .null, .null, .null, .null, .int 0, .int 0, .long 0, .int 0, .int 0, .int 0])), (q1, .inl (cA2, 11, .inr (.inl (fun _ => 0))))] H := hP
  have hD : va_D A [(h0, .inr (8, [.null, .null, .null, .null, .null, .null, .int 0, .int 0, .long 0, .int 0, .int 0, .int 0])), (q1, .inl (cA2, 11, .inr (.inl (fun _ => 0))))] := hD
  have hK : va_K (dC, dI) classes [(cA2, .long)] s := hK
  refine W.widen (k := 1) (n := 11) (by omega) (by omega) ?_
  refine va_putF (D := (dC, dI)) (ci := 8) (v := .ref q1) (ty := (.array .long)) (C := R_Ru) (T := F_Ru) (N := 12) hx hb hts i_Ru t_Ru t_Ru_ok n_Ru hown hK hP hD hS 0 rfl rfl 3 (by decide) (hts _ mw_285) (fun _ h9 => h9) rfl hin rfl (by decide +kernel) rfl rfl (Nat.le_of_ble_eq_true rfl) d_Ru_init_9 (fun H locs hP hD hS => ?_)
  have hP : va_P (dC, dI) classes [(h0, .inr (8, [.null, .null, .null, .ref q1, .null, .null, .int 0, .int 0, .long 0, .int 0, .int 0, .int 0])), (q1, .inl (cA2, 11, .inr (.inl (fun _ => 0))))] H := hP
  have hD : va_D A [(h0, .inr (8, [.null, .null, .null, .ref q1, .null, .null, .int 0, .int 0, .long 0, .int 0, .int 0, .int 0])), (q1, .inl (cA2, 11, .inr (.inl (fun _ => 0))))] := hD
  refine lv_aload_n hx hb d_Ru_init_12 rfl (lv_at hl 0 rfl) ?_
  refine lv_bipush (v := 19) hx hb d_Ru_init_13 (by decide) ?_
  refine va_newa (atype := .int) (a0 := (19, .inl (fun _ => 0))) (ty := .int) hx hb (hts _ mw_73) rfl hK hP hD hS hA (fun _ => rfl) (by decide) (by decide) (by decide) (Nat.le_of_ble_eq_true rfl) (Nat.le_of_ble_eq_true rfl) d_Ru_init_15 (fun q3 cA4 H hK hP hD hS => ?_)
  have hP : va_P (dC, dI) classes [(h0, .inr (8, [.null, .null, .null, .ref q1, .null, .null, .int 0, .int 0, .long 0, .int 0, .int 0, .int 0])), (q1, .inl (cA2, 11, .inr (.inl (fun _ => 0)))), (q3, .inl (cA4, 19, .inl (fun _ => 0)))] H := hP
  have hD : va_D A [(h0, .inr (8, [.null, .null, .null, .ref q1, .null, .null, .int 0, .int 0, .long 0, .int 0, .int 0, .int 0])), (q1, .inl (cA2, 11, .inr (.inl (fun _ => 0)))), (q3, .inl (cA4, 19, .inl (fun _ => 0)))] := hD
  have hK : va_K (dC, dI) classes [(cA2, .long), (cA4, .int)] s := hK
  refine W.widen (k := 2) (n := 30) (by omega) (by omega) ?_
  refine va_putF (D := (dC, dI)) (ci := 8) (v := .ref q3) (ty := (.array .int)) (C := R_Ru) (T := F_Ru) (N := 12) hx hb hts i_Ru t_Ru t_Ru_ok n_Ru hown hK hP hD hS 0 rfl rfl 4 (by decide) (hts _ mw_286) (fun _ h9 => h9) rfl hin rfl (by decide +kernel) rfl rfl (Nat.le_of_ble_eq_true rfl) d_Ru_init_17 (fun H locs hP hD hS => ?_)
  have hP : va_P (dC, dI) classes [(h0, .inr (8, [.null, .null, .null, .ref q1, .ref q3, .null, .int 0, .int 0, .long 0, .int 0, .int 0, .int 0])), (q1, .inl (cA2, 11, .inr (.inl (fun _ => 0)))), (q3, .inl (cA4, 19, .inl (fun _ => 0)))] H := hP
  have hD : va_D A [(h0, .inr (8, [.null, .null, .null, .ref q1, .ref q3, .null, .int 0, .int 0, .long 0, .int 0, .int 0, .int 0])), (q1, .inl (cA2, 11, .inr (.inl (fun _ => 0)))), (q3, .inl (cA4, 19, .inl (fun _ => 0)))] := hD
  refine lv_aload_n hx hb d_Ru_init_20 rfl (lv_at hl 0 rfl) ?_
  refine lv_bipush (v := 100) hx hb d_Ru_init_21 (by decide) ?_
  refine va_newa (atype := .long) (a0 := (100, .inr (.inl (fun _ => 0)))) (ty := .long) hx hb (hts _ mw_165) rfl hK hP hD hS hA (fun _ => rfl) (by decide) (by decide) (by decide) (Nat.le_of_ble_eq_true rfl) (Nat.le_of_ble_eq_true rfl) d_Ru_init_23 (fun q5 cA6 H hK hP hD hS => ?_)
  have hP : va_P (dC, dI) classes [(h0, .inr (8, [.null, .null, .null, .ref q1, .ref q3, .null, .int 0, .int 0, .long 0, .int 0, .int 0, .int 0])), (q1, .inl (cA2, 11, .inr (.inl (fun _ => 0)))), (q3, .inl (cA4, 19, .inl (fun _ => 0))), (q5, .inl (cA6, 100, .inr (.inl (fun _ => 0))))] H := hP
  have hD : va_D A [(h0, .inr (8, [.null, .null, .null, .ref q1, .ref q3, .null, .int 0, .int 0, .long 0, .int 0, .int 0, .int 0])), (q1, .inl (cA2, 11, .inr (.inl (fun _ => 0)))), (q3, .inl (cA4, 19, .inl (fun _ => 0))), (q5, .inl (cA6, 100, .inr (.inl (fun _ => 0))))] := hD
  have hK : va_K (dC, dI) classes [(cA2, .long), (cA4, .int), (cA6, .long)] s := hK
  refine W.widen (k := 3) (n := 130) (by omega) (by omega) ?_
  refine va_putF (D := (dC, dI)) (ci := 8) (v := .ref q5) (ty := (.array .long)) (C := R_Ru) (T := F_Ru) (N := 12) hx hb hts i_Ru t_Ru t_Ru_ok n_Ru hown hK hP hD hS 0 rfl rfl 5 (by decide) (hts _ mw_287) (fun _ h9 => h9) rfl hin rfl (by decide +kernel) rfl rfl (Nat.le_of_ble_eq_true rfl) d_Ru_init_25 (fun H locs hP hD hS => ?_)
  have hP : va_P (dC, dI) classes [(h0, .inr (8, [.null, .null, .null, .ref q1, .ref q3, .ref q5, .int 0, .int 0, .long 0, .int 0, .int 0, .int 0])), (q1, .inl (cA2, 11, .inr (.inl (fun _ => 0)))), (q3, .inl (cA4, 19, .inl (fun _ => 0))), (q5, .inl (cA6, 100, .inr (.inl (fun _ => 0))))] H := hP
  have hD : va_D A [(h0, .inr (8, [.null, .null, .null, .ref q1, .ref q3, .ref q5, .int 0, .int 0, .long 0, .int 0, .int 0, .int 0])), (q1, .inl (cA2, 11, .inr (.inl (fun _ => 0)))), (q3, .inl (cA4, 19, .inl (fun _ => 0))), (q5, .inl (cA6, 100, .inr (.inl (fun _ => 0))))] := hD
  refine lv_aload_n hx hb d_Ru_init_28 rfl (lv_at hl 0 rfl) ?_
  refine lv_aload_n hx hb d_Ru_init_29 rfl (lv_at hl 1 rfl) ?_
  refine va_putF (D := (dC, dI)) (ci := 8) (v := .ref h1) (ty := (.object R_Pr)) (C := R_Ru) (T := F_Ru) (N := 12) hx hb hts i_Ru t_Ru t_Ru_ok n_Ru hown hK hP hD hS 0 rfl rfl 0 (by decide) (hts _ mw_282) (fun _ h9 => h9) rfl hin rfl (by decide +kernel) rfl rfl (Nat.le_of_ble_eq_true rfl) d_Ru_init_30 (fun H locs hP hD hS => ?_)
  have hP : va_P (dC, dI) classes [(h0, .inr (8, [.ref h1, .null, .null, .ref q1, .ref q3, .ref q5, .int 0, .int 0, .long 0, .int 0, .int 0, .int 0])), (q1, .inl (cA2, 11, .inr (.inl (fun _ => 0)))), (q3, .inl (cA4, 19, .inl (fun _ => 0))), (q5, .inl (cA6, 100, .inr (.inl (fun _ => 0))))] H := hP
  have hD : va_D A [(h0, .inr (8, [.ref h1, .null, .null, .ref q1, .ref q3, .ref q5, .int 0, .int 0, .long 0, .int 0, .int 0, .int 0])), (q1, .inl (cA2, 11, .inr (.inl (fun _ => 0)))), (q3, .inl (cA4, 19, .inl (fun _ => 0))), (q5, .inl (cA6, 100, .inr (.inl (fun _ => 0))))] := hD
  refine lv_aload_n hx hb d_Ru_init_33 rfl (lv_at hl 0 rfl) ?_
  refine lv_aload_n hx hb d_Ru_init_34 rfl (lv_at hl 2 rfl) ?_
  refine va_putF (D := (dC, dI)) (ci := 8) (v := .ref h2) (ty := (.object R_Fo)) (C := R_Ru) (T := F_Ru) (N := 12) hx hb hts i_Ru t_Ru t_Ru_ok n_Ru hown hK hP hD hS 0 rfl rfl 1 (by decide) (hts _ mw_283) (fun _ h9 => h9) rfl hin rfl (by decide +kernel) rfl rfl (Nat.le_of_ble_eq_true rfl) d_Ru_init_35 (fun H locs hP hD hS => ?_)
  have hP : va_P (dC, dI) classes [(h0, .inr (8, [.ref h1, .ref h2, .null, .ref q1, .ref q3, .ref q5, .int 0, .int 0, .long 0, .int 0, .int 0, .int 0])), (q1, .inl (cA2, 11, .inr (.inl (fun _ => 0)))), (q3, .inl (cA4, 19, .inl (fun _ => 0))), (q5, .inl (cA6, 100, .inr (.inl (fun _ => 0))))] H := hP
  have hD : va_D A [(h0, .inr (8, [.ref h1, .ref h2, .null, .ref q1, .ref q3, .ref q5, .int 0, .int 0, .long 0, .int 0, .int 0, .int 0])), (q1, .inl (cA2, 11, .inr (.inl (fun _ => 0)))), (q3, .inl (cA4, 19, .inl (fun _ => 0))), (q5, .inl (cA6, 100, .inr (.inl (fun _ => 0))))] := hD
  refine lv_aload_n hx hb d_Ru_init_38 rfl (lv_at hl 0 rfl) ?_
  refine lv_aload_n hx hb d_Ru_init_39 rfl (lv_at hl 3 rfl) ?_
  refine va_putF (D := (dC, dI)) (ci := 8) (v := .ref h3) (ty := (.object R_Me)) (C := R_Ru) (T := F_Ru) (N := 12) hx hb hts i_Ru t_Ru t_Ru_ok n_Ru hown hK hP hD hS 0 rfl rfl 2 (by decide) (hts _ mw_284) (fun _ h9 => h9) rfl hin rfl (by decide +kernel) rfl rfl (Nat.le_of_ble_eq_true rfl) d_Ru_init_40 (fun H locs hP hD hS => ?_)
  have hP : va_P (dC, dI) classes [(h0, .inr (8, [.ref h1, .ref h2, .ref h3, .ref q1, .ref q3, .ref q5, .int 0, .int 0, .long 0, .int 0, .int 0, .int 0])), (q1, .inl (cA2, 11, .inr (.inl (fun _ => 0)))), (q3, .inl (cA4, 19, .inl (fun _ => 0))), (q5, .inl (cA6, 100, .inr (.inl (fun _ => 0))))] H := hP
  have hD : va_D A [(h0, .inr (8, [.ref h1, .ref h2, .ref h3, .ref q1, .ref q3, .ref q5, .int 0, .int 0, .long 0, .int 0, .int 0, .int 0])), (q1, .inl (cA2, 11, .inr (.inl (fun _ => 0)))), (q3, .inl (cA4, 19, .inl (fun _ => 0))), (q5, .inl (cA6, 100, .inr (.inl (fun _ => 0))))] := hD
  have hP9 := hP.sub (ws' := [(h0, .inr (8, [.ref h1, .ref h2, .ref h3, .ref q1, .ref q3, .ref q5, .int 0, .int 0, .long 0, .int 0, .int 0, .int 0]))]) [0] rfl
  have hD9 := hD.sub (ws' := [(h0, .inr (8, [.ref h1, .ref h2, .ref h3, .ref q1, .ref q3, .ref q5, .int 0, .int 0, .long 0, .int 0, .int 0, .int 0]))]) [0] (by decide) rfl
  have hK9 := hK.sub (tys' := []) [] rfl
  refine W.widen (k := 3) (n := 130) (by omega) (by omega) ?_
  exact W.vret hx hb hr (fun t ht hW => ⟨⟨(), rfl, trivial, q1, q3, q5, by rw [ht]; exact hP9, va_K.moved hW.alike hK9, hD9⟩, hS.F ht⟩) hS.2.2 d_Ru_init_43
set_option maxHeartbeats 4000000 in
set_option maxRecDepth 100000 in
theorem Ch_init_lp {p : Program} {e : Env} {s : State} {m : MethodId} {below : List Frame} {meth : Method} {c : Code} (l : Launch) (dC : Nat → ClassId) (dI : Nat → Nat → Nat) (h0 : Nat) (h1 : Nat) (h2 : Nat) (h3 : Nat) (q1 : Nat) (q8 : Nat) (q15 : Nat) (cA16 : ClassId) (q17 : Nat) (q18 : Nat) (q19 : Nat) (hx : p.tables.exec = Jvm.exec) (hb : c.code = prog_3_method_1_code) (hr : meth.sig.returnType = none) (hml : c.maxLocals = 5) (hown : s.vm.findClass R_Ch = some m.cls) (hts : ∀ w ∈ zz_W, w.before ([.ref h0, .ref h1, .ref h2, .ref h3] : List Value).toArray s = true) (hT : zz_T s) (hlocks : meth.locks = false) (hin : meth.name = "<init>") {A : Nat → Prop} (hA : ∀ q : Nat, s.heap.size ≤ q → A q) :
    ∀ (n i : Nat), i ≤ 100 → 100 + 1 ≤ i + n → ∀ (fvlp0 : Nat → Option Nat) (H : Heap) (locs : List Loc) (ls : Array Slot), va_K (dC, dI) classes [(cA16, .object R_St)] s → va_P (dC, dI) classes [(h0, .inr (5, [.ref h1, .ref h2, .ref h3, .ref q1, .ref q8, .ref q15, .ref q17, .ref q18, .ref q19, .int 0, .int 0, .int 0, .int 0, .int 0])), (q15, .inl (cA16, 100, .inr (.inr (.inr (.inr fvlp0)))))] H → va_D A [(h0, .inr (5, [.ref h1, .ref h2, .ref h3, .ref q1, .ref q8, .ref q15, .ref q17, .ref q18, .ref q19, .int 0, .int 0, .int 0, .int 0, .int 0])), (q15, .inl (cA16, 100, .inr (.inr (.inr (.inr fvlp0)))))] → va_S A s.heap H locs → lv_has ls 5 [(4, .int (nI i)), (0, .ref h0), (1, .ref h1), (2, .ref h2), (3, .ref h3)] → W p l e ({ frames := 2, cells := 718, slots := 11428, locals := 40 }) s m ([.ref h0, .ref h1, .ref h2, .ref h3] : List Value).toArray below meth c H locs (18 + 7 * i) (328 + 111 * i) (MQ below (va_Qv (fun (_ : Unit) => True) (fun (_ : Unit) (t : State) => ∃ (q1 : Nat) (q8 : Nat) (q15 : Nat) (q17 : Nat) (q18 : Nat) (q19 : Nat), va_P (dC, dI) classes [(h0, .inr (5, [.ref h1, .ref h2, .ref h3, .ref q1, .ref q8, .ref q15, .ref q17, .ref q18, .ref q19, .int 0, .int 0, .int 0, .int 0, .int (-1)]))] t.heap ∧ va_K (dC, dI) classes [] t ∧ va_D A [(h0, .inr (5, [.ref h1, .ref h2, .ref h3, .ref q1, .ref q8, .ref q15, .ref q17, .ref q18, .ref q19, .int 0, .int 0, .int 0, .int 0, .int (-1)]))]) A) ([.ref h0, .ref h1, .ref h2, .ref h3] : List Value).toArray s 718 11428 A) (F0 m 86 ls []) := by
  intro n
  induction n with
  | zero =>
    intro i h1 h2
    exact absurd h2 (by omega)
  | succ n ih =>
    intro i hi0 hn fvlp0 H locs ls hK hP hD hS hl
    rcases Nat.lt_or_ge i 100 with hi | hi
    · refine lv_iload hx hb d_Ch_init_86 (lv_at hl 0 rfl) ?_
      refine lv_bipush (v := 100) hx hb d_Ch_init_88 (by decide) ?_
      refine lv_icmp_ge (tgt := 113) hx hb d_Ch_init_90 (by decide) (fun h => absurd h (nI_ge (b := 100) hi (by decide))) (fun _ => ?_)
      refine lv_aload_n hx hb d_Ch_init_93 rfl (lv_at hl 1 rfl) ?_
      refine va_get (D := (dC, dI)) (ci := 5) (v := .ref q15) (C := R_Ch) (T := F_Ch) (N := 14) hx hb hts i_Ch hown hK hP 0 rfl rfl 5 (by decide) (hts _ mw_235) (fun _ h9 => h9) rfl d_Ch_init_94 ?_
      refine lv_iload hx hb d_Ch_init_97 (lv_at hl 0 rfl) ?_
      refine va_new (ci := 6) (fs := [.null, .null, .null, .null, .null, .null, .int 0, .int 0]) (C := R_St) (T := F_St) (N := 8) hx hb hts i_St t_St t_St_ok hown (hts _ mw_172) (hts _ mw_173) (hts _ mw_7) hK hP hD hS hA rfl zz_df_St (by show (18 + 7 * i) + 1 ≤ 718; omega) (by show (328 + 111 * i) + 8 ≤ 11428; omega) d_Ch_init_99 (fun q120 H hP hD hS => ?_)
      have hP : va_P (dC, dI) classes [(h0, .inr (5, [.ref h1, .ref h2, .ref h3, .ref q1, .ref q8, .ref q15, .ref q17, .ref q18, .ref q19, .int 0, .int 0, .int 0, .int 0, .int 0])), (q15, .inl (cA16, 100, .inr (.inr (.inr (.inr fvlp0))))), (q120, .inr (6, [.null, .null, .null, .null, .null, .null, .int 0, .int 0]))] H := hP
      have hD : va_D A [(h0, .inr (5, [.ref h1, .ref h2, .ref h3, .ref q1, .ref q8, .ref q15, .ref q17, .ref q18, .ref q19, .int 0, .int 0, .int 0, .int 0, .int 0])), (q15, .inl (cA16, 100, .inr (.inr (.inr (.inr fvlp0))))), (q120, .inr (6, [.null, .null, .null, .null, .null, .null, .int 0, .int 0]))] := hD
      refine W.widen (k := (19 + 7 * i)) (n := (336 + 111 * i)) (by omega) (by omega) ?_
      refine lv_dup hx hb d_Ch_init_102 rfl ?_
      have hPc := hP.sub (ws' := [(q120, .inr (6, [.null, .null, .null, .null, .null, .null, .int 0, .int 0]))]) [2] rfl
      have hKc := hK.sub (tys' := []) [] rfl
      have hDc := hD.sub (ws' := [(q120, .inr (6, [.null, .null, .null, .null, .null, .null, .int 0, .int 0]))]) [2] (by decide) rfl
      have hFc := va_free (wc := [(q120, .inr (6, [.null, .null, .null, .null, .null, .null, .int 0, .int 0]))]) hD hS hA [2] rfl
      refine va_callv (va_runIN (As := []) (rest := [.ref q120, .int (nI i), .ref q15]) ⟨hx, hb, hml, hown, hts⟩ (St_init l dC dI H.size q120) ⟨zz_cN 0 hts hT mn_174 mw_176 mw_7 rfl rfl hd_St_init ⟨Nat.le_of_ble_eq_true rfl, Nat.le_of_ble_eq_true rfl⟩, rfl, hts _ mw_175⟩ ⟨zz_blind, fun U hU hW => ⟨rfl, zz_pre hPc hKc hDc hT U hU hW⟩⟩ rfl rfl hl.1 rfl (lv_room (Nat.le_of_ble_eq_true rfl)) d_Ch_init_103 ⟨(by show (19 + 7 * i) + 6 ≤ 718; omega), (by show (336 + 111 * i) + 103 ≤ 11428; omega)⟩) hS (fun q _ h => hFc q h) hFc (fun  u t H1 locs ht hvm hw hB hz1 hk1 hS => ?_)
      obtain ⟨q121, q122, q123, q124, q125, q126, hP1, hK1, hD1⟩ := hB
      rw [ht] at hP1
      have hK1 := va_K.moved hvm.symm hK1
      obtain ⟨hP, hD⟩ := va_join (wr := [(h0, .inr (5, [.ref h1, .ref h2, .ref h3, .ref q1, .ref q8, .ref q15, .ref q17, .ref q18, .ref q19, .int 0, .int 0, .int 0, .int 0, .int 0])), (q15, .inl (cA16, 100, .inr (.inr (.inr (.inr fvlp0)))))]) (w1 := [(q120, .inr (6, [.ref q121, .ref q122, .ref q123, .ref q124, .ref q125, .ref q126, .int 0, .int 0]))]) hP hD [2] [0, 1] rfl rfl (by decide) (by decide) hk1 hFc hP1 hD1
      have hK := (hK.sub (tys' := [(cA16, .object R_St)]) [0] rfl).app hK1
      generalize H1 = H at hP hS ⊢
      have hP : va_P (dC, dI) classes [(h0, .inr (5, [.ref h1, .ref h2, .ref h3, .ref q1, .ref q8, .ref q15, .ref q17, .ref q18, .ref q19, .int 0, .int 0, .int 0, .int 0, .int 0])), (q15, .inl (cA16, 100, .inr (.inr (.inr (.inr fvlp0))))), (q120, .inr (6, [.ref q121, .ref q122, .ref q123, .ref q124, .ref q125, .ref q126, .int 0, .int 0]))] H := hP
      have hD : va_D A [(h0, .inr (5, [.ref h1, .ref h2, .ref h3, .ref q1, .ref q8, .ref q15, .ref q17, .ref q18, .ref q19, .int 0, .int 0, .int 0, .int 0, .int 0])), (q15, .inl (cA16, 100, .inr (.inr (.inr (.inr fvlp0))))), (q120, .inr (6, [.ref q121, .ref q122, .ref q123, .ref q124, .ref q125, .ref q126, .int 0, .int 0]))] := hD
      have hK : va_K (dC, dI) classes [(cA16, .object R_St)] s := hK
      refine W.widen (k := (25 + 7 * i)) (n := (439 + 111 * i)) (by omega) (by omega) ?_
      refine va_astq hx hb hK hP hD hS 1 0 2 6 rfl rfl rfl rfl (vp_in_nI (by omega) (by decide)) d_Ch_init_106 (fun H locs hP hD hS => ?_)
      have hP : va_P (dC, dI) classes [(h0, .inr (5, [.ref h1, .ref h2, .ref h3, .ref q1, .ref q8, .ref q15, .ref q17, .ref q18, .ref q19, .int 0, .int 0, .int 0, .int 0, .int 0])), (q15, .inl (cA16, 100, .inr (.inr (.inr (.inr (va_up fvlp0 (nI i : Int32).toNatClampNeg (some q120))))))), (q120, .inr (6, [.ref q121, .ref q122, .ref q123, .ref q124, .ref q125, .ref q126, .int 0, .int 0]))] H := hP
      have hD : va_D A [(h0, .inr (5, [.ref h1, .ref h2, .ref h3, .ref q1, .ref q8, .ref q15, .ref q17, .ref q18, .ref q19, .int 0, .int 0, .int 0, .int 0, .int 0])), (q15, .inl (cA16, 100, .inr (.inr (.inr (.inr (va_up fvlp0 (nI i : Int32).toNatClampNeg (some q120))))))), (q120, .inr (6, [.ref q121, .ref q122, .ref q123, .ref q124, .ref q125, .ref q126, .int 0, .int 0]))] := hD
      obtain ⟨f127, ef127⟩ : ∃ f : Nat → Option Nat, f = va_up fvlp0 (nI i : Int32).toNatClampNeg (some q120) := ⟨_, rfl⟩
      rw [← ef127] at hP hD
      refine lv_iinc (v := nI (i + 1)) (lv' := [(4, .int (nI (i + 1))), (0, .ref h0), (1, .ref h1), (2, .ref h2), (3, .ref h3)]) hx hb d_Ch_init_107 hl (k := 0) rfl (nI_1 i) (by decide) rfl (fun ls hl => ?_)
      refine lv_goto (tgt := 86) hx hb d_Ch_init_110 (by decide) ?_
      have hP := hP.sub (ws' := [(h0, .inr (5, [.ref h1, .ref h2, .ref h3, .ref q1, .ref q8, .ref q15, .ref q17, .ref q18, .ref q19, .int 0, .int 0, .int 0, .int 0, .int 0])), (q15, .inl (cA16, 100, .inr (.inr (.inr (.inr f127)))))]) [0, 1] rfl
      have hD := hD.sub (ws' := [(h0, .inr (5, [.ref h1, .ref h2, .ref h3, .ref q1, .ref q8, .ref q15, .ref q17, .ref q18, .ref q19, .int 0, .int 0, .int 0, .int 0, .int 0])), (q15, .inl (cA16, 100, .inr (.inr (.inr (.inr f127)))))]) [0, 1] (by decide) rfl
      have hK := hK.sub (tys' := [(cA16, .object R_St)]) [0] rfl
      refine W.widen (k := (18 + 7 * (i + 1))) (n := (328 + 111 * (i + 1))) (by omega) (by omega) ?_
      exact ih (i + 1) (by omega) (by omega) f127 _ _ ls hK hP hD hS (lv_sub hl [0, 1, 2, 3, 4] rfl)
    · obtain rfl : i = 100 := by omega
      refine lv_iload hx hb d_Ch_init_86 (lv_at hl 0 rfl) ?_
      refine lv_bipush (v := 100) hx hb d_Ch_init_88 (by decide) ?_
      refine lv_icmp_ge (tgt := 113) hx hb d_Ch_init_90 (by decide) (fun _ => ?_) (fun h => absurd (nI_le (a := 100) hi (by decide)) h)
      refine lv_aload_n hx hb d_Ch_init_113 rfl (lv_at hl 1 rfl) ?_
      refine lv_iconst (v := (-1)) hx hb d_Ch_init_114 (by decide) ?_
      refine va_put (D := (dC, dI)) (ci := 5) (v := .int (-1)) (ty := .int) (C := R_Ch) (T := F_Ch) (N := 14) hx hb hts i_Ch t_Ch t_Ch_ok n_Ch hown hK hP hD hS 0 rfl rfl 13 (by decide) (hts _ mw_245) (fun _ h9 => h9) rfl (by decide +kernel) rfl rfl (Nat.le_of_ble_eq_true rfl) d_Ch_init_115 (fun H locs hP hD hS => ?_)
      have hP : va_P (dC, dI) classes [(h0, .inr (5, [.ref h1, .ref h2, .ref h3, .ref q1, .ref q8, .ref q15, .ref q17, .ref q18, .ref q19, .int 0, .int 0, .int 0, .int 0, .int (-1)])), (q15, .inl (cA16, 100, .inr (.inr (.inr (.inr fvlp0)))))] H := hP
      have hD : va_D A [(h0, .inr (5, [.ref h1, .ref h2, .ref h3, .ref q1, .ref q8, .ref q15, .ref q17, .ref q18, .ref q19, .int 0, .int 0, .int 0, .int 0, .int (-1)])), (q15, .inl (cA16, 100, .inr (.inr (.inr (.inr fvlp0)))))] := hD
      have hP9 := hP.sub (ws' := [(h0, .inr (5, [.ref h1, .ref h2, .ref h3, .ref q1, .ref q8, .ref q15, .ref q17, .ref q18, .ref q19, .int 0, .int 0, .int 0, .int 0, .int (-1)]))]) [0] rfl
      have hD9 := hD.sub (ws' := [(h0, .inr (5, [.ref h1, .ref h2, .ref h3, .ref q1, .ref q8, .ref q15, .ref q17, .ref q18, .ref q19, .int 0, .int 0, .int 0, .int 0, .int (-1)]))]) [0] (by decide) rfl
      have hK9 := hK.sub (tys' := []) [] rfl
      refine W.widen (k := 718) (n := 11428) (by omega) (by omega) ?_
      exact W.vret hx hb hr (fun t ht hW => ⟨⟨(), rfl, trivial, q1, q8, q15, q17, q18, q19, by rw [ht]; exact hP9, va_K.moved hW.alike hK9, hD9⟩, hS.F ht⟩) hS.2.2 d_Ch_init_118
set_option maxHeartbeats 4000000 in
set_option maxRecDepth 100000 in
theorem Ch_init (l : Launch) (dC : Nat → ClassId) (dI : Nat → Nat → Nat) (sz : Nat) (h0 : Nat) (h1 : Nat) (h2 : Nat) (h3 : Nat) : Met l y_Ch_init (.code y_Ch_init prog_3_method_1_code 5 none :: zz_W) ({ frames := 2, cells := 718, slots := 11428, locals := 40 }) (va_Pc [.ref h0, .ref h1, .ref h2, .ref h3] (zz_B dC dI [(h0, .inr (5, [.null, .null, .null, .null, .null, .null, .null, .null, .null, .int 0, .int 0, .int 0, .int 0, .int 0]))] [] sz)) (va_Qv (fun (_ : Unit) => True) (fun (_ : Unit) (t : State) => ∃ (q1 : Nat) (q8 : Nat) (q15 : Nat) (q17 : Nat) (q18 : Nat) (q19 : Nat), va_P (dC, dI) classes [(h0, .inr (5, [.ref h1, .ref h2, .ref h3, .ref q1, .ref q8, .ref q15, .ref q17, .ref q18, .ref q19, .int 0, .int 0, .int 0, .int 0, .int (-1)]))] t.heap ∧ va_K (dC, dI) classes [] t ∧ va_D (va_A [(h0, .inr (5, [.null, .null, .null, .null, .null, .null, .null, .null, .null, .int 0, .int 0, .int 0, .int 0, .int 0]))] sz) [(h0, .inr (5, [.ref h1, .ref h2, .ref h3, .ref q1, .ref q8, .ref q15, .ref q17, .ref q18, .ref q19, .int 0, .int 0, .int 0, .int 0, .int (-1)]))]) (va_A [(h0, .inr (5, [.null, .null, .null, .null, .null, .null, .null, .null, .null, .int 0, .int 0, .int 0, .int 0, .int 0]))] sz)) 718 11428 (va_A [(h0, .inr (5, [.null, .null, .null, .null, .null, .null, .null, .null, .null, .int 0, .int 0, .int 0, .int 0, .int 0]))] sz) := by
  refine Met.ofW (cc := prog_3_method_1_code) (maxL := 5) (ret := none) (by decide) rfl ?_
  intro p e s m args below meth c s₁ B hml hv
  obtain ⟨rfl, hsz, hP, hK, hD0, hT⟩ := hv
  have hx := B.exec
  have hb := B.bytes
  have hr := B.returns
  have hts0 := atoms_spec (ws := (.code y_Ch_init prog_3_method_1_code 5 none :: zz_W)) B.pre
  have hts : ∀ w ∈ zz_W, w.before _ s = true := fun w h => hts0 w (List.mem_cons_of_mem _ h)
  have hown : s.vm.findClass R_Ch = some m.cls := findClass_of_methodNamed B.named
  have hlocks := B.notSynchronized
  have hin : meth.name = "<init>" := (name_of_methodNamed B.named B.method).1
  subst hsz
  have hD := hD0.self (sz := s.heap.size)
  generalize hAe : va_A [(h0, .inr (5, [.null, .null, .null, .null, .null, .null, .null, .null, .null, .int 0, .int 0, .int 0, .int 0, .int 0]))] s.heap.size = A at hD ⊢
  have hA : ∀ q : Nat, s.heap.size ≤ q → A q := fun q h => by rw [← hAe]; exact Or.inr h
  have hS : va_S A s.heap s.heap [] := va_S.rf
  have hl := lv_entry ([.ref h0, .ref h1, .ref h2, .ref h3]) (n := 5) (Nat.le_of_ble_eq_true rfl)
  rw [lg_entry_eq]
  generalize (lg_sl ([.ref h0, .ref h1, .ref h2, .ref h3]) ++ List.replicate (5 - (lg_sl ([.ref h0, .ref h1, .ref h2, .ref h3])).length) Slot.unset).toArray = ls at hl ⊢
  have hl : lv_has ls 5 [(0, .ref h0), (1, .ref h1), (2, .ref h2), (3, .ref h3)] := hl
  refine lv_aload_n hx hb d_Ch_init_0 rfl (lv_at hl 0 rfl) ?_
  refine W.objInit hx hb hown (hts _ mw_171) (hts _ mw_33) (hts _ mw_oinit) rfl (by rw [hml]; exact hl.1) rfl d_Ch_init_1 (Nat.le_of_ble_eq_true rfl) (Nat.le_of_ble_eq_true rfl) ?_
  refine W.eq (g2 := F0 m 4 ls []) rfl ?_
  refine lv_aload_n hx hb d_Ch_init_4 rfl (lv_at hl 0 rfl) ?_
  refine va_new (ci := 6) (fs := [.null, .null, .null, .null, .null, .null, .int 0, .int 0]) (C := R_St) (T := F_St) (N := 8) hx hb hts i_St t_St t_St_ok hown (hts _ mw_172) (hts _ mw_173) (hts _ mw_7) hK hP hD hS hA rfl zz_df_St (Nat.le_of_ble_eq_true rfl) (Nat.le_of_ble_eq_true rfl) d_Ch_init_5 (fun q1 H hP hD hS => ?_)
  have hP : va_P (dC, dI) classes [(h0, .inr (5, [.null, .null, .null, .null, .null, .null, .null, .null, .null, .int 0, .int 0, .int 0, .int 0, .int 0])), (q1, .inr (6, [.null, .null, .null, .null, .null, .null, .int 0, .int 0]))] H := hP
  have hD : va_D A [(h0, .inr (5, [.null, .null, .null, .null, .null, .null, .null, .null, .null, .int 0, .int 0, .int 0, .int 0, .int 0])), (q1, .inr (6, [.null, .null, .null, .null, .null, .null, .int 0, .int 0]))] := hD
  refine W.widen (k := 1) (n := 8) (by omega) (by omega) ?_
  refine lv_dup hx hb d_Ch_init_8 rfl ?_
  have hPc := hP.sub (ws' := [(q1, .inr (6, [.null, .null, .null, .null, .null, .null, .int 0, .int 0]))]) [1] rfl
  have hKc := hK.sub (tys' := []) [] rfl
  have hDc := hD.sub (ws' := [(q1, .inr (6, [.null, .null, .null, .null, .null, .null, .int 0, .int 0]))]) [1] (by decide) rfl
  have hFc := va_free (wc := [(q1, .inr (6, [.null, .null, .null, .null, .null, .null, .int 0, .int 0]))]) hD hS hA [1] rfl
  refine va_callv (va_runIN (As := []) (rest := [.ref q1, .ref h0]) ⟨hx, hb, hml, hown, hts⟩ (St_init l dC dI H.size q1) ⟨zz_cN 0 hts hT mn_174 mw_176 mw_7 rfl rfl hd_St_init ⟨Nat.le_of_ble_eq_true rfl, Nat.le_of_ble_eq_true rfl⟩, rfl, hts _ mw_175⟩ ⟨zz_blind, fun U hU hW => ⟨rfl, zz_pre hPc hKc hDc hT U hU hW⟩⟩ rfl rfl hl.1 rfl (lv_room (Nat.le_of_ble_eq_true rfl)) d_Ch_init_9 ⟨(Nat.le_of_ble_eq_true rfl), (Nat.le_of_ble_eq_true rfl)⟩) hS (fun q _ h => hFc q h) hFc (fun  u t H1 locs ht hvm hw hB hz1 hk1 hS => ?_)
  obtain ⟨q2, q3, q4, q5, q6, q7, hP1, hK1, hD1⟩ := hB
  rw [ht] at hP1
  have hK1 := va_K.moved hvm.symm hK1
  obtain ⟨hP, hD⟩ := va_join (wr := [(h0, .inr (5, [.null, .null, .null, .null, .null, .null, .null, .null, .null, .int 0, .int 0, .int 0, .int 0, .int 0]))]) (w1 := [(q1, .inr (6, [.ref q2, .ref q3, .ref q4, .ref q5, .ref q6, .ref q7, .int 0, .int 0]))]) hP hD [1] [0] rfl rfl (by decide) (by decide) hk1 hFc hP1 hD1
  have hK := (hK.sub (tys' := []) [] rfl).app hK1
  generalize H1 = H at hP hS ⊢
  have hP : va_P (dC, dI) classes [(h0, .inr (5, [.null, .null, .null, .null, .null, .null, .null, .null, .null, .int 0, .int 0, .int 0, .int 0, .int 0])), (q1, .inr (6, [.ref q2, .ref q3, .ref q4, .ref q5, .ref q6, .ref q7, .int 0, .int 0]))] H := hP
  have hD : va_D A [(h0, .inr (5, [.null, .null, .null, .null, .null, .null, .null, .null, .null, .int 0, .int 0, .int 0, .int 0, .int 0])), (q1, .inr (6, [.ref q2, .ref q3, .ref q4, .ref q5, .ref q6, .ref q7, .int 0, .int 0]))] := hD
  have hK : va_K (dC, dI) classes [] s := hK
  refine W.widen (k := 7) (n := 111) (by omega) (by omega) ?_
  refine va_putF (D := (dC, dI)) (ci := 5) (v := .ref q1) (ty := (.object R_St)) (C := R_Ch) (T := F_Ch) (N := 14) hx hb hts i_Ch t_Ch t_Ch_ok n_Ch hown hK hP hD hS 0 rfl rfl 3 (by decide) (hts _ mw_233) (fun _ h9 => h9) rfl hin rfl (by decide +kernel) rfl rfl (Nat.le_of_ble_eq_true rfl) d_Ch_init_12 (fun H locs hP hD hS => ?_)
  have hP : va_P (dC, dI) classes [(h0, .inr (5, [.null, .null, .null, .ref q1, .null, .null, .null, .null, .null, .int 0, .int 0, .int 0, .int 0, .int 0])), (q1, .inr (6, [.ref q2, .ref q3, .ref q4, .ref q5, .ref q6, .ref q7, .int 0, .int 0]))] H := hP
  have hD : va_D A [(h0, .inr (5, [.null, .null, .null, .ref q1, .null, .null, .null, .null, .null, .int 0, .int 0, .int 0, .int 0, .int 0])), (q1, .inr (6, [.ref q2, .ref q3, .ref q4, .ref q5, .ref q6, .ref q7, .int 0, .int 0]))] := hD
  have hP := hP.sub (ws' := [(h0, .inr (5, [.null, .null, .null, .ref q1, .null, .null, .null, .null, .null, .int 0, .int 0, .int 0, .int 0, .int 0]))]) [0] rfl
  have hD := hD.sub (ws' := [(h0, .inr (5, [.null, .null, .null, .ref q1, .null, .null, .null, .null, .null, .int 0, .int 0, .int 0, .int 0, .int 0]))]) [0] (by decide) rfl
  have hK := hK.sub (tys' := []) [] rfl
  refine lv_aload_n hx hb d_Ch_init_15 rfl (lv_at hl 0 rfl) ?_
  refine va_new (ci := 6) (fs := [.null, .null, .null, .null, .null, .null, .int 0, .int 0]) (C := R_St) (T := F_St) (N := 8) hx hb hts i_St t_St t_St_ok hown (hts _ mw_172) (hts _ mw_173) (hts _ mw_7) hK hP hD hS hA rfl zz_df_St (Nat.le_of_ble_eq_true rfl) (Nat.le_of_ble_eq_true rfl) d_Ch_init_16 (fun q8 H hP hD hS => ?_)
  have hP : va_P (dC, dI) classes [(h0, .inr (5, [.null, .null, .null, .ref q1, .null, .null, .null, .null, .null, .int 0, .int 0, .int 0, .int 0, .int 0])), (q8, .inr (6, [.null, .null, .null, .null, .null, .null, .int 0, .int 0]))] H := hP
  have hD : va_D A [(h0, .inr (5, [.null, .null, .null, .ref q1, .null, .null, .null, .null, .null, .int 0, .int 0, .int 0, .int 0, .int 0])), (q8, .inr (6, [.null, .null, .null, .null, .null, .null, .int 0, .int 0]))] := hD
  refine W.widen (k := 8) (n := 119) (by omega) (by omega) ?_
  refine lv_dup hx hb d_Ch_init_19 rfl ?_
  have hPc := hP.sub (ws' := [(q8, .inr (6, [.null, .null, .null, .null, .null, .null, .int 0, .int 0]))]) [1] rfl
  have hKc := hK.sub (tys' := []) [] rfl
  have hDc := hD.sub (ws' := [(q8, .inr (6, [.null, .null, .null, .null, .null, .null, .int 0, .int 0]))]) [1] (by decide) rfl
  have hFc := va_free (wc := [(q8, .inr (6, [.null, .null, .null, .null, .null, .null, .int 0, .int 0]))]) hD hS hA [1] rfl
  refine va_callv (va_runIN (As := []) (rest := [.ref q8, .ref h0]) ⟨hx, hb, hml, hown, hts⟩ (St_init l dC dI H.size q8) ⟨zz_cN 0 hts hT mn_174 mw_176 mw_7 rfl rfl hd_St_init ⟨Nat.le_of_ble_eq_true rfl, Nat.le_of_ble_eq_true rfl⟩, rfl, hts _ mw_175⟩ ⟨zz_blind, fun U hU hW => ⟨rfl, zz_pre hPc hKc hDc hT U hU hW⟩⟩ rfl rfl hl.1 rfl (lv_room (Nat.le_of_ble_eq_true rfl)) d_Ch_init_20 ⟨(Nat.le_of_ble_eq_true rfl), (Nat.le_of_ble_eq_true rfl)⟩) hS (fun q _ h => hFc q h) hFc (fun  u t H1 locs ht hvm hw hB hz1 hk1 hS => ?_)
  obtain ⟨q9, q10, q11, q12, q13, q14, hP1, hK1, hD1⟩ := hB
  rw [ht] at hP1
  have hK1 := va_K.moved hvm.symm hK1
  obtain ⟨hP, hD⟩ := va_join (wr := [(h0, .inr (5, [.null, .null, .null, .ref q1, .null, .null, .null, .null, .null, .int 0, .int 0, .int 0, .int 0, .int 0]))]) (w1 := [(q8, .inr (6, [.ref q9, .ref q10, .ref q11, .ref q12, .ref q13, .ref q14, .int 0, .int 0]))]) hP hD [1] [0] rfl rfl (by decide) (by decide) hk1 hFc hP1 hD1
  have hK := (hK.sub (tys' := []) [] rfl).app hK1
  generalize H1 = H at hP hS ⊢
  have hP : va_P (dC, dI) classes [(h0, .inr (5, [.null, .null, .null, .ref q1, .null, .null, .null, .null, .null, .int 0, .int 0, .int 0, .int 0, .int 0])), (q8, .inr (6, [.ref q9, .ref q10, .ref q11, .ref q12, .ref q13, .ref q14, .int 0, .int 0]))] H := hP
  have hD : va_D A [(h0, .inr (5, [.null, .null, .null, .ref q1, .null, .null, .null, .null, .null, .int 0, .int 0, .int 0, .int 0, .int 0])), (q8, .inr (6, [.ref q9, .ref q10, .ref q11, .ref q12, .ref q13, .ref q14, .int 0, .int 0]))] := hD
  have hK : va_K (dC, dI) classes [] s := hK
  refine W.widen (k := 14) (n := 222) (by omega) (by omega) ?_
  refine va_putF (D := (dC, dI)) (ci := 5) (v := .ref q8) (ty := (.object R_St)) (C := R_Ch) (T := F_Ch) (N := 14) hx hb hts i_Ch t_Ch t_Ch_ok n_Ch hown hK hP hD hS 0 rfl rfl 4 (by decide) (hts _ mw_234) (fun _ h9 => h9) rfl hin rfl (by decide +kernel) rfl rfl (Nat.le_of_ble_eq_true rfl) d_Ch_init_23 (fun H locs hP hD hS => ?_)
  have hP : va_P (dC, dI) classes [(h0, .inr (5, [.null, .null, .null, .ref q1, .ref q8, .null, .null, .null, .null, .int 0, .int 0, .int 0, .int 0, .int 0])), (q8, .inr (6, [.ref q9, .ref q10, .ref q11, .ref q12, .ref q13, .ref q14, .int 0, .int 0]))] H := hP
  have hD : va_D A [(h0, .inr (5, [.null, .null, .null, .ref q1, .ref q8, .null, .null, .null, .null, .int 0, .int 0, .int 0, .int 0, .int 0])), (q8, .inr (6, [.ref q9, .ref q10, .ref q11, .ref q12, .ref q13, .ref q14, .int 0, .int 0]))] := hD
  have hP := hP.sub (ws' := [(h0, .inr (5, [.null, .null, .null, .ref q1, .ref q8, .null, .null, .null, .null, .int 0, .int 0, .int 0, .int 0, .int 0]))]) [0] rfl
  have hD := hD.sub (ws' := [(h0, .inr (5, [.null, .null, .null, .ref q1, .ref q8, .null, .null, .null, .null, .int 0, .int 0, .int 0, .int 0, .int 0]))]) [0] (by decide) rfl
  have hK := hK.sub (tys' := []) [] rfl
  refine lv_aload_n hx hb d_Ch_init_26 rfl (lv_at hl 0 rfl) ?_
  refine lv_bipush (v := 100) hx hb d_Ch_init_27 (by decide) ?_
  refine va_newq (C := R_St) (N' := 100) hx hb hown (hts _ mw_172) hT.2.1 hK hP hD hS hA (by decide) (by decide) (by decide) (Nat.le_of_ble_eq_true rfl) (Nat.le_of_ble_eq_true rfl) d_Ch_init_29 (fun q15 cA16 H hK hP hD hS => ?_)
  have hP : va_P (dC, dI) classes [(h0, .inr (5, [.null, .null, .null, .ref q1, .ref q8, .null, .null, .null, .null, .int 0, .int 0, .int 0, .int 0, .int 0])), (q15, .inl (cA16, 100, .inr (.inr (.inr (.inr (fun _ => none))))))] H := hP
  have hD : va_D A [(h0, .inr (5, [.null, .null, .null, .ref q1, .ref q8, .null, .null, .null, .null, .int 0, .int 0, .int 0, .int 0, .int 0])), (q15, .inl (cA16, 100, .inr (.inr (.inr (.inr (fun _ => none))))))] := hD
  have hK : va_K (dC, dI) classes [(cA16, .object R_St)] s := hK
  refine W.widen (k := 15) (n := 322) (by omega) (by omega) ?_
  refine va_putF (D := (dC, dI)) (ci := 5) (v := .ref q15) (ty := (.array (.object R_St))) (C := R_Ch) (T := F_Ch) (N := 14) hx hb hts i_Ch t_Ch t_Ch_ok n_Ch hown hK hP hD hS 0 rfl rfl 5 (by decide) (hts _ mw_235) (fun _ h9 => h9) rfl hin rfl (by decide +kernel) rfl rfl (Nat.le_of_ble_eq_true rfl) d_Ch_init_32 (fun H locs hP hD hS => ?_)
  have hP : va_P (dC, dI) classes [(h0, .inr (5, [.null, .null, .null, .ref q1, .ref q8, .ref q15, .null, .null, .null, .int 0, .int 0, .int 0, .int 0, .int 0])), (q15, .inl (cA16, 100, .inr (.inr (.inr (.inr (fun _ => none))))))] H := hP
  have hD : va_D A [(h0, .inr (5, [.null, .null, .null, .ref q1, .ref q8, .ref q15, .null, .null, .null, .int 0, .int 0, .int 0, .int 0, .int 0])), (q15, .inl (cA16, 100, .inr (.inr (.inr (.inr (fun _ => none))))))] := hD
  refine lv_aload_n hx hb d_Ch_init_35 rfl (lv_at hl 0 rfl) ?_
  refine va_new (ci := 7) (fs := [.long 0, .long 0]) (C := R_Ra) (T := F_Ra) (N := 2) hx hb hts i_Ra t_Ra t_Ra_ok hown (hts _ mw_213) (hts _ mw_214) (hts _ mw_8) hK hP hD hS hA rfl zz_df_Ra (Nat.le_of_ble_eq_true rfl) (Nat.le_of_ble_eq_true rfl) d_Ch_init_36 (fun q17 H hP hD hS => ?_)
  have hP : va_P (dC, dI) classes [(h0, .inr (5, [.null, .null, .null, .ref q1, .ref q8, .ref q15, .null, .null, .null, .int 0, .int 0, .int 0, .int 0, .int 0])), (q15, .inl (cA16, 100, .inr (.inr (.inr (.inr (fun _ => none)))))), (q17, .inr (7, [.long 0, .long 0]))] H := hP
  have hD : va_D A [(h0, .inr (5, [.null, .null, .null, .ref q1, .ref q8, .ref q15, .null, .null, .null, .int 0, .int 0, .int 0, .int 0, .int 0])), (q15, .inl (cA16, 100, .inr (.inr (.inr (.inr (fun _ => none)))))), (q17, .inr (7, [.long 0, .long 0]))] := hD
  refine W.widen (k := 16) (n := 324) (by omega) (by omega) ?_
  refine lv_dup hx hb d_Ch_init_39 rfl ?_
  have hPc := hP.sub (ws' := [(q17, .inr (7, [.long 0, .long 0]))]) [2] rfl
  have hKc := hK.sub (tys' := []) [] rfl
  have hDc := hD.sub (ws' := [(q17, .inr (7, [.long 0, .long 0]))]) [2] (by decide) rfl
  have hFc := va_free (wc := [(q17, .inr (7, [.long 0, .long 0]))]) hD hS hA [2] rfl
  refine va_callv (va_runIN (As := []) (rest := [.ref q17, .ref h0]) ⟨hx, hb, hml, hown, hts⟩ (Ra_init l dC dI H.size q17) ⟨zz_cN 0 hts hT mn_215 mw_217 mw_8 rfl rfl hd_Ra_init ⟨Nat.le_of_ble_eq_true rfl, Nat.le_of_ble_eq_true rfl⟩, rfl, hts _ mw_216⟩ ⟨zz_blind, fun U hU hW => ⟨rfl, zz_pre hPc hKc hDc hT U hU hW⟩⟩ rfl rfl hl.1 rfl (lv_room (Nat.le_of_ble_eq_true rfl)) d_Ch_init_40 ⟨(Nat.le_of_ble_eq_true rfl), (Nat.le_of_ble_eq_true rfl)⟩) hS (fun q _ h => hFc q h) hFc (fun  u t H1 locs ht hvm hw hB hz1 hk1 hS => ?_)
  obtain ⟨hP1, hK1, hD1⟩ := hB
  rw [ht] at hP1
  have hK1 := va_K.moved hvm.symm hK1
  obtain ⟨hP, hD⟩ := va_join (wr := [(h0, .inr (5, [.null, .null, .null, .ref q1, .ref q8, .ref q15, .null, .null, .null, .int 0, .int 0, .int 0, .int 0, .int 0])), (q15, .inl (cA16, 100, .inr (.inr (.inr (.inr (fun _ => none))))))]) (w1 := []) hP hD [2] [0, 1] rfl rfl (by decide) (by decide) hk1 hFc hP1 hD1
  have hK := (hK.sub (tys' := [(cA16, .object R_St)]) [0] rfl).app hK1
  generalize H1 = H at hP hS ⊢
  have hP : va_P (dC, dI) classes [(h0, .inr (5, [.null, .null, .null, .ref q1, .ref q8, .ref q15, .null, .null, .null, .int 0, .int 0, .int 0, .int 0, .int 0])), (q15, .inl (cA16, 100, .inr (.inr (.inr (.inr (fun _ => none))))))] H := hP
  have hD : va_D A [(h0, .inr (5, [.null, .null, .null, .ref q1, .ref q8, .ref q15, .null, .null, .null, .int 0, .int 0, .int 0, .int 0, .int 0])), (q15, .inl (cA16, 100, .inr (.inr (.inr (.inr (fun _ => none))))))] := hD
  have hK : va_K (dC, dI) classes [(cA16, .object R_St)] s := hK
  refine va_putF (D := (dC, dI)) (ci := 5) (v := .ref q17) (ty := (.object R_Ra)) (C := R_Ch) (T := F_Ch) (N := 14) hx hb hts i_Ch t_Ch t_Ch_ok n_Ch hown hK hP hD hS 0 rfl rfl 6 (by decide) (hts _ mw_236) (fun _ h9 => h9) rfl hin rfl (by decide +kernel) rfl rfl (Nat.le_of_ble_eq_true rfl) d_Ch_init_43 (fun H locs hP hD hS => ?_)
  have hP : va_P (dC, dI) classes [(h0, .inr (5, [.null, .null, .null, .ref q1, .ref q8, .ref q15, .ref q17, .null, .null, .int 0, .int 0, .int 0, .int 0, .int 0])), (q15, .inl (cA16, 100, .inr (.inr (.inr (.inr (fun _ => none))))))] H := hP
  have hD : va_D A [(h0, .inr (5, [.null, .null, .null, .ref q1, .ref q8, .ref q15, .ref q17, .null, .null, .int 0, .int 0, .int 0, .int 0, .int 0])), (q15, .inl (cA16, 100, .inr (.inr (.inr (.inr (fun _ => none))))))] := hD
  refine lv_aload_n hx hb d_Ch_init_46 rfl (lv_at hl 0 rfl) ?_
  refine va_new (ci := 7) (fs := [.long 0, .long 0]) (C := R_Ra) (T := F_Ra) (N := 2) hx hb hts i_Ra t_Ra t_Ra_ok hown (hts _ mw_213) (hts _ mw_214) (hts _ mw_8) hK hP hD hS hA rfl zz_df_Ra (Nat.le_of_ble_eq_true rfl) (Nat.le_of_ble_eq_true rfl) d_Ch_init_47 (fun q18 H hP hD hS => ?_)
  have hP : va_P (dC, dI) classes [(h0, .inr (5, [.null, .null, .null, .ref q1, .ref q8, .ref q15, .ref q17, .null, .null, .int 0, .int 0, .int 0, .int 0, .int 0])), (q15, .inl (cA16, 100, .inr (.inr (.inr (.inr (fun _ => none)))))), (q18, .inr (7, [.long 0, .long 0]))] H := hP
  have hD : va_D A [(h0, .inr (5, [.null, .null, .null, .ref q1, .ref q8, .ref q15, .ref q17, .null, .null, .int 0, .int 0, .int 0, .int 0, .int 0])), (q15, .inl (cA16, 100, .inr (.inr (.inr (.inr (fun _ => none)))))), (q18, .inr (7, [.long 0, .long 0]))] := hD
  refine W.widen (k := 17) (n := 326) (by omega) (by omega) ?_
  refine lv_dup hx hb d_Ch_init_50 rfl ?_
  have hPc := hP.sub (ws' := [(q18, .inr (7, [.long 0, .long 0]))]) [2] rfl
  have hKc := hK.sub (tys' := []) [] rfl
  have hDc := hD.sub (ws' := [(q18, .inr (7, [.long 0, .long 0]))]) [2] (by decide) rfl
  have hFc := va_free (wc := [(q18, .inr (7, [.long 0, .long 0]))]) hD hS hA [2] rfl
  refine va_callv (va_runIN (As := []) (rest := [.ref q18, .ref h0]) ⟨hx, hb, hml, hown, hts⟩ (Ra_init l dC dI H.size q18) ⟨zz_cN 0 hts hT mn_215 mw_217 mw_8 rfl rfl hd_Ra_init ⟨Nat.le_of_ble_eq_true rfl, Nat.le_of_ble_eq_true rfl⟩, rfl, hts _ mw_216⟩ ⟨zz_blind, fun U hU hW => ⟨rfl, zz_pre hPc hKc hDc hT U hU hW⟩⟩ rfl rfl hl.1 rfl (lv_room (Nat.le_of_ble_eq_true rfl)) d_Ch_init_51 ⟨(Nat.le_of_ble_eq_true rfl), (Nat.le_of_ble_eq_true rfl)⟩) hS (fun q _ h => hFc q h) hFc (fun  u t H1 locs ht hvm hw hB hz1 hk1 hS => ?_)
  obtain ⟨hP1, hK1, hD1⟩ := hB
  rw [ht] at hP1
  have hK1 := va_K.moved hvm.symm hK1
  obtain ⟨hP, hD⟩ := va_join (wr := [(h0, .inr (5, [.null, .null, .null, .ref q1, .ref q8, .ref q15, .ref q17, .null, .null, .int 0, .int 0, .int 0, .int 0, .int 0])), (q15, .inl (cA16, 100, .inr (.inr (.inr (.inr (fun _ => none))))))]) (w1 := []) hP hD [2] [0, 1] rfl rfl (by decide) (by decide) hk1 hFc hP1 hD1
  have hK := (hK.sub (tys' := [(cA16, .object R_St)]) [0] rfl).app hK1
  generalize H1 = H at hP hS ⊢
  have hP : va_P (dC, dI) classes [(h0, .inr (5, [.null, .null, .null, .ref q1, .ref q8, .ref q15, .ref q17, .null, .null, .int 0, .int 0, .int 0, .int 0, .int 0])), (q15, .inl (cA16, 100, .inr (.inr (.inr (.inr (fun _ => none))))))] H := hP
  have hD : va_D A [(h0, .inr (5, [.null, .null, .null, .ref q1, .ref q8, .ref q15, .ref q17, .null, .null, .int 0, .int 0, .int 0, .int 0, .int 0])), (q15, .inl (cA16, 100, .inr (.inr (.inr (.inr (fun _ => none))))))] := hD
  have hK : va_K (dC, dI) classes [(cA16, .object R_St)] s := hK
  refine va_putF (D := (dC, dI)) (ci := 5) (v := .ref q18) (ty := (.object R_Ra)) (C := R_Ch) (T := F_Ch) (N := 14) hx hb hts i_Ch t_Ch t_Ch_ok n_Ch hown hK hP hD hS 0 rfl rfl 7 (by decide) (hts _ mw_237) (fun _ h9 => h9) rfl hin rfl (by decide +kernel) rfl rfl (Nat.le_of_ble_eq_true rfl) d_Ch_init_54 (fun H locs hP hD hS => ?_)
  have hP : va_P (dC, dI) classes [(h0, .inr (5, [.null, .null, .null, .ref q1, .ref q8, .ref q15, .ref q17, .ref q18, .null, .int 0, .int 0, .int 0, .int 0, .int 0])), (q15, .inl (cA16, 100, .inr (.inr (.inr (.inr (fun _ => none))))))] H := hP
  have hD : va_D A [(h0, .inr (5, [.null, .null, .null, .ref q1, .ref q8, .ref q15, .ref q17, .ref q18, .null, .int 0, .int 0, .int 0, .int 0, .int 0])), (q15, .inl (cA16, 100, .inr (.inr (.inr (.inr (fun _ => none))))))] := hD
  refine lv_aload_n hx hb d_Ch_init_57 rfl (lv_at hl 0 rfl) ?_
  refine va_new (ci := 7) (fs := [.long 0, .long 0]) (C := R_Ra) (T := F_Ra) (N := 2) hx hb hts i_Ra t_Ra t_Ra_ok hown (hts _ mw_213) (hts _ mw_214) (hts _ mw_8) hK hP hD hS hA rfl zz_df_Ra (Nat.le_of_ble_eq_true rfl) (Nat.le_of_ble_eq_true rfl) d_Ch_init_58 (fun q19 H hP hD hS => ?_)
  have hP : va_P (dC, dI) classes [(h0, .inr (5, [.null, .null, .null, .ref q1, .ref q8, .ref q15, .ref q17, .ref q18, .null, .int 0, .int 0, .int 0, .int 0, .int 0])), (q15, .inl (cA16, 100, .inr (.inr (.inr (.inr (fun _ => none)))))), (q19, .inr (7, [.long 0, .long 0]))] H := hP
  have hD : va_D A [(h0, .inr (5, [.null, .null, .null, .ref q1, .ref q8, .ref q15, .ref q17, .ref q18, .null, .int 0, .int 0, .int 0, .int 0, .int 0])), (q15, .inl (cA16, 100, .inr (.inr (.inr (.inr (fun _ => none)))))), (q19, .inr (7, [.long 0, .long 0]))] := hD
  refine W.widen (k := 18) (n := 328) (by omega) (by omega) ?_
  refine lv_dup hx hb d_Ch_init_61 rfl ?_
  have hPc := hP.sub (ws' := [(q19, .inr (7, [.long 0, .long 0]))]) [2] rfl
  have hKc := hK.sub (tys' := []) [] rfl
  have hDc := hD.sub (ws' := [(q19, .inr (7, [.long 0, .long 0]))]) [2] (by decide) rfl
  have hFc := va_free (wc := [(q19, .inr (7, [.long 0, .long 0]))]) hD hS hA [2] rfl
  refine va_callv (va_runIN (As := []) (rest := [.ref q19, .ref h0]) ⟨hx, hb, hml, hown, hts⟩ (Ra_init l dC dI H.size q19) ⟨zz_cN 0 hts hT mn_215 mw_217 mw_8 rfl rfl hd_Ra_init ⟨Nat.le_of_ble_eq_true rfl, Nat.le_of_ble_eq_true rfl⟩, rfl, hts _ mw_216⟩ ⟨zz_blind, fun U hU hW => ⟨rfl, zz_pre hPc hKc hDc hT U hU hW⟩⟩ rfl rfl hl.1 rfl (lv_room (Nat.le_of_ble_eq_true rfl)) d_Ch_init_62 ⟨(Nat.le_of_ble_eq_true rfl), (Nat.le_of_ble_eq_true rfl)⟩) hS (fun q _ h => hFc q h) hFc (fun  u t H1 locs ht hvm hw hB hz1 hk1 hS => ?_)
  obtain ⟨hP1, hK1, hD1⟩ := hB
  rw [ht] at hP1
  have hK1 := va_K.moved hvm.symm hK1
  obtain ⟨hP, hD⟩ := va_join (wr := [(h0, .inr (5, [.null, .null, .null, .ref q1, .ref q8, .ref q15, .ref q17, .ref q18, .null, .int 0, .int 0, .int 0, .int 0, .int 0])), (q15, .inl (cA16, 100, .inr (.inr (.inr (.inr (fun _ => none))))))]) (w1 := []) hP hD [2] [0, 1] rfl rfl (by decide) (by decide) hk1 hFc hP1 hD1
  have hK := (hK.sub (tys' := [(cA16, .object R_St)]) [0] rfl).app hK1
  generalize H1 = H at hP hS ⊢
  have hP : va_P (dC, dI) classes [(h0, .inr (5, [.null, .null, .null, .ref q1, .ref q8, .ref q15, .ref q17, .ref q18, .null, .int 0, .int 0, .int 0, .int 0, .int 0])), (q15, .inl (cA16, 100, .inr (.inr (.inr (.inr (fun _ => none))))))] H := hP
  have hD : va_D A [(h0, .inr (5, [.null, .null, .null, .ref q1, .ref q8, .ref q15, .ref q17, .ref q18, .null, .int 0, .int 0, .int 0, .int 0, .int 0])), (q15, .inl (cA16, 100, .inr (.inr (.inr (.inr (fun _ => none))))))] := hD
  have hK : va_K (dC, dI) classes [(cA16, .object R_St)] s := hK
  refine va_putF (D := (dC, dI)) (ci := 5) (v := .ref q19) (ty := (.object R_Ra)) (C := R_Ch) (T := F_Ch) (N := 14) hx hb hts i_Ch t_Ch t_Ch_ok n_Ch hown hK hP hD hS 0 rfl rfl 8 (by decide) (hts _ mw_238) (fun _ h9 => h9) rfl hin rfl (by decide +kernel) rfl rfl (Nat.le_of_ble_eq_true rfl) d_Ch_init_65 (fun H locs hP hD hS => ?_)
  have hP : va_P (dC, dI) classes [(h0, .inr (5, [.null, .null, .null, .ref q1, .ref q8, .ref q15, .ref q17, .ref q18, .ref q19, .int 0, .int 0, .int 0, .int 0, .int 0])), (q15, .inl (cA16, 100, .inr (.inr (.inr (.inr (fun _ => none))))))] H := hP
  have hD : va_D A [(h0, .inr (5, [.null, .null, .null, .ref q1, .ref q8, .ref q15, .ref q17, .ref q18, .ref q19, .int 0, .int 0, .int 0, .int 0, .int 0])), (q15, .inl (cA16, 100, .inr (.inr (.inr (.inr (fun _ => none))))))] := hD
  refine lv_aload_n hx hb d_Ch_init_68 rfl (lv_at hl 0 rfl) ?_
  refine lv_aload_n hx hb d_Ch_init_69 rfl (lv_at hl 1 rfl) ?_
  refine va_putF (D := (dC, dI)) (ci := 5) (v := .ref h1) (ty := (.object R_Pr)) (C := R_Ch) (T := F_Ch) (N := 14) hx hb hts i_Ch t_Ch t_Ch_ok n_Ch hown hK hP hD hS 0 rfl rfl 0 (by decide) (hts _ mw_230) (fun _ h9 => h9) rfl hin rfl (by decide +kernel) rfl rfl (Nat.le_of_ble_eq_true rfl) d_Ch_init_70 (fun H locs hP hD hS => ?_)
  have hP : va_P (dC, dI) classes [(h0, .inr (5, [.ref h1, .null, .null, .ref q1, .ref q8, .ref q15, .ref q17, .ref q18, .ref q19, .int 0, .int 0, .int 0, .int 0, .int 0])), (q15, .inl (cA16, 100, .inr (.inr (.inr (.inr (fun _ => none))))))] H := hP
  have hD : va_D A [(h0, .inr (5, [.ref h1, .null, .null, .ref q1, .ref q8, .ref q15, .ref q17, .ref q18, .ref q19, .int 0, .int 0, .int 0, .int 0, .int 0])), (q15, .inl (cA16, 100, .inr (.inr (.inr (.inr (fun _ => none))))))] := hD
  refine lv_aload_n hx hb d_Ch_init_73 rfl (lv_at hl 0 rfl) ?_
  refine lv_aload_n hx hb d_Ch_init_74 rfl (lv_at hl 2 rfl) ?_
  refine va_putF (D := (dC, dI)) (ci := 5) (v := .ref h2) (ty := (.object R_Ma)) (C := R_Ch) (T := F_Ch) (N := 14) hx hb hts i_Ch t_Ch t_Ch_ok n_Ch hown hK hP hD hS 0 rfl rfl 1 (by decide) (hts _ mw_231) (fun _ h9 => h9) rfl hin rfl (by decide +kernel) rfl rfl (Nat.le_of_ble_eq_true rfl) d_Ch_init_75 (fun H locs hP hD hS => ?_)
  have hP : va_P (dC, dI) classes [(h0, .inr (5, [.ref h1, .ref h2, .null, .ref q1, .ref q8, .ref q15, .ref q17, .ref q18, .ref q19, .int 0, .int 0, .int 0, .int 0, .int 0])), (q15, .inl (cA16, 100, .inr (.inr (.inr (.inr (fun _ => none))))))] H := hP
  have hD : va_D A [(h0, .inr (5, [.ref h1, .ref h2, .null, .ref q1, .ref q8, .ref q15, .ref q17, .ref q18, .ref q19, .int 0, .int 0, .int 0, .int 0, .int 0])), (q15, .inl (cA16, 100, .inr (.inr (.inr (.inr (fun _ => none))))))] := hD
  refine lv_aload_n hx hb d_Ch_init_78 rfl (lv_at hl 0 rfl) ?_
  refine lv_aload_n hx hb d_Ch_init_79 rfl (lv_at hl 3 rfl) ?_
  refine va_putF (D := (dC, dI)) (ci := 5) (v := .ref h3) (ty := (.object R_Fo)) (C := R_Ch) (T := F_Ch) (N := 14) hx hb hts i_Ch t_Ch t_Ch_ok n_Ch hown hK hP hD hS 0 rfl rfl 2 (by decide) (hts _ mw_232) (fun _ h9 => h9) rfl hin rfl (by decide +kernel) rfl rfl (Nat.le_of_ble_eq_true rfl) d_Ch_init_80 (fun H locs hP hD hS => ?_)
  have hP : va_P (dC, dI) classes [(h0, .inr (5, [.ref h1, .ref h2, .ref h3, .ref q1, .ref q8, .ref q15, .ref q17, .ref q18, .ref q19, .int 0, .int 0, .int 0, .int 0, .int 0])), (q15, .inl (cA16, 100, .inr (.inr (.inr (.inr (fun _ => none))))))] H := hP
  have hD : va_D A [(h0, .inr (5, [.ref h1, .ref h2, .ref h3, .ref q1, .ref q8, .ref q15, .ref q17, .ref q18, .ref q19, .int 0, .int 0, .int 0, .int 0, .int 0])), (q15, .inl (cA16, 100, .inr (.inr (.inr (.inr (fun _ => none))))))] := hD
  refine lv_iconst (v := 0) hx hb d_Ch_init_83 (by decide) ?_
  refine lv_istore (lv' := [(4, .int 0), (0, .ref h0), (1, .ref h1), (2, .ref h2), (3, .ref h3)]) hx hb d_Ch_init_84 hl (by decide) rfl (fun ls hl => ?_)
  exact Ch_init_lp l dC dI h0 h1 h2 h3 q1 q8 q15 cA16 q17 q18 q19 hx hb hr hml hown hts hT hlocks hin hA (100 + 1) 0 (by omega) (by omega) (fun _ => none) _ _ ls hK hP hD hS hl
