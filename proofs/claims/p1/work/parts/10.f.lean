set_option maxHeartbeats 4000000 in
set_option maxRecDepth 100000 in
theorem Me_feed_0 (l : Launch) (dC : Nat → ClassId) (dI : Nat → Nat → Nat) (sz : Nat) (xe : Nat) (xm : Nat) (e1 : Nat) (e2 : Nat) (c1 : ClassId) (fb : Nat → Int32) (v : Int32) : Met l y_Me_feedNumber (.code y_Me_feedNumber prog_6_method_2_code 3 none :: zz_W) ({ frames := 0, cells := 0, slots := 0, locals := 0 }) (va_Pc [.ref xe, .int v] (zz_B dC dI [(xe, .inr (3, [.ref xm, .ref e1, .ref e2, .int 0, .int 0])), (e1, .inl (c1, 400, .inl fb))] [(c1, .byte)] sz)) (va_Qv (fun (_ : Unit) => True) (fun (_ : Unit) (t : State) => ∃ (f11 : Nat → Int32), va_P (dC, dI) classes [(xe, .inr (3, [.ref xm, .ref e1, .ref e2, .int 4, .int 0])), (e1, .inl (c1, 400, .inl f11))] t.heap ∧ va_K (dC, dI) classes [(c1, .byte)] t ∧ va_D (va_A [(xe, .inr (3, [.ref xm, .ref e1, .ref e2, .int 0, .int 0])), (e1, .inl (c1, 400, .inl fb))] sz) [(xe, .inr (3, [.ref xm, .ref e1, .ref e2, .int 4, .int 0])), (e1, .inl (c1, 400, .inl f11))]) (va_A [(xe, .inr (3, [.ref xm, .ref e1, .ref e2, .int 0, .int 0])), (e1, .inl (c1, 400, .inl fb))] sz)) 0 0 (va_A [(xe, .inr (3, [.ref xm, .ref e1, .ref e2, .int 0, .int 0])), (e1, .inl (c1, 400, .inl fb))] sz) := by
  refine Met.ofW (cc := prog_6_method_2_code) (maxL := 3) (ret := none) (by decide) rfl ?_
  intro p e s m args below meth c s₁ B hml hv
  obtain ⟨rfl, hsz, hP, hK, hD0, hT⟩ := hv
  have hx := B.exec
  have hb := B.bytes
  have hr := B.returns
  have hts0 := atoms_spec (ws := (.code y_Me_feedNumber prog_6_method_2_code 3 none :: zz_W)) B.pre
  have hts : ∀ w ∈ zz_W, w.before _ s = true := fun w h => hts0 w (List.mem_cons_of_mem _ h)
  have hown : s.vm.findClass R_Me = some m.cls := findClass_of_methodNamed B.named
  have hlocks := B.notSynchronized
  subst hsz
  have hD := hD0.self (sz := s.heap.size)
  generalize hAe : va_A [(xe, .inr (3, [.ref xm, .ref e1, .ref e2, .int 0, .int 0])), (e1, .inl (c1, 400, .inl fb))] s.heap.size = A at hD ⊢
  have hA : ∀ q : Nat, s.heap.size ≤ q → A q := fun q h => by rw [← hAe]; exact Or.inr h
  have hS : va_S A s.heap s.heap [] := va_S.rf
  have hl := lv_entry ([.ref xe, .int v]) (n := 3) (Nat.le_of_ble_eq_true rfl)
  rw [lg_entry_eq]
  generalize (lg_sl ([.ref xe, .int v]) ++ List.replicate (3 - (lg_sl ([.ref xe, .int v])).length) Slot.unset).toArray = ls at hl ⊢
  have hl : lv_has ls 3 [(0, .ref xe), (1, .int v)] := hl
  refine lv_bipush (v := 24) hx hb d_Me_feedNumber_0 (by decide) ?_
  refine lv_istore_n (lv' := [(2, .int 24), (0, .ref xe), (1, .int v)]) hx hb d_Me_feedNumber_2 rfl hl (by decide) rfl (fun ls hl => ?_)
  refine lv_iload_n hx hb d_Me_feedNumber_3 rfl (lv_at hl 0 rfl) ?_
  refine lv_if_lt (tgt := 36) hx hb d_Me_feedNumber_4 (by decide) (fun h => absurd h (by decide)) (fun _ => ?_)
  refine lv_aload_n hx hb d_Me_feedNumber_7 rfl (lv_at hl 1 rfl) ?_
  refine va_get (D := (dC, dI)) (ci := 3) (v := .ref e1) (C := R_Me) (T := F_Me) (N := 5) hx hb hts i_Me hown hK hP 0 rfl rfl 1 (by decide) (hts _ mw_127) (fun _ h9 => h9) rfl d_Me_feedNumber_8 ?_
  refine lv_aload_n hx hb d_Me_feedNumber_11 rfl (lv_at hl 1 rfl) ?_
  refine va_get (D := (dC, dI)) (ci := 3) (v := .int 0) (C := R_Me) (T := F_Me) (N := 5) hx hb hts i_Me hown hK hP 0 rfl rfl 3 (by decide) (hts _ mw_130) (fun _ h9 => h9) rfl d_Me_feedNumber_12 ?_
  refine lv_iload_n hx hb d_Me_feedNumber_15 rfl (lv_at hl 2 rfl) ?_
  refine lv_iload_n hx hb d_Me_feedNumber_16 rfl (lv_at hl 0 rfl) ?_
  refine lv_ishr hx hb d_Me_feedNumber_17 ?_
  refine lv_topi (fun z1 ez1 => ?_)
  refine lv_i2b hx hb d_Me_feedNumber_18 rfl ?_
  refine va_bast hx hb hK hP hD hS 1 0 rfl rfl (by unfold vp_in; decide) d_Me_feedNumber_19 (fun H locs hP hD hS => ?_)
  have hP : va_P (dC, dI) classes [(xe, .inr (3, [.ref xm, .ref e1, .ref e2, .int 0, .int 0])), (e1, .inl (c1, 400, .inl (upd fb (0 : Int32).toNatClampNeg (vp_nar .byte z1.toInt8.toInt32))))] H := hP
  have hD : va_D A [(xe, .inr (3, [.ref xm, .ref e1, .ref e2, .int 0, .int 0])), (e1, .inl (c1, 400, .inl (upd fb (0 : Int32).toNatClampNeg (vp_nar .byte z1.toInt8.toInt32))))] := hD
  obtain ⟨f2, ef2⟩ : ∃ f : Nat → Int32, f = upd fb (0 : Int32).toNatClampNeg (vp_nar .byte z1.toInt8.toInt32) := ⟨_, rfl⟩
  rw [← ef2] at hP hD
  refine lv_aload_n hx hb d_Me_feedNumber_20 rfl (lv_at hl 1 rfl) ?_
  refine lv_dup hx hb d_Me_feedNumber_21 rfl ?_
  refine va_get (D := (dC, dI)) (ci := 3) (v := .int 0) (C := R_Me) (T := F_Me) (N := 5) hx hb hts i_Me hown hK hP 0 rfl rfl 3 (by decide) (hts _ mw_130) (fun _ h9 => h9) rfl d_Me_feedNumber_22 ?_
  refine lv_iconst (v := 1) hx hb d_Me_feedNumber_25 (by decide) ?_
  refine lv_iadd hx hb d_Me_feedNumber_26 ?_
  refine lv_topi (fun z3 ez3 => ?_)
  obtain rfl : z3 = 1 := ez3.trans (by decide)
  refine va_put (D := (dC, dI)) (ci := 3) (v := .int 1) (ty := .int) (C := R_Me) (T := F_Me) (N := 5) hx hb hts i_Me t_Me t_Me_ok n_Me hown hK hP hD hS 0 rfl rfl 3 (by decide) (hts _ mw_130) (fun _ h9 => h9) rfl (by decide +kernel) rfl rfl (Nat.le_of_ble_eq_true rfl) d_Me_feedNumber_27 (fun H locs hP hD hS => ?_)
  have hP : va_P (dC, dI) classes [(xe, .inr (3, [.ref xm, .ref e1, .ref e2, .int 1, .int 0])), (e1, .inl (c1, 400, .inl f2))] H := hP
  have hD : va_D A [(xe, .inr (3, [.ref xm, .ref e1, .ref e2, .int 1, .int 0])), (e1, .inl (c1, 400, .inl f2))] := hD
  refine lv_iinc (v := 16) (lv' := [(2, .int 16), (0, .ref xe), (1, .int v)]) hx hb d_Me_feedNumber_30 hl (k := 0) rfl (by decide) (by decide) rfl (fun ls hl => ?_)
  refine lv_goto (tgt := 3) hx hb d_Me_feedNumber_33 (by decide) ?_
  refine lv_iload_n hx hb d_Me_feedNumber_3 rfl (lv_at hl 0 rfl) ?_
  refine lv_if_lt (tgt := 36) hx hb d_Me_feedNumber_4 (by decide) (fun h => absurd h (by decide)) (fun _ => ?_)
  refine lv_aload_n hx hb d_Me_feedNumber_7 rfl (lv_at hl 1 rfl) ?_
  refine va_get (D := (dC, dI)) (ci := 3) (v := .ref e1) (C := R_Me) (T := F_Me) (N := 5) hx hb hts i_Me hown hK hP 0 rfl rfl 1 (by decide) (hts _ mw_127) (fun _ h9 => h9) rfl d_Me_feedNumber_8 ?_
  refine lv_aload_n hx hb d_Me_feedNumber_11 rfl (lv_at hl 1 rfl) ?_
  refine va_get (D := (dC, dI)) (ci := 3) (v := .int 1) (C := R_Me) (T := F_Me) (N := 5) hx hb hts i_Me hown hK hP 0 rfl rfl 3 (by decide) (hts _ mw_130) (fun _ h9 => h9) rfl d_Me_feedNumber_12 ?_
  refine lv_iload_n hx hb d_Me_feedNumber_15 rfl (lv_at hl 2 rfl) ?_
  refine lv_iload_n hx hb d_Me_feedNumber_16 rfl (lv_at hl 0 rfl) ?_
  refine lv_ishr hx hb d_Me_feedNumber_17 ?_
  refine lv_topi (fun z4 ez4 => ?_)
  refine lv_i2b hx hb d_Me_feedNumber_18 rfl ?_
  refine va_bast hx hb hK hP hD hS 1 0 rfl rfl (by unfold vp_in; decide) d_Me_feedNumber_19 (fun H locs hP hD hS => ?_)
  have hP : va_P (dC, dI) classes [(xe, .inr (3, [.ref xm, .ref e1, .ref e2, .int 1, .int 0])), (e1, .inl (c1, 400, .inl (upd f2 (1 : Int32).toNatClampNeg (vp_nar .byte z4.toInt8.toInt32))))] H := hP
  have hD : va_D A [(xe, .inr (3, [.ref xm, .ref e1, .ref e2, .int 1, .int 0])), (e1, .inl (c1, 400, .inl (upd f2 (1 : Int32).toNatClampNeg (vp_nar .byte z4.toInt8.toInt32))))] := hD
  obtain ⟨f5, ef5⟩ : ∃ f : Nat → Int32, f = upd f2 (1 : Int32).toNatClampNeg (vp_nar .byte z4.toInt8.toInt32) := ⟨_, rfl⟩
  rw [← ef5] at hP hD
  refine lv_aload_n hx hb d_Me_feedNumber_20 rfl (lv_at hl 1 rfl) ?_
  refine lv_dup hx hb d_Me_feedNumber_21 rfl ?_
  refine va_get (D := (dC, dI)) (ci := 3) (v := .int 1) (C := R_Me) (T := F_Me) (N := 5) hx hb hts i_Me hown hK hP 0 rfl rfl 3 (by decide) (hts _ mw_130) (fun _ h9 => h9) rfl d_Me_feedNumber_22 ?_
  refine lv_iconst (v := 1) hx hb d_Me_feedNumber_25 (by decide) ?_
  refine lv_iadd hx hb d_Me_feedNumber_26 ?_
  refine lv_topi (fun z6 ez6 => ?_)
  obtain rfl : z6 = 2 := ez6.trans (by decide)
  refine va_put (D := (dC, dI)) (ci := 3) (v := .int 2) (ty := .int) (C := R_Me) (T := F_Me) (N := 5) hx hb hts i_Me t_Me t_Me_ok n_Me hown hK hP hD hS 0 rfl rfl 3 (by decide) (hts _ mw_130) (fun _ h9 => h9) rfl (by decide +kernel) rfl rfl (Nat.le_of_ble_eq_true rfl) d_Me_feedNumber_27 (fun H locs hP hD hS => ?_)
  have hP : va_P (dC, dI) classes [(xe, .inr (3, [.ref xm, .ref e1, .ref e2, .int 2, .int 0])), (e1, .inl (c1, 400, .inl f5))] H := hP
  have hD : va_D A [(xe, .inr (3, [.ref xm, .ref e1, .ref e2, .int 2, .int 0])), (e1, .inl (c1, 400, .inl f5))] := hD
  refine lv_iinc (v := 8) (lv' := [(2, .int 8), (0, .ref xe), (1, .int v)]) hx hb d_Me_feedNumber_30 hl (k := 0) rfl (by decide) (by decide) rfl (fun ls hl => ?_)
  refine lv_goto (tgt := 3) hx hb d_Me_feedNumber_33 (by decide) ?_
  refine lv_iload_n hx hb d_Me_feedNumber_3 rfl (lv_at hl 0 rfl) ?_
  refine lv_if_lt (tgt := 36) hx hb d_Me_feedNumber_4 (by decide) (fun h => absurd h (by decide)) (fun _ => ?_)
  refine lv_aload_n hx hb d_Me_feedNumber_7 rfl (lv_at hl 1 rfl) ?_
  refine va_get (D := (dC, dI)) (ci := 3) (v := .ref e1) (C := R_Me) (T := F_Me) (N := 5) hx hb hts i_Me hown hK hP 0 rfl rfl 1 (by decide) (hts _ mw_127) (fun _ h9 => h9) rfl d_Me_feedNumber_8 ?_
  refine lv_aload_n hx hb d_Me_feedNumber_11 rfl (lv_at hl 1 rfl) ?_
  refine va_get (D := (dC, dI)) (ci := 3) (v := .int 2) (C := R_Me) (T := F_Me) (N := 5) hx hb hts i_Me hown hK hP 0 rfl rfl 3 (by decide) (hts _ mw_130) (fun _ h9 => h9) rfl d_Me_feedNumber_12 ?_
  refine lv_iload_n hx hb d_Me_feedNumber_15 rfl (lv_at hl 2 rfl) ?_
  refine lv_iload_n hx hb d_Me_feedNumber_16 rfl (lv_at hl 0 rfl) ?_
  refine lv_ishr hx hb d_Me_feedNumber_17 ?_
  refine lv_topi (fun z7 ez7 => ?_)
  refine lv_i2b hx hb d_Me_feedNumber_18 rfl ?_
  refine va_bast hx hb hK hP hD hS 1 0 rfl rfl (by unfold vp_in; decide) d_Me_feedNumber_19 (fun H locs hP hD hS => ?_)
  have hP : va_P (dC, dI) classes [(xe, .inr (3, [.ref xm, .ref e1, .ref e2, .int 2, .int 0])), (e1, .inl (c1, 400, .inl (upd f5 (2 : Int32).toNatClampNeg (vp_nar .byte z7.toInt8.toInt32))))] H := hP
  have hD : va_D A [(xe, .inr (3, [.ref xm, .ref e1, .ref e2, .int 2, .int 0])), (e1, .inl (c1, 400, .inl (upd f5 (2 : Int32).toNatClampNeg (vp_nar .byte z7.toInt8.toInt32))))] := hD
  obtain ⟨f8, ef8⟩ : ∃ f : Nat → Int32, f = upd f5 (2 : Int32).toNatClampNeg (vp_nar .byte z7.toInt8.toInt32) := ⟨_, rfl⟩
  rw [← ef8] at hP hD
  refine lv_aload_n hx hb d_Me_feedNumber_20 rfl (lv_at hl 1 rfl) ?_
  refine lv_dup hx hb d_Me_feedNumber_21 rfl ?_
  refine va_get (D := (dC, dI)) (ci := 3) (v := .int 2) (C := R_Me) (T := F_Me) (N := 5) hx hb hts i_Me hown hK hP 0 rfl rfl 3 (by decide) (hts _ mw_130) (fun _ h9 => h9) rfl d_Me_feedNumber_22 ?_
  refine lv_iconst (v := 1) hx hb d_Me_feedNumber_25 (by decide) ?_
  refine lv_iadd hx hb d_Me_feedNumber_26 ?_
  refine lv_topi (fun z9 ez9 => ?_)
  obtain rfl : z9 = 3 := ez9.trans (by decide)
  refine va_put (D := (dC, dI)) (ci := 3) (v := .int 3) (ty := .int) (C := R_Me) (T := F_Me) (N := 5) hx hb hts i_Me t_Me t_Me_ok n_Me hown hK hP hD hS 0 rfl rfl 3 (by decide) (hts _ mw_130) (fun _ h9 => h9) rfl (by decide +kernel) rfl rfl (Nat.le_of_ble_eq_true rfl) d_Me_feedNumber_27 (fun H locs hP hD hS => ?_)
  have hP : va_P (dC, dI) classes [(xe, .inr (3, [.ref xm, .ref e1, .ref e2, .int 3, .int 0])), (e1, .inl (c1, 400, .inl f8))] H := hP
  have hD : va_D A [(xe, .inr (3, [.ref xm, .ref e1, .ref e2, .int 3, .int 0])), (e1, .inl (c1, 400, .inl f8))] := hD
  refine lv_iinc (v := 0) (lv' := [(2, .int 0), (0, .ref xe), (1, .int v)]) hx hb d_Me_feedNumber_30 hl (k := 0) rfl (by decide) (by decide) rfl (fun ls hl => ?_)
  refine lv_goto (tgt := 3) hx hb d_Me_feedNumber_33 (by decide) ?_
  refine lv_iload_n hx hb d_Me_feedNumber_3 rfl (lv_at hl 0 rfl) ?_
  refine lv_if_lt (tgt := 36) hx hb d_Me_feedNumber_4 (by decide) (fun h => absurd h (by decide)) (fun _ => ?_)
  refine lv_aload_n hx hb d_Me_feedNumber_7 rfl (lv_at hl 1 rfl) ?_
  refine va_get (D := (dC, dI)) (ci := 3) (v := .ref e1) (C := R_Me) (T := F_Me) (N := 5) hx hb hts i_Me hown hK hP 0 rfl rfl 1 (by decide) (hts _ mw_127) (fun _ h9 => h9) rfl d_Me_feedNumber_8 ?_
  refine lv_aload_n hx hb d_Me_feedNumber_11 rfl (lv_at hl 1 rfl) ?_
  refine va_get (D := (dC, dI)) (ci := 3) (v := .int 3) (C := R_Me) (T := F_Me) (N := 5) hx hb hts i_Me hown hK hP 0 rfl rfl 3 (by decide) (hts _ mw_130) (fun _ h9 => h9) rfl d_Me_feedNumber_12 ?_
  refine lv_iload_n hx hb d_Me_feedNumber_15 rfl (lv_at hl 2 rfl) ?_
  refine lv_iload_n hx hb d_Me_feedNumber_16 rfl (lv_at hl 0 rfl) ?_
  refine lv_ishr hx hb d_Me_feedNumber_17 ?_
  refine lv_topi (fun z10 ez10 => ?_)
  refine lv_i2b hx hb d_Me_feedNumber_18 rfl ?_
  refine va_bast hx hb hK hP hD hS 1 0 rfl rfl (by unfold vp_in; decide) d_Me_feedNumber_19 (fun H locs hP hD hS => ?_)
  have hP : va_P (dC, dI) classes [(xe, .inr (3, [.ref xm, .ref e1, .ref e2, .int 3, .int 0])), (e1, .inl (c1, 400, .inl (upd f8 (3 : Int32).toNatClampNeg (vp_nar .byte z10.toInt8.toInt32))))] H := hP
  have hD : va_D A [(xe, .inr (3, [.ref xm, .ref e1, .ref e2, .int 3, .int 0])), (e1, .inl (c1, 400, .inl (upd f8 (3 : Int32).toNatClampNeg (vp_nar .byte z10.toInt8.toInt32))))] := hD
  obtain ⟨f11, ef11⟩ : ∃ f : Nat → Int32, f = upd f8 (3 : Int32).toNatClampNeg (vp_nar .byte z10.toInt8.toInt32) := ⟨_, rfl⟩
  rw [← ef11] at hP hD
  refine lv_aload_n hx hb d_Me_feedNumber_20 rfl (lv_at hl 1 rfl) ?_
  refine lv_dup hx hb d_Me_feedNumber_21 rfl ?_
  refine va_get (D := (dC, dI)) (ci := 3) (v := .int 3) (C := R_Me) (T := F_Me) (N := 5) hx hb hts i_Me hown hK hP 0 rfl rfl 3 (by decide) (hts _ mw_130) (fun _ h9 => h9) rfl d_Me_feedNumber_22 ?_
  refine lv_iconst (v := 1) hx hb d_Me_feedNumber_25 (by decide) ?_
  refine lv_iadd hx hb d_Me_feedNumber_26 ?_
  refine lv_topi (fun z12 ez12 => ?_)
  obtain rfl : z12 = 4 := ez12.trans (by decide)
  refine va_put (D := (dC, dI)) (ci := 3) (v := .int 4) (ty := .int) (C := R_Me) (T := F_Me) (N := 5) hx hb hts i_Me t_Me t_Me_ok n_Me hown hK hP hD hS 0 rfl rfl 3 (by decide) (hts _ mw_130) (fun _ h9 => h9) rfl (by decide +kernel) rfl rfl (Nat.le_of_ble_eq_true rfl) d_Me_feedNumber_27 (fun H locs hP hD hS => ?_)
  have hP : va_P (dC, dI) classes [(xe, .inr (3, [.ref xm, .ref e1, .ref e2, .int 4, .int 0])), (e1, .inl (c1, 400, .inl f11))] H := hP
  have hD : va_D A [(xe, .inr (3, [.ref xm, .ref e1, .ref e2, .int 4, .int 0])), (e1, .inl (c1, 400, .inl f11))] := hD
  refine lv_iinc (v := (-8)) (lv' := [(2, .int (-8)), (0, .ref xe), (1, .int v)]) hx hb d_Me_feedNumber_30 hl (k := 0) rfl (by decide) (by decide) rfl (fun ls hl => ?_)
  refine lv_goto (tgt := 3) hx hb d_Me_feedNumber_33 (by decide) ?_
  refine lv_iload_n hx hb d_Me_feedNumber_3 rfl (lv_at hl 0 rfl) ?_
  refine lv_if_lt (tgt := 36) hx hb d_Me_feedNumber_4 (by decide) (fun _ => ?_) (fun h => absurd h (by decide))
  have hP9 := hP.sub (ws' := [(xe, .inr (3, [.ref xm, .ref e1, .ref e2, .int 4, .int 0])), (e1, .inl (c1, 400, .inl f11))]) [0, 1] rfl
  have hD9 := hD.sub (ws' := [(xe, .inr (3, [.ref xm, .ref e1, .ref e2, .int 4, .int 0])), (e1, .inl (c1, 400, .inl f11))]) [0, 1] (by decide) rfl
  have hK9 := hK.sub (tys' := [(c1, .byte)]) [0] rfl
  refine W.widen (k := 0) (n := 0) (by omega) (by omega) ?_
  exact W.vret hx hb hr (fun t ht hW => ⟨⟨(), rfl, trivial, f11, by rw [ht]; exact hP9, va_K.moved hW.alike hK9, hD9⟩, hS.F ht⟩) hS.2.2 d_Me_feedNumber_36
set_option maxHeartbeats 4000000 in
set_option maxRecDepth 100000 in
theorem Me_feed_4 (l : Launch) (dC : Nat → ClassId) (dI : Nat → Nat → Nat) (sz : Nat) (xe : Nat) (xm : Nat) (e1 : Nat) (e2 : Nat) (c1 : ClassId) (fb : Nat → Int32) (v : Int32) : Met l y_Me_feedNumber (.code y_Me_feedNumber prog_6_method_2_code 3 none :: zz_W) ({ frames := 0, cells := 0, slots := 0, locals := 0 }) (va_Pc [.ref xe, .int v] (zz_B dC dI [(xe, .inr (3, [.ref xm, .ref e1, .ref e2, .int 4, .int 0])), (e1, .inl (c1, 400, .inl fb))] [(c1, .byte)] sz)) (va_Qv (fun (_ : Unit) => True) (fun (_ : Unit) (t : State) => ∃ (f11 : Nat → Int32), va_P (dC, dI) classes [(xe, .inr (3, [.ref xm, .ref e1, .ref e2, .int 8, .int 0])), (e1, .inl (c1, 400, .inl f11))] t.heap ∧ va_K (dC, dI) classes [(c1, .byte)] t ∧ va_D (va_A [(xe, .inr (3, [.ref xm, .ref e1, .ref e2, .int 4, .int 0])), (e1, .inl (c1, 400, .inl fb))] sz) [(xe, .inr (3, [.ref xm, .ref e1, .ref e2, .int 8, .int 0])), (e1, .inl (c1, 400, .inl f11))]) (va_A [(xe, .inr (3, [.ref xm, .ref e1, .ref e2, .int 4, .int 0])), (e1, .inl (c1, 400, .inl fb))] sz)) 0 0 (va_A [(xe, .inr (3, [.ref xm, .ref e1, .ref e2, .int 4, .int 0])), (e1, .inl (c1, 400, .inl fb))] sz) := by
  refine Met.ofW (cc := prog_6_method_2_code) (maxL := 3) (ret := none) (by decide) rfl ?_
  intro p e s m args below meth c s₁ B hml hv
  obtain ⟨rfl, hsz, hP, hK, hD0, hT⟩ := hv
  have hx := B.exec
  have hb := B.bytes
  have hr := B.returns
  have hts0 := atoms_spec (ws := (.code y_Me_feedNumber prog_6_method_2_code 3 none :: zz_W)) B.pre
  have hts : ∀ w ∈ zz_W, w.before _ s = true := fun w h => hts0 w (List.mem_cons_of_mem _ h)
  have hown : s.vm.findClass R_Me = some m.cls := findClass_of_methodNamed B.named
  have hlocks := B.notSynchronized
  subst hsz
  have hD := hD0.self (sz := s.heap.size)
  generalize hAe : va_A [(xe, .inr (3, [.ref xm, .ref e1, .ref e2, .int 4, .int 0])), (e1, .inl (c1, 400, .inl fb))] s.heap.size = A at hD ⊢
  have hA : ∀ q : Nat, s.heap.size ≤ q → A q := fun q h => by rw [← hAe]; exact Or.inr h
  have hS : va_S A s.heap s.heap [] := va_S.rf
  have hl := lv_entry ([.ref xe, .int v]) (n := 3) (Nat.le_of_ble_eq_true rfl)
  rw [lg_entry_eq]
  generalize (lg_sl ([.ref xe, .int v]) ++ List.replicate (3 - (lg_sl ([.ref xe, .int v])).length) Slot.unset).toArray = ls at hl ⊢
  have hl : lv_has ls 3 [(0, .ref xe), (1, .int v)] := hl
  refine lv_bipush (v := 24) hx hb d_Me_feedNumber_0 (by decide) ?_
  refine lv_istore_n (lv' := [(2, .int 24), (0, .ref xe), (1, .int v)]) hx hb d_Me_feedNumber_2 rfl hl (by decide) rfl (fun ls hl => ?_)
  refine lv_iload_n hx hb d_Me_feedNumber_3 rfl (lv_at hl 0 rfl) ?_
  refine lv_if_lt (tgt := 36) hx hb d_Me_feedNumber_4 (by decide) (fun h => absurd h (by decide)) (fun _ => ?_)
  refine lv_aload_n hx hb d_Me_feedNumber_7 rfl (lv_at hl 1 rfl) ?_
  refine va_get (D := (dC, dI)) (ci := 3) (v := .ref e1) (C := R_Me) (T := F_Me) (N := 5) hx hb hts i_Me hown hK hP 0 rfl rfl 1 (by decide) (hts _ mw_127) (fun _ h9 => h9) rfl d_Me_feedNumber_8 ?_
  refine lv_aload_n hx hb d_Me_feedNumber_11 rfl (lv_at hl 1 rfl) ?_
  refine va_get (D := (dC, dI)) (ci := 3) (v := .int 4) (C := R_Me) (T := F_Me) (N := 5) hx hb hts i_Me hown hK hP 0 rfl rfl 3 (by decide) (hts _ mw_130) (fun _ h9 => h9) rfl d_Me_feedNumber_12 ?_
  refine lv_iload_n hx hb d_Me_feedNumber_15 rfl (lv_at hl 2 rfl) ?_
  refine lv_iload_n hx hb d_Me_feedNumber_16 rfl (lv_at hl 0 rfl) ?_
  refine lv_ishr hx hb d_Me_feedNumber_17 ?_
  refine lv_topi (fun z1 ez1 => ?_)
  refine lv_i2b hx hb d_Me_feedNumber_18 rfl ?_
  refine va_bast hx hb hK hP hD hS 1 0 rfl rfl (by unfold vp_in; decide) d_Me_feedNumber_19 (fun H locs hP hD hS => ?_)
  have hP : va_P (dC, dI) classes [(xe, .inr (3, [.ref xm, .ref e1, .ref e2, .int 4, .int 0])), (e1, .inl (c1, 400, .inl (upd fb (4 : Int32).toNatClampNeg (vp_nar .byte z1.toInt8.toInt32))))] H := hP
  have hD : va_D A [(xe, .inr (3, [.ref xm, .ref e1, .ref e2, .int 4, .int 0])), (e1, .inl (c1, 400, .inl (upd fb (4 : Int32).toNatClampNeg (vp_nar .byte z1.toInt8.toInt32))))] := hD
  obtain ⟨f2, ef2⟩ : ∃ f : Nat → Int32, f = upd fb (4 : Int32).toNatClampNeg (vp_nar .byte z1.toInt8.toInt32) := ⟨_, rfl⟩
  rw [← ef2] at hP hD
  refine lv_aload_n hx hb d_Me_feedNumber_20 rfl (lv_at hl 1 rfl) ?_
  refine lv_dup hx hb d_Me_feedNumber_21 rfl ?_
  refine va_get (D := (dC, dI)) (ci := 3) (v := .int 4) (C := R_Me) (T := F_Me) (N := 5) hx hb hts i_Me hown hK hP 0 rfl rfl 3 (by decide) (hts _ mw_130) (fun _ h9 => h9) rfl d_Me_feedNumber_22 ?_
  refine lv_iconst (v := 1) hx hb d_Me_feedNumber_25 (by decide) ?_
  refine lv_iadd hx hb d_Me_feedNumber_26 ?_
  refine lv_topi (fun z3 ez3 => ?_)
  obtain rfl : z3 = 5 := ez3.trans (by decide)
  refine va_put (D := (dC, dI)) (ci := 3) (v := .int 5) (ty := .int) (C := R_Me) (T := F_Me) (N := 5) hx hb hts i_Me t_Me t_Me_ok n_Me hown hK hP hD hS 0 rfl rfl 3 (by decide) (hts _ mw_130) (fun _ h9 => h9) rfl (by decide +kernel) rfl rfl (Nat.le_of_ble_eq_true rfl) d_Me_feedNumber_27 (fun H locs hP hD hS => ?_)
  have hP : va_P (dC, dI) classes [(xe, .inr (3, [.ref xm, .ref e1, .ref e2, .int 5, .int 0])), (e1, .inl (c1, 400, .inl f2))] H := hP
  have hD : va_D A [(xe, .inr (3, [.ref xm, .ref e1, .ref e2, .int 5, .int 0])), (e1, .inl (c1, 400, .inl f2))] := hD
  refine lv_iinc (v := 16) (lv' := [(2, .int 16), (0, .ref xe), (1, .int v)]) hx hb d_Me_feedNumber_30 hl (k := 0) rfl (by decide) (by decide) rfl (fun ls hl => ?_)
  refine lv_goto (tgt := 3) hx hb d_Me_feedNumber_33 (by decide) ?_
  refine lv_iload_n hx hb d_Me_feedNumber_3 rfl (lv_at hl 0 rfl) ?_
  refine lv_if_lt (tgt := 36) hx hb d_Me_feedNumber_4 (by decide) (fun h => absurd h (by decide)) (fun _ => ?_)
  refine lv_aload_n hx hb d_Me_feedNumber_7 rfl (lv_at hl 1 rfl) ?_
  refine va_get (D := (dC, dI)) (ci := 3) (v := .ref e1) (C := R_Me) (T := F_Me) (N := 5) hx hb hts i_Me hown hK hP 0 rfl rfl 1 (by decide) (hts _ mw_127) (fun _ h9 => h9) rfl d_Me_feedNumber_8 ?_
  refine lv_aload_n hx hb d_Me_feedNumber_11 rfl (lv_at hl 1 rfl) ?_
  refine va_get (D := (dC, dI)) (ci := 3) (v := .int 5) (C := R_Me) (T := F_Me) (N := 5) hx hb hts i_Me hown hK hP 0 rfl rfl 3 (by decide) (hts _ mw_130) (fun _ h9 => h9) rfl d_Me_feedNumber_12 ?_
  refine lv_iload_n hx hb d_Me_feedNumber_15 rfl (lv_at hl 2 rfl) ?_
  refine lv_iload_n hx hb d_Me_feedNumber_16 rfl (lv_at hl 0 rfl) ?_
  refine lv_ishr hx hb d_Me_feedNumber_17 ?_
  refine lv_topi (fun z4 ez4 => ?_)
  refine lv_i2b hx hb d_Me_feedNumber_18 rfl ?_
  refine va_bast hx hb hK hP hD hS 1 0 rfl rfl (by unfold vp_in; decide) d_Me_feedNumber_19 (fun H locs hP hD hS => ?_)
  have hP : va_P (dC, dI) classes [(xe, .inr (3, [.ref xm, .ref e1, .ref e2, .int 5, .int 0])), (e1, .inl (c1, 400, .inl (upd f2 (5 : Int32).toNatClampNeg (vp_nar .byte z4.toInt8.toInt32))))] H := hP
  have hD : va_D A [(xe, .inr (3, [.ref xm, .ref e1, .ref e2, .int 5, .int 0])), (e1, .inl (c1, 400, .inl (upd f2 (5 : Int32).toNatClampNeg (vp_nar .byte z4.toInt8.toInt32))))] := hD
  obtain ⟨f5, ef5⟩ : ∃ f : Nat → Int32, f = upd f2 (5 : Int32).toNatClampNeg (vp_nar .byte z4.toInt8.toInt32) := ⟨_, rfl⟩
  rw [← ef5] at hP hD
  refine lv_aload_n hx hb d_Me_feedNumber_20 rfl (lv_at hl 1 rfl) ?_
  refine lv_dup hx hb d_Me_feedNumber_21 rfl ?_
  refine va_get (D := (dC, dI)) (ci := 3) (v := .int 5) (C := R_Me) (T := F_Me) (N := 5) hx hb hts i_Me hown hK hP 0 rfl rfl 3 (by decide) (hts _ mw_130) (fun _ h9 => h9) rfl d_Me_feedNumber_22 ?_
  refine lv_iconst (v := 1) hx hb d_Me_feedNumber_25 (by decide) ?_
  refine lv_iadd hx hb d_Me_feedNumber_26 ?_
  refine lv_topi (fun z6 ez6 => ?_)
  obtain rfl : z6 = 6 := ez6.trans (by decide)
  refine va_put (D := (dC, dI)) (ci := 3) (v := .int 6) (ty := .int) (C := R_Me) (T := F_Me) (N := 5) hx hb hts i_Me t_Me t_Me_ok n_Me hown hK hP hD hS 0 rfl rfl 3 (by decide) (hts _ mw_130) (fun _ h9 => h9) rfl (by decide +kernel) rfl rfl (Nat.le_of_ble_eq_true rfl) d_Me_feedNumber_27 (fun H locs hP hD hS => ?_)
  have hP : va_P (dC, dI) classes [(xe, .inr (3, [.ref xm, .ref e1, .ref e2, .int 6, .int 0])), (e1, .inl (c1, 400, .inl f5))] H := hP
  have hD : va_D A [(xe, .inr (3, [.ref xm, .ref e1, .ref e2, .int 6, .int 0])), (e1, .inl (c1, 400, .inl f5))] := hD
  refine lv_iinc (v := 8) (lv' := [(2, .int 8), (0, .ref xe), (1, .int v)]) hx hb d_Me_feedNumber_30 hl (k := 0) rfl (by decide) (by decide) rfl (fun ls hl => ?_)
  refine lv_goto (tgt := 3) hx hb d_Me_feedNumber_33 (by decide) ?_
  refine lv_iload_n hx hb d_Me_feedNumber_3 rfl (lv_at hl 0 rfl) ?_
  refine lv_if_lt (tgt := 36) hx hb d_Me_feedNumber_4 (by decide) (fun h => absurd h (by decide)) (fun _ => ?_)
  refine lv_aload_n hx hb d_Me_feedNumber_7 rfl (lv_at hl 1 rfl) ?_
  refine va_get (D := (dC, dI)) (ci := 3) (v := .ref e1) (C := R_Me) (T := F_Me) (N := 5) hx hb hts i_Me hown hK hP 0 rfl rfl 1 (by decide) (hts _ mw_127) (fun _ h9 => h9) rfl d_Me_feedNumber_8 ?_
  refine lv_aload_n hx hb d_Me_feedNumber_11 rfl (lv_at hl 1 rfl) ?_
  refine va_get (D := (dC, dI)) (ci := 3) (v := .int 6) (C := R_Me) (T := F_Me) (N := 5) hx hb hts i_Me hown hK hP 0 rfl rfl 3 (by decide) (hts _ mw_130) (fun _ h9 => h9) rfl d_Me_feedNumber_12 ?_
  refine lv_iload_n hx hb d_Me_feedNumber_15 rfl (lv_at hl 2 rfl) ?_
  refine lv_iload_n hx hb d_Me_feedNumber_16 rfl (lv_at hl 0 rfl) ?_
  refine lv_ishr hx hb d_Me_feedNumber_17 ?_
  refine lv_topi (fun z7 ez7 => ?_)
  refine lv_i2b hx hb d_Me_feedNumber_18 rfl ?_
  refine va_bast hx hb hK hP hD hS 1 0 rfl rfl (by unfold vp_in; decide) d_Me_feedNumber_19 (fun H locs hP hD hS => ?_)
  have hP : va_P (dC, dI) classes [(xe, .inr (3, [.ref xm, .ref e1, .ref e2, .int 6, .int 0])), (e1, .inl (c1, 400, .inl (upd f5 (6 : Int32).toNatClampNeg (vp_nar .byte z7.toInt8.toInt32))))] H := hP
  have hD : va_D A [(xe, .inr (3, [.ref xm, .ref e1, .ref e2, .int 6, .int 0])), (e1, .inl (c1, 400, .inl (upd f5 (6 : Int32).toNatClampNeg (vp_nar .byte z7.toInt8.toInt32))))] := hD
  obtain ⟨f8, ef8⟩ : ∃ f : Nat → Int32, f = upd f5 (6 : Int32).toNatClampNeg (vp_nar .byte z7.toInt8.toInt32) := ⟨_, rfl⟩
  rw [← ef8] at hP hD
  refine lv_aload_n hx hb d_Me_feedNumber_20 rfl (lv_at hl 1 rfl) ?_
  refine lv_dup hx hb d_Me_feedNumber_21 rfl ?_
  refine va_get (D := (dC, dI)) (ci := 3) (v := .int 6) (C := R_Me) (T := F_Me) (N := 5) hx hb hts i_Me hown hK hP 0 rfl rfl 3 (by decide) (hts _ mw_130) (fun _ h9 => h9) rfl d_Me_feedNumber_22 ?_
  refine lv_iconst (v := 1) hx hb d_Me_feedNumber_25 (by decide) ?_
  refine lv_iadd hx hb d_Me_feedNumber_26 ?_
  refine lv_topi (fun z9 ez9 => ?_)
  obtain rfl : z9 = 7 := ez9.trans (by decide)
  refine va_put (D := (dC, dI)) (ci := 3) (v := .int 7) (ty := .int) (C := R_Me) (T := F_Me) (N := 5) hx hb hts i_Me t_Me t_Me_ok n_Me hown hK hP hD hS 0 rfl rfl 3 (by decide) (hts _ mw_130) (fun _ h9 => h9) rfl (by decide +kernel) rfl rfl (Nat.le_of_ble_eq_true rfl) d_Me_feedNumber_27 (fun H locs hP hD hS => ?_)
  have hP : va_P (dC, dI) classes [(xe, .inr (3, [.ref xm, .ref e1, .ref e2, .int 7, .int 0])), (e1, .inl (c1, 400, .inl f8))] H := hP
  have hD : va_D A [(xe, .inr (3, [.ref xm, .ref e1, .ref e2, .int 7, .int 0])), (e1, .inl (c1, 400, .inl f8))] := hD
  refine lv_iinc (v := 0) (lv' := [(2, .int 0), (0, .ref xe), (1, .int v)]) hx hb d_Me_feedNumber_30 hl (k := 0) rfl (by decide) (by decide) rfl (fun ls hl => ?_)
  refine lv_goto (tgt := 3) hx hb d_Me_feedNumber_33 (by decide) ?_
  refine lv_iload_n hx hb d_Me_feedNumber_3 rfl (lv_at hl 0 rfl) ?_
  refine lv_if_lt (tgt := 36) hx hb d_Me_feedNumber_4 (by decide) (fun h => absurd h (by decide)) (fun _ => ?_)
  refine lv_aload_n hx hb d_Me_feedNumber_7 rfl (lv_at hl 1 rfl) ?_
  refine va_get (D := (dC, dI)) (ci := 3) (v := .ref e1) (C := R_Me) (T := F_Me) (N := 5) hx hb hts i_Me hown hK hP 0 rfl rfl 1 (by decide) (hts _ mw_127) (fun _ h9 => h9) rfl d_Me_feedNumber_8 ?_
  refine lv_aload_n hx hb d_Me_feedNumber_11 rfl (lv_at hl 1 rfl) ?_
  refine va_get (D := (dC, dI)) (ci := 3) (v := .int 7) (C := R_Me) (T := F_Me) (N := 5) hx hb hts i_Me hown hK hP 0 rfl rfl 3 (by decide) (hts _ mw_130) (fun _ h9 => h9) rfl d_Me_feedNumber_12 ?_
  refine lv_iload_n hx hb d_Me_feedNumber_15 rfl (lv_at hl 2 rfl) ?_
  refine lv_iload_n hx hb d_Me_feedNumber_16 rfl (lv_at hl 0 rfl) ?_
  refine lv_ishr hx hb d_Me_feedNumber_17 ?_
  refine lv_topi (fun z10 ez10 => ?_)
  refine lv_i2b hx hb d_Me_feedNumber_18 rfl ?_
  refine va_bast hx hb hK hP hD hS 1 0 rfl rfl (by unfold vp_in; decide) d_Me_feedNumber_19 (fun H locs hP hD hS => ?_)
  have hP : va_P (dC, dI) classes [(xe, .inr (3, [.ref xm, .ref e1, .ref e2, .int 7, .int 0])), (e1, .inl (c1, 400, .inl (upd f8 (7 : Int32).toNatClampNeg (vp_nar .byte z10.toInt8.toInt32))))] H := hP
  have hD : va_D A [(xe, .inr (3, [.ref xm, .ref e1, .ref e2, .int 7, .int 0])), (e1, .inl (c1, 400, .inl (upd f8 (7 : Int32).toNatClampNeg (vp_nar .byte z10.toInt8.toInt32))))] := hD
  obtain ⟨f11, ef11⟩ : ∃ f : Nat → Int32, f = upd f8 (7 : Int32).toNatClampNeg (vp_nar .byte z10.toInt8.toInt32) := ⟨_, rfl⟩
  rw [← ef11] at hP hD
  refine lv_aload_n hx hb d_Me_feedNumber_20 rfl (lv_at hl 1 rfl) ?_
  refine lv_dup hx hb d_Me_feedNumber_21 rfl ?_
  refine va_get (D := (dC, dI)) (ci := 3) (v := .int 7) (C := R_Me) (T := F_Me) (N := 5) hx hb hts i_Me hown hK hP 0 rfl rfl 3 (by decide) (hts _ mw_130) (fun _ h9 => h9) rfl d_Me_feedNumber_22 ?_
  refine lv_iconst (v := 1) hx hb d_Me_feedNumber_25 (by decide) ?_
  refine lv_iadd hx hb d_Me_feedNumber_26 ?_
  refine lv_topi (fun z12 ez12 => ?_)
  obtain rfl : z12 = 8 := ez12.trans (by decide)
  refine va_put (D := (dC, dI)) (ci := 3) (v := .int 8) (ty := .int) (C := R_Me) (T := F_Me) (N := 5) hx hb hts i_Me t_Me t_Me_ok n_Me hown hK hP hD hS 0 rfl rfl 3 (by decide) (hts _ mw_130) (fun _ h9 => h9) rfl (by decide +kernel) rfl rfl (Nat.le_of_ble_eq_true rfl) d_Me_feedNumber_27 (fun H locs hP hD hS => ?_)
  have hP : va_P (dC, dI) classes [(xe, .inr (3, [.ref xm, .ref e1, .ref e2, .int 8, .int 0])), (e1, .inl (c1, 400, .inl f11))] H := hP
  have hD : va_D A [(xe, .inr (3, [.ref xm, .ref e1, .ref e2, .int 8, .int 0])), (e1, .inl (c1, 400, .inl f11))] := hD
  refine lv_iinc (v := (-8)) (lv' := [(2, .int (-8)), (0, .ref xe), (1, .int v)]) hx hb d_Me_feedNumber_30 hl (k := 0) rfl (by decide) (by decide) rfl (fun ls hl => ?_)
  refine lv_goto (tgt := 3) hx hb d_Me_feedNumber_33 (by decide) ?_
  refine lv_iload_n hx hb d_Me_feedNumber_3 rfl (lv_at hl 0 rfl) ?_
  refine lv_if_lt (tgt := 36) hx hb d_Me_feedNumber_4 (by decide) (fun _ => ?_) (fun h => absurd h (by decide))
  have hP9 := hP.sub (ws' := [(xe, .inr (3, [.ref xm, .ref e1, .ref e2, .int 8, .int 0])), (e1, .inl (c1, 400, .inl f11))]) [0, 1] rfl
  have hD9 := hD.sub (ws' := [(xe, .inr (3, [.ref xm, .ref e1, .ref e2, .int 8, .int 0])), (e1, .inl (c1, 400, .inl f11))]) [0, 1] (by decide) rfl
  have hK9 := hK.sub (tys' := [(c1, .byte)]) [0] rfl
  refine W.widen (k := 0) (n := 0) (by omega) (by omega) ?_
  exact W.vret hx hb hr (fun t ht hW => ⟨⟨(), rfl, trivial, f11, by rw [ht]; exact hP9, va_K.moved hW.alike hK9, hD9⟩, hS.F ht⟩) hS.2.2 d_Me_feedNumber_36
set_option maxHeartbeats 4000000 in
set_option maxRecDepth 100000 in
theorem Me_feed_8 (l : Launch) (dC : Nat → ClassId) (dI : Nat → Nat → Nat) (sz : Nat) (xe : Nat) (xm : Nat) (e1 : Nat) (e2 : Nat) (c1 : ClassId) (fb : Nat → Int32) (v : Int32) : Met l y_Me_feedNumber (.code y_Me_feedNumber prog_6_method_2_code 3 none :: zz_W) ({ frames := 0, cells := 0, slots := 0, locals := 0 }) (va_Pc [.ref xe, .int v] (zz_B dC dI [(xe, .inr (3, [.ref xm, .ref e1, .ref e2, .int 8, .int 0])), (e1, .inl (c1, 400, .inl fb))] [(c1, .byte)] sz)) (va_Qv (fun (_ : Unit) => True) (fun (_ : Unit) (t : State) => ∃ (f11 : Nat → Int32), va_P (dC, dI) classes [(xe, .inr (3, [.ref xm, .ref e1, .ref e2, .int 12, .int 0])), (e1, .inl (c1, 400, .inl f11))] t.heap ∧ va_K (dC, dI) classes [(c1, .byte)] t ∧ va_D (va_A [(xe, .inr (3, [.ref xm, .ref e1, .ref e2, .int 8, .int 0])), (e1, .inl (c1, 400, .inl fb))] sz) [(xe, .inr (3, [.ref xm, .ref e1, .ref e2, .int 12, .int 0])), (e1, .inl (c1, 400, .inl f11))]) (va_A [(xe, .inr (3, [.ref xm, .ref e1, .ref e2, .int 8, .int 0])), (e1, .inl (c1, 400, .inl fb))] sz)) 0 0 (va_A [(xe, .inr (3, [.ref xm, .ref e1, .ref e2, .int 8, .int 0])), (e1, .inl (c1, 400, .inl fb))] sz) := by
  refine Met.ofW (cc := prog_6_method_2_code) (maxL := 3) (ret := none) (by decide) rfl ?_
  intro p e s m args below meth c s₁ B hml hv
  obtain ⟨rfl, hsz, hP, hK, hD0, hT⟩ := hv
  have hx := B.exec
  have hb := B.bytes
  have hr := B.returns
  have hts0 := atoms_spec (ws := (.code y_Me_feedNumber prog_6_method_2_code 3 none :: zz_W)) B.pre
  have hts : ∀ w ∈ zz_W, w.before _ s = true := fun w h => hts0 w (List.mem_cons_of_mem _ h)
  have hown : s.vm.findClass R_Me = some m.cls := findClass_of_methodNamed B.named
  have hlocks := B.notSynchronized
  subst hsz
  have hD := hD0.self (sz := s.heap.size)
  generalize hAe : va_A [(xe, .inr (3, [.ref xm, .ref e1, .ref e2, .int 8, .int 0])), (e1, .inl (c1, 400, .inl fb))] s.heap.size = A at hD ⊢
  have hA : ∀ q : Nat, s.heap.size ≤ q → A q := fun q h => by rw [← hAe]; exact Or.inr h
  have hS : va_S A s.heap s.heap [] := va_S.rf
  have hl := lv_entry ([.ref xe, .int v]) (n := 3) (Nat.le_of_ble_eq_true rfl)
  rw [lg_entry_eq]
  generalize (lg_sl ([.ref xe, .int v]) ++ List.replicate (3 - (lg_sl ([.ref xe, .int v])).length) Slot.unset).toArray = ls at hl ⊢
  have hl : lv_has ls 3 [(0, .ref xe), (1, .int v)] := hl
  refine lv_bipush (v := 24) hx hb d_Me_feedNumber_0 (by decide) ?_
  refine lv_istore_n (lv' := [(2, .int 24), (0, .ref xe), (1, .int v)]) hx hb d_Me_feedNumber_2 rfl hl (by decide) rfl (fun ls hl => ?_)
  refine lv_iload_n hx hb d_Me_feedNumber_3 rfl (lv_at hl 0 rfl) ?_
  refine lv_if_lt (tgt := 36) hx hb d_Me_feedNumber_4 (by decide) (fun h => absurd h (by decide)) (fun _ => ?_)
  refine lv_aload_n hx hb d_Me_feedNumber_7 rfl (lv_at hl 1 rfl) ?_
  refine va_get (D := (dC, dI)) (ci := 3) (v := .ref e1) (C := R_Me) (T := F_Me) (N := 5) hx hb hts i_Me hown hK hP 0 rfl rfl 1 (by decide) (hts _ mw_127) (fun _ h9 => h9) rfl d_Me_feedNumber_8 ?_
  refine lv_aload_n hx hb d_Me_feedNumber_11 rfl (lv_at hl 1 rfl) ?_
  refine va_get (D := (dC, dI)) (ci := 3) (v := .int 8) (C := R_Me) (T := F_Me) (N := 5) hx hb hts i_Me hown hK hP 0 rfl rfl 3 (by decide) (hts _ mw_130) (fun _ h9 => h9) rfl d_Me_feedNumber_12 ?_
  refine lv_iload_n hx hb d_Me_feedNumber_15 rfl (lv_at hl 2 rfl) ?_
  refine lv_iload_n hx hb d_Me_feedNumber_16 rfl (lv_at hl 0 rfl) ?_
  refine lv_ishr hx hb d_Me_feedNumber_17 ?_
  refine lv_topi (fun z1 ez1 => ?_)
  refine lv_i2b hx hb d_Me_feedNumber_18 rfl ?_
  refine va_bast hx hb hK hP hD hS 1 0 rfl rfl (by unfold vp_in; decide) d_Me_feedNumber_19 (fun H locs hP hD hS => ?_)
  have hP : va_P (dC, dI) classes [(xe, .inr (3, [.ref xm, .ref e1, .ref e2, .int 8, .int 0])), (e1, .inl (c1, 400, .inl (upd fb (8 : Int32).toNatClampNeg (vp_nar .byte z1.toInt8.toInt32))))] H := hP
  have hD : va_D A [(xe, .inr (3, [.ref xm, .ref e1, .ref e2, .int 8, .int 0])), (e1, .inl (c1, 400, .inl (upd fb (8 : Int32).toNatClampNeg (vp_nar .byte z1.toInt8.toInt32))))] := hD
  obtain ⟨f2, ef2⟩ : ∃ f : Nat → Int32, f = upd fb (8 : Int32).toNatClampNeg (vp_nar .byte z1.toInt8.toInt32) := ⟨_, rfl⟩
  rw [← ef2] at hP hD
  refine lv_aload_n hx hb d_Me_feedNumber_20 rfl (lv_at hl 1 rfl) ?_
  refine lv_dup hx hb d_Me_feedNumber_21 rfl ?_
  refine va_get (D := (dC, dI)) (ci := 3) (v := .int 8) (C := R_Me) (T := F_Me) (N := 5) hx hb hts i_Me hown hK hP 0 rfl rfl 3 (by decide) (hts _ mw_130) (fun _ h9 => h9) rfl d_Me_feedNumber_22 ?_
  refine lv_iconst (v := 1) hx hb d_Me_feedNumber_25 (by decide) ?_
  refine lv_iadd hx hb d_Me_feedNumber_26 ?_
  refine lv_topi (fun z3 ez3 => ?_)
  obtain rfl : z3 = 9 := ez3.trans (by decide)
  refine va_put (D := (dC, dI)) (ci := 3) (v := .int 9) (ty := .int) (C := R_Me) (T := F_Me) (N := 5) hx hb hts i_Me t_Me t_Me_ok n_Me hown hK hP hD hS 0 rfl rfl 3 (by decide) (hts _ mw_130) (fun _ h9 => h9) rfl (by decide +kernel) rfl rfl (Nat.le_of_ble_eq_true rfl) d_Me_feedNumber_27 (fun H locs hP hD hS => ?_)
  have hP : va_P (dC, dI) classes [(xe, .inr (3, [.ref xm, .ref e1, .ref e2, .int 9, .int 0])), (e1, .inl (c1, 400, .inl f2))] H := hP
  have hD : va_D A [(xe, .inr (3, [.ref xm, .ref e1, .ref e2, .int 9, .int 0])), (e1, .inl (c1, 400, .inl f2))] := hD
  refine lv_iinc (v := 16) (lv' := [(2, .int 16), (0, .ref xe), (1, .int v)]) hx hb d_Me_feedNumber_30 hl (k := 0) rfl (by decide) (by decide) rfl (fun ls hl => ?_)
  refine lv_goto (tgt := 3) hx hb d_Me_feedNumber_33 (by decide) ?_
  refine lv_iload_n hx hb d_Me_feedNumber_3 rfl (lv_at hl 0 rfl) ?_
  refine lv_if_lt (tgt := 36) hx hb d_Me_feedNumber_4 (by decide) (fun h => absurd h (by decide)) (fun _ => ?_)
  refine lv_aload_n hx hb d_Me_feedNumber_7 rfl (lv_at hl 1 rfl) ?_
  refine va_get (D := (dC, dI)) (ci := 3) (v := .ref e1) (C := R_Me) (T := F_Me) (N := 5) hx hb hts i_Me hown hK hP 0 rfl rfl 1 (by decide) (hts _ mw_127) (fun _ h9 => h9) rfl d_Me_feedNumber_8 ?_
  refine lv_aload_n hx hb d_Me_feedNumber_11 rfl (lv_at hl 1 rfl) ?_
  refine va_get (D := (dC, dI)) (ci := 3) (v := .int 9) (C := R_Me) (T := F_Me) (N := 5) hx hb hts i_Me hown hK hP 0 rfl rfl 3 (by decide) (hts _ mw_130) (fun _ h9 => h9) rfl d_Me_feedNumber_12 ?_
  refine lv_iload_n hx hb d_Me_feedNumber_15 rfl (lv_at hl 2 rfl) ?_
  refine lv_iload_n hx hb d_Me_feedNumber_16 rfl (lv_at hl 0 rfl) ?_
  refine lv_ishr hx hb d_Me_feedNumber_17 ?_
  refine lv_topi (fun z4 ez4 => ?_)
  refine lv_i2b hx hb d_Me_feedNumber_18 rfl ?_
  refine va_bast hx hb hK hP hD hS 1 0 rfl rfl (by unfold vp_in; decide) d_Me_feedNumber_19 (fun H locs hP hD hS => ?_)
  have hP : va_P (dC, dI) classes [(xe, .inr (3, [.ref xm, .ref e1, .ref e2, .int 9, .int 0])), (e1, .inl (c1, 400, .inl (upd f2 (9 : Int32).toNatClampNeg (vp_nar .byte z4.toInt8.toInt32))))] H := hP
  have hD : va_D A [(xe, .inr (3, [.ref xm, .ref e1, .ref e2, .int 9, .int 0])), (e1, .inl (c1, 400, .inl (upd f2 (9 : Int32).toNatClampNeg (vp_nar .byte z4.toInt8.toInt32))))] := hD
  obtain ⟨f5, ef5⟩ : ∃ f : Nat → Int32, f = upd f2 (9 : Int32).toNatClampNeg (vp_nar .byte z4.toInt8.toInt32) := ⟨_, rfl⟩
  rw [← ef5] at hP hD
  refine lv_aload_n hx hb d_Me_feedNumber_20 rfl (lv_at hl 1 rfl) ?_
  refine lv_dup hx hb d_Me_feedNumber_21 rfl ?_
  refine va_get (D := (dC, dI)) (ci := 3) (v := .int 9) (C := R_Me) (T := F_Me) (N := 5) hx hb hts i_Me hown hK hP 0 rfl rfl 3 (by decide) (hts _ mw_130) (fun _ h9 => h9) rfl d_Me_feedNumber_22 ?_
  refine lv_iconst (v := 1) hx hb d_Me_feedNumber_25 (by decide) ?_
  refine lv_iadd hx hb d_Me_feedNumber_26 ?_
  refine lv_topi (fun z6 ez6 => ?_)
  obtain rfl : z6 = 10 := ez6.trans (by decide)
  refine va_put (D := (dC, dI)) (ci := 3) (v := .int 10) (ty := .int) (C := R_Me) (T := F_Me) (N := 5) hx hb hts i_Me t_Me t_Me_ok n_Me hown hK hP hD hS 0 rfl rfl 3 (by decide) (hts _ mw_130) (fun _ h9 => h9) rfl (by decide +kernel) rfl rfl (Nat.le_of_ble_eq_true rfl) d_Me_feedNumber_27 (fun H locs hP hD hS => ?_)
  have hP : va_P (dC, dI) classes [(xe, .inr (3, [.ref xm, .ref e1, .ref e2, .int 10, .int 0])), (e1, .inl (c1, 400, .inl f5))] H := hP
  have hD : va_D A [(xe, .inr (3, [.ref xm, .ref e1, .ref e2, .int 10, .int 0])), (e1, .inl (c1, 400, .inl f5))] := hD
  refine lv_iinc (v := 8) (lv' := [(2, .int 8), (0, .ref xe), (1, .int v)]) hx hb d_Me_feedNumber_30 hl (k := 0) rfl (by decide) (by decide) rfl (fun ls hl => ?_)
  refine lv_goto (tgt := 3) hx hb d_Me_feedNumber_33 (by decide) ?_
  refine lv_iload_n hx hb d_Me_feedNumber_3 rfl (lv_at hl 0 rfl) ?_
  refine lv_if_lt (tgt := 36) hx hb d_Me_feedNumber_4 (by decide) (fun h => absurd h (by decide)) (fun _ => ?_)
  refine lv_aload_n hx hb d_Me_feedNumber_7 rfl (lv_at hl 1 rfl) ?_
  refine va_get (D := (dC, dI)) (ci := 3) (v := .ref e1) (C := R_Me) (T := F_Me) (N := 5) hx hb hts i_Me hown hK hP 0 rfl rfl 1 (by decide) (hts _ mw_127) (fun _ h9 => h9) rfl d_Me_feedNumber_8 ?_
  refine lv_aload_n hx hb d_Me_feedNumber_11 rfl (lv_at hl 1 rfl) ?_
  refine va_get (D := (dC, dI)) (ci := 3) (v := .int 10) (C := R_Me) (T := F_Me) (N := 5) hx hb hts i_Me hown hK hP 0 rfl rfl 3 (by decide) (hts _ mw_130) (fun _ h9 => h9) rfl d_Me_feedNumber_12 ?_
  refine lv_iload_n hx hb d_Me_feedNumber_15 rfl (lv_at hl 2 rfl) ?_
  refine lv_iload_n hx hb d_Me_feedNumber_16 rfl (lv_at hl 0 rfl) ?_
  refine lv_ishr hx hb d_Me_feedNumber_17 ?_
  refine lv_topi (fun z7 ez7 => ?_)
  refine lv_i2b hx hb d_Me_feedNumber_18 rfl ?_
  refine va_bast hx hb hK hP hD hS 1 0 rfl rfl (by unfold vp_in; decide) d_Me_feedNumber_19 (fun H locs hP hD hS => ?_)
  have hP : va_P (dC, dI) classes [(xe, .inr (3, [.ref xm, .ref e1, .ref e2, .int 10, .int 0])), (e1, .inl (c1, 400, .inl (upd f5 (10 : Int32).toNatClampNeg (vp_nar .byte z7.toInt8.toInt32))))] H := hP
  have hD : va_D A [(xe, .inr (3, [.ref xm, .ref e1, .ref e2, .int 10, .int 0])), (e1, .inl (c1, 400, .inl (upd f5 (10 : Int32).toNatClampNeg (vp_nar .byte z7.toInt8.toInt32))))] := hD
  obtain ⟨f8, ef8⟩ : ∃ f : Nat → Int32, f = upd f5 (10 : Int32).toNatClampNeg (vp_nar .byte z7.toInt8.toInt32) := ⟨_, rfl⟩
  rw [← ef8] at hP hD
  refine lv_aload_n hx hb d_Me_feedNumber_20 rfl (lv_at hl 1 rfl) ?_
  refine lv_dup hx hb d_Me_feedNumber_21 rfl ?_
  refine va_get (D := (dC, dI)) (ci := 3) (v := .int 10) (C := R_Me) (T := F_Me) (N := 5) hx hb hts i_Me hown hK hP 0 rfl rfl 3 (by decide) (hts _ mw_130) (fun _ h9 => h9) rfl d_Me_feedNumber_22 ?_
  refine lv_iconst (v := 1) hx hb d_Me_feedNumber_25 (by decide) ?_
  refine lv_iadd hx hb d_Me_feedNumber_26 ?_
  refine lv_topi (fun z9 ez9 => ?_)
  obtain rfl : z9 = 11 := ez9.trans (by decide)
  refine va_put (D := (dC, dI)) (ci := 3) (v := .int 11) (ty := .int) (C := R_Me) (T := F_Me) (N := 5) hx hb hts i_Me t_Me t_Me_ok n_Me hown hK hP hD hS 0 rfl rfl 3 (by decide) (hts _ mw_130) (fun _ h9 => h9) rfl (by decide +kernel) rfl rfl (Nat.le_of_ble_eq_true rfl) d_Me_feedNumber_27 (fun H locs hP hD hS => ?_)
  have hP : va_P (dC, dI) classes [(xe, .inr (3, [.ref xm, .ref e1, .ref e2, .int 11, .int 0])), (e1, .inl (c1, 400, .inl f8))] H := hP
  have hD : va_D A [(xe, .inr (3, [.ref xm, .ref e1, .ref e2, .int 11, .int 0])), (e1, .inl (c1, 400, .inl f8))] := hD
  refine lv_iinc (v := 0) (lv' := [(2, .int 0), (0, .ref xe), (1, .int v)]) hx hb d_Me_feedNumber_30 hl (k := 0) rfl (by decide) (by decide) rfl (fun ls hl => ?_)
  refine lv_goto (tgt := 3) hx hb d_Me_feedNumber_33 (by decide) ?_
  refine lv_iload_n hx hb d_Me_feedNumber_3 rfl (lv_at hl 0 rfl) ?_
  refine lv_if_lt (tgt := 36) hx hb d_Me_feedNumber_4 (by decide) (fun h => absurd h (by decide)) (fun _ => ?_)
  refine lv_aload_n hx hb d_Me_feedNumber_7 rfl (lv_at hl 1 rfl) ?_
  refine va_get (D := (dC, dI)) (ci := 3) (v := .ref e1) (C := R_Me) (T := F_Me) (N := 5) hx hb hts i_Me hown hK hP 0 rfl rfl 1 (by decide) (hts _ mw_127) (fun _ h9 => h9) rfl d_Me_feedNumber_8 ?_
  refine lv_aload_n hx hb d_Me_feedNumber_11 rfl (lv_at hl 1 rfl) ?_
  refine va_get (D := (dC, dI)) (ci := 3) (v := .int 11) (C := R_Me) (T := F_Me) (N := 5) hx hb hts i_Me hown hK hP 0 rfl rfl 3 (by decide) (hts _ mw_130) (fun _ h9 => h9) rfl d_Me_feedNumber_12 ?_
  refine lv_iload_n hx hb d_Me_feedNumber_15 rfl (lv_at hl 2 rfl) ?_
  refine lv_iload_n hx hb d_Me_feedNumber_16 rfl (lv_at hl 0 rfl) ?_
  refine lv_ishr hx hb d_Me_feedNumber_17 ?_
  refine lv_topi (fun z10 ez10 => ?_)
  refine lv_i2b hx hb d_Me_feedNumber_18 rfl ?_
  refine va_bast hx hb hK hP hD hS 1 0 rfl rfl (by unfold vp_in; decide) d_Me_feedNumber_19 (fun H locs hP hD hS => ?_)
  have hP : va_P (dC, dI) classes [(xe, .inr (3, [.ref xm, .ref e1, .ref e2, .int 11, .int 0])), (e1, .inl (c1, 400, .inl (upd f8 (11 : Int32).toNatClampNeg (vp_nar .byte z10.toInt8.toInt32))))] H := hP
  have hD : va_D A [(xe, .inr (3, [.ref xm, .ref e1, .ref e2, .int 11, .int 0])), (e1, .inl (c1, 400, .inl (upd f8 (11 : Int32).toNatClampNeg (vp_nar .byte z10.toInt8.toInt32))))] := hD
  obtain ⟨f11, ef11⟩ : ∃ f : Nat → Int32, f = upd f8 (11 : Int32).toNatClampNeg (vp_nar .byte z10.toInt8.toInt32) := ⟨_, rfl⟩
  rw [← ef11] at hP hD
  refine lv_aload_n hx hb d_Me_feedNumber_20 rfl (lv_at hl 1 rfl) ?_
  refine lv_dup hx hb d_Me_feedNumber_21 rfl ?_
  refine va_get (D := (dC, dI)) (ci := 3) (v := .int 11) (C := R_Me) (T := F_Me) (N := 5) hx hb hts i_Me hown hK hP 0 rfl rfl 3 (by decide) (hts _ mw_130) (fun _ h9 => h9) rfl d_Me_feedNumber_22 ?_
  refine lv_iconst (v := 1) hx hb d_Me_feedNumber_25 (by decide) ?_
  refine lv_iadd hx hb d_Me_feedNumber_26 ?_
  refine lv_topi (fun z12 ez12 => ?_)
  obtain rfl : z12 = 12 := ez12.trans (by decide)
  refine va_put (D := (dC, dI)) (ci := 3) (v := .int 12) (ty := .int) (C := R_Me) (T := F_Me) (N := 5) hx hb hts i_Me t_Me t_Me_ok n_Me hown hK hP hD hS 0 rfl rfl 3 (by decide) (hts _ mw_130) (fun _ h9 => h9) rfl (by decide +kernel) rfl rfl (Nat.le_of_ble_eq_true rfl) d_Me_feedNumber_27 (fun H locs hP hD hS => ?_)
  have hP : va_P (dC, dI) classes [(xe, .inr (3, [.ref xm, .ref e1, .ref e2, .int 12, .int 0])), (e1, .inl (c1, 400, .inl f11))] H := hP
  have hD : va_D A [(xe, .inr (3, [.ref xm, .ref e1, .ref e2, .int 12, .int 0])), (e1, .inl (c1, 400, .inl f11))] := hD
  refine lv_iinc (v := (-8)) (lv' := [(2, .int (-8)), (0, .ref xe), (1, .int v)]) hx hb d_Me_feedNumber_30 hl (k := 0) rfl (by decide) (by decide) rfl (fun ls hl => ?_)
  refine lv_goto (tgt := 3) hx hb d_Me_feedNumber_33 (by decide) ?_
  refine lv_iload_n hx hb d_Me_feedNumber_3 rfl (lv_at hl 0 rfl) ?_
  refine lv_if_lt (tgt := 36) hx hb d_Me_feedNumber_4 (by decide) (fun _ => ?_) (fun h => absurd h (by decide))
  have hP9 := hP.sub (ws' := [(xe, .inr (3, [.ref xm, .ref e1, .ref e2, .int 12, .int 0])), (e1, .inl (c1, 400, .inl f11))]) [0, 1] rfl
  have hD9 := hD.sub (ws' := [(xe, .inr (3, [.ref xm, .ref e1, .ref e2, .int 12, .int 0])), (e1, .inl (c1, 400, .inl f11))]) [0, 1] (by decide) rfl
  have hK9 := hK.sub (tys' := [(c1, .byte)]) [0] rfl
  refine W.widen (k := 0) (n := 0) (by omega) (by omega) ?_
  exact W.vret hx hb hr (fun t ht hW => ⟨⟨(), rfl, trivial, f11, by rw [ht]; exact hP9, va_K.moved hW.alike hK9, hD9⟩, hS.F ht⟩) hS.2.2 d_Me_feedNumber_36
set_option maxHeartbeats 4000000 in
set_option maxRecDepth 100000 in
theorem Me_feed_12 (l : Launch) (dC : Nat → ClassId) (dI : Nat → Nat → Nat) (sz : Nat) (xe : Nat) (xm : Nat) (e1 : Nat) (e2 : Nat) (c1 : ClassId) (fb : Nat → Int32) (v : Int32) : Met l y_Me_feedNumber (.code y_Me_feedNumber prog_6_method_2_code 3 none :: zz_W) ({ frames := 0, cells := 0, slots := 0, locals := 0 }) (va_Pc [.ref xe, .int v] (zz_B dC dI [(xe, .inr (3, [.ref xm, .ref e1, .ref e2, .int 12, .int 0])), (e1, .inl (c1, 400, .inl fb))] [(c1, .byte)] sz)) (va_Qv (fun (_ : Unit) => True) (fun (_ : Unit) (t : State) => ∃ (f11 : Nat → Int32), va_P (dC, dI) classes [(xe, .inr (3, [.ref xm, .ref e1, .ref e2, .int 16, .int 0])), (e1, .inl (c1, 400, .inl f11))] t.heap ∧ va_K (dC, dI) classes [(c1, .byte)] t ∧ va_D (va_A [(xe, .inr (3, [.ref xm, .ref e1, .ref e2, .int 12, .int 0])), (e1, .inl (c1, 400, .inl fb))] sz) [(xe, .inr (3, [.ref xm, .ref e1, .ref e2, .int 16, .int 0])), (e1, .inl (c1, 400, .inl f11))]) (va_A [(xe, .inr (3, [.ref xm, .ref e1, .ref e2, .int 12, .int 0])), (e1, .inl (c1, 400, .inl fb))] sz)) 0 0 (va_A [(xe, .inr (3, [.ref xm, .ref e1, .ref e2, .int 12, .int 0])), (e1, .inl (c1, 400, .inl fb))] sz) := by
  refine Met.ofW (cc := prog_6_method_2_code) (maxL := 3) (ret := none) (by decide) rfl ?_
  intro p e s m args below meth c s₁ B hml hv
  obtain ⟨rfl, hsz, hP, hK, hD0, hT⟩ := hv
  have hx := B.exec
  have hb := B.bytes
  have hr := B.returns
  have hts0 := atoms_spec (ws := (.code y_Me_feedNumber prog_6_method_2_code 3 none :: zz_W)) B.pre
  have hts : ∀ w ∈ zz_W, w.before _ s = true := fun w h => hts0 w (List.mem_cons_of_mem _ h)
  have hown : s.vm.findClass R_Me = some m.cls := findClass_of_methodNamed B.named
  have hlocks := B.notSynchronized
  subst hsz
  have hD := hD0.self (sz := s.heap.size)
  generalize hAe : va_A [(xe, .inr (3, [.ref xm, .ref e1, .ref e2, .int 12, .int 0])), (e1, .inl (c1, 400, .inl fb))] s.heap.size = A at hD ⊢
  have hA : ∀ q : Nat, s.heap.size ≤ q → A q := fun q h => by rw [← hAe]; exact Or.inr h
  have hS : va_S A s.heap s.heap [] := va_S.rf
  have hl := lv_entry ([.ref xe, .int v]) (n := 3) (Nat.le_of_ble_eq_true rfl)
  rw [lg_entry_eq]
  generalize (lg_sl ([.ref xe, .int v]) ++ List.replicate (3 - (lg_sl ([.ref xe, .int v])).length) Slot.unset).toArray = ls at hl ⊢
  have hl : lv_has ls 3 [(0, .ref xe), (1, .int v)] := hl
  refine lv_bipush (v := 24) hx hb d_Me_feedNumber_0 (by decide) ?_
  refine lv_istore_n (lv' := [(2, .int 24), (0, .ref xe), (1, .int v)]) hx hb d_Me_feedNumber_2 rfl hl (by decide) rfl (fun ls hl => ?_)
  refine lv_iload_n hx hb d_Me_feedNumber_3 rfl (lv_at hl 0 rfl) ?_
  refine lv_if_lt (tgt := 36) hx hb d_Me_feedNumber_4 (by decide) (fun h => absurd h (by decide)) (fun _ => ?_)
  refine lv_aload_n hx hb d_Me_feedNumber_7 rfl (lv_at hl 1 rfl) ?_
  refine va_get (D := (dC, dI)) (ci := 3) (v := .ref e1) (C := R_Me) (T := F_Me) (N := 5) hx hb hts i_Me hown hK hP 0 rfl rfl 1 (by decide) (hts _ mw_127) (fun _ h9 => h9) rfl d_Me_feedNumber_8 ?_
  refine lv_aload_n hx hb d_Me_feedNumber_11 rfl (lv_at hl 1 rfl) ?_
  refine va_get (D := (dC, dI)) (ci := 3) (v := .int 12) (C := R_Me) (T := F_Me) (N := 5) hx hb hts i_Me hown hK hP 0 rfl rfl 3 (by decide) (hts _ mw_130) (fun _ h9 => h9) rfl d_Me_feedNumber_12 ?_
  refine lv_iload_n hx hb d_Me_feedNumber_15 rfl (lv_at hl 2 rfl) ?_
  refine lv_iload_n hx hb d_Me_feedNumber_16 rfl (lv_at hl 0 rfl) ?_
  refine lv_ishr hx hb d_Me_feedNumber_17 ?_
  refine lv_topi (fun z1 ez1 => ?_)
  refine lv_i2b hx hb d_Me_feedNumber_18 rfl ?_
  refine va_bast hx hb hK hP hD hS 1 0 rfl rfl (by unfold vp_in; decide) d_Me_feedNumber_19 (fun H locs hP hD hS => ?_)
  have hP : va_P (dC, dI) classes [(xe, .inr (3, [.ref xm, .ref e1, .ref e2, .int 12, .int 0])), (e1, .inl (c1, 400, .inl (upd fb (12 : Int32).toNatClampNeg (vp_nar .byte z1.toInt8.toInt32))))] H := hP
  have hD : va_D A [(xe, .inr (3, [.ref xm, .ref e1, .ref e2, .int 12, .int 0])), (e1, .inl (c1, 400, .inl (upd fb (12 : Int32).toNatClampNeg (vp_nar .byte z1.toInt8.toInt32))))] := hD
  obtain ⟨f2, ef2⟩ : ∃ f : Nat → Int32, f = upd fb (12 : Int32).toNatClampNeg (vp_nar .byte z1.toInt8.toInt32) := ⟨_, rfl⟩
  rw [← ef2] at hP hD
  refine lv_aload_n hx hb d_Me_feedNumber_20 rfl (lv_at hl 1 rfl) ?_
  refine lv_dup hx hb d_Me_feedNumber_21 rfl ?_
  refine va_get (D := (dC, dI)) (ci := 3) (v := .int 12) (C := R_Me) (T := F_Me) (N := 5) hx hb hts i_Me hown hK hP 0 rfl rfl 3 (by decide) (hts _ mw_130) (fun _ h9 => h9) rfl d_Me_feedNumber_22 ?_
  refine lv_iconst (v := 1) hx hb d_Me_feedNumber_25 (by decide) ?_
  refine lv_iadd hx hb d_Me_feedNumber_26 ?_
  refine lv_topi (fun z3 ez3 => ?_)
  obtain rfl : z3 = 13 := ez3.trans (by decide)
  refine va_put (D := (dC, dI)) (ci := 3) (v := .int 13) (ty := .int) (C := R_Me) (T := F_Me) (N := 5) hx hb hts i_Me t_Me t_Me_ok n_Me hown hK hP hD hS 0 rfl rfl 3 (by decide) (hts _ mw_130) (fun _ h9 => h9) rfl (by decide +kernel) rfl rfl (Nat.le_of_ble_eq_true rfl) d_Me_feedNumber_27 (fun H locs hP hD hS => ?_)
  have hP : va_P (dC, dI) classes [(xe, .inr (3, [.ref xm, .ref e1, .ref e2, .int 13, .int 0])), (e1, .inl (c1, 400, .inl f2))] H := hP
  have hD : va_D A [(xe, .inr (3, [.ref xm, .ref e1, .ref e2, .int 13, .int 0])), (e1, .inl (c1, 400, .inl f2))] := hD
  refine lv_iinc (v := 16) (lv' := [(2, .int 16), (0, .ref xe), (1, .int v)]) hx hb d_Me_feedNumber_30 hl (k := 0) rfl (by decide) (by decide) rfl (fun ls hl => ?_)
  refine lv_goto (tgt := 3) hx hb d_Me_feedNumber_33 (by decide) ?_
  refine lv_iload_n hx hb d_Me_feedNumber_3 rfl (lv_at hl 0 rfl) ?_
  refine lv_if_lt (tgt := 36) hx hb d_Me_feedNumber_4 (by decide) (fun h => absurd h (by decide)) (fun _ => ?_)
  refine lv_aload_n hx hb d_Me_feedNumber_7 rfl (lv_at hl 1 rfl) ?_
  refine va_get (D := (dC, dI)) (ci := 3) (v := .ref e1) (C := R_Me) (T := F_Me) (N := 5) hx hb hts i_Me hown hK hP 0 rfl rfl 1 (by decide) (hts _ mw_127) (fun _ h9 => h9) rfl d_Me_feedNumber_8 ?_
  refine lv_aload_n hx hb d_Me_feedNumber_11 rfl (lv_at hl 1 rfl) ?_
  refine va_get (D := (dC, dI)) (ci := 3) (v := .int 13) (C := R_Me) (T := F_Me) (N := 5) hx hb hts i_Me hown hK hP 0 rfl rfl 3 (by decide) (hts _ mw_130) (fun _ h9 => h9) rfl d_Me_feedNumber_12 ?_
  refine lv_iload_n hx hb d_Me_feedNumber_15 rfl (lv_at hl 2 rfl) ?_
  refine lv_iload_n hx hb d_Me_feedNumber_16 rfl (lv_at hl 0 rfl) ?_
  refine lv_ishr hx hb d_Me_feedNumber_17 ?_
  refine lv_topi (fun z4 ez4 => ?_)
  refine lv_i2b hx hb d_Me_feedNumber_18 rfl ?_
  refine va_bast hx hb hK hP hD hS 1 0 rfl rfl (by unfold vp_in; decide) d_Me_feedNumber_19 (fun H locs hP hD hS => ?_)
  have hP : va_P (dC, dI) classes [(xe, .inr (3, [.ref xm, .ref e1, .ref e2, .int 13, .int 0])), (e1, .inl (c1, 400, .inl (upd f2 (13 : Int32).toNatClampNeg (vp_nar .byte z4.toInt8.toInt32))))] H := hP
  have hD : va_D A [(xe, .inr (3, [.ref xm, .ref e1, .ref e2, .int 13, .int 0])), (e1, .inl (c1, 400, .inl (upd f2 (13 : Int32).toNatClampNeg (vp_nar .byte z4.toInt8.toInt32))))] := hD
  obtain ⟨f5, ef5⟩ : ∃ f : Nat → Int32, f = upd f2 (13 : Int32).toNatClampNeg (vp_nar .byte z4.toInt8.toInt32) := ⟨_, rfl⟩
  rw [← ef5] at hP hD
  refine lv_aload_n hx hb d_Me_feedNumber_20 rfl (lv_at hl 1 rfl) ?_
  refine lv_dup hx hb d_Me_feedNumber_21 rfl ?_
  refine va_get (D := (dC, dI)) (ci := 3) (v := .int 13) (C := R_Me) (T := F_Me) (N := 5) hx hb hts i_Me hown hK hP 0 rfl rfl 3 (by decide) (hts _ mw_130) (fun _ h9 => h9) rfl d_Me_feedNumber_22 ?_
  refine lv_iconst (v := 1) hx hb d_Me_feedNumber_25 (by decide) ?_
  refine lv_iadd hx hb d_Me_feedNumber_26 ?_
  refine lv_topi (fun z6 ez6 => ?_)
  obtain rfl : z6 = 14 := ez6.trans (by decide)
  refine va_put (D := (dC, dI)) (ci := 3) (v := .int 14) (ty := .int) (C := R_Me) (T := F_Me) (N := 5) hx hb hts i_Me t_Me t_Me_ok n_Me hown hK hP hD hS 0 rfl rfl 3 (by decide) (hts _ mw_130) (fun _ h9 => h9) rfl (by decide +kernel) rfl rfl (Nat.le_of_ble_eq_true rfl) d_Me_feedNumber_27 (fun H locs hP hD hS => ?_)
  have hP : va_P (dC, dI) classes [(xe, .inr (3, [.ref xm, .ref e1, .ref e2, .int 14, .int 0])), (e1, .inl (c1, 400, .inl f5))] H := hP
  have hD : va_D A [(xe, .inr (3, [.ref xm, .ref e1, .ref e2, .int 14, .int 0])), (e1, .inl (c1, 400, .inl f5))] := hD
  refine lv_iinc (v := 8) (lv' := [(2, .int 8), (0, .ref xe), (1, .int v)]) hx hb d_Me_feedNumber_30 hl (k := 0) rfl (by decide) (by decide) rfl (fun ls hl => ?_)
  refine lv_goto (tgt := 3) hx hb d_Me_feedNumber_33 (by decide) ?_
  refine lv_iload_n hx hb d_Me_feedNumber_3 rfl (lv_at hl 0 rfl) ?_
  refine lv_if_lt (tgt := 36) hx hb d_Me_feedNumber_4 (by decide) (fun h => absurd h (by decide)) (fun _ => ?_)
  refine lv_aload_n hx hb d_Me_feedNumber_7 rfl (lv_at hl 1 rfl) ?_
  refine va_get (D := (dC, dI)) (ci := 3) (v := .ref e1) (C := R_Me) (T := F_Me) (N := 5) hx hb hts i_Me hown hK hP 0 rfl rfl 1 (by decide) (hts _ mw_127) (fun _ h9 => h9) rfl d_Me_feedNumber_8 ?_
  refine lv_aload_n hx hb d_Me_feedNumber_11 rfl (lv_at hl 1 rfl) ?_
  refine va_get (D := (dC, dI)) (ci := 3) (v := .int 14) (C := R_Me) (T := F_Me) (N := 5) hx hb hts i_Me hown hK hP 0 rfl rfl 3 (by decide) (hts _ mw_130) (fun _ h9 => h9) rfl d_Me_feedNumber_12 ?_
  refine lv_iload_n hx hb d_Me_feedNumber_15 rfl (lv_at hl 2 rfl) ?_
  refine lv_iload_n hx hb d_Me_feedNumber_16 rfl (lv_at hl 0 rfl) ?_
  refine lv_ishr hx hb d_Me_feedNumber_17 ?_
  refine lv_topi (fun z7 ez7 => ?_)
  refine lv_i2b hx hb d_Me_feedNumber_18 rfl ?_
  refine va_bast hx hb hK hP hD hS 1 0 rfl rfl (by unfold vp_in; decide) d_Me_feedNumber_19 (fun H locs hP hD hS => ?_)
  have hP : va_P (dC, dI) classes [(xe, .inr (3, [.ref xm, .ref e1, .ref e2, .int 14, .int 0])), (e1, .inl (c1, 400, .inl (upd f5 (14 : Int32).toNatClampNeg (vp_nar .byte z7.toInt8.toInt32))))] H := hP
  have hD : va_D A [(xe, .inr (3, [.ref xm, .ref e1, .ref e2, .int 14, .int 0])), (e1, .inl (c1, 400, .inl (upd f5 (14 : Int32).toNatClampNeg (vp_nar .byte z7.toInt8.toInt32))))] := hD
  obtain ⟨f8, ef8⟩ : ∃ f : Nat → Int32, f = upd f5 (14 : Int32).toNatClampNeg (vp_nar .byte z7.toInt8.toInt32) := ⟨_, rfl⟩
  rw [← ef8] at hP hD
  refine lv_aload_n hx hb d_Me_feedNumber_20 rfl (lv_at hl 1 rfl) ?_
  refine lv_dup hx hb d_Me_feedNumber_21 rfl ?_
  refine va_get (D := (dC, dI)) (ci := 3) (v := .int 14) (C := R_Me) (T := F_Me) (N := 5) hx hb hts i_Me hown hK hP 0 rfl rfl 3 (by decide) (hts _ mw_130) (fun _ h9 => h9) rfl d_Me_feedNumber_22 ?_
  refine lv_iconst (v := 1) hx hb d_Me_feedNumber_25 (by decide) ?_
  refine lv_iadd hx hb d_Me_feedNumber_26 ?_
  refine lv_topi (fun z9 ez9 => ?_)
  obtain rfl : z9 = 15 := ez9.trans (by decide)
  refine va_put (D := (dC, dI)) (ci := 3) (v := .int 15) (ty := .int) (C := R_Me) (T := F_Me) (N := 5) hx hb hts i_Me t_Me t_Me_ok n_Me hown hK hP hD hS 0 rfl rfl 3 (by decide) (hts _ mw_130) (fun _ h9 => h9) rfl (by decide +kernel) rfl rfl (Nat.le_of_ble_eq_true rfl) d_Me_feedNumber_27 (fun H locs hP hD hS => ?_)
  have hP : va_P (dC, dI) classes [(xe, .inr (3, [.ref xm, .ref e1, .ref e2, .int 15, .int 0])), (e1, .inl (c1, 400, .inl f8))] H := hP
  have hD : va_D A [(xe, .inr (3, [.ref xm, .ref e1, .ref e2, .int 15, .int 0])), (e1, .inl (c1, 400, .inl f8))] := hD
  refine lv_iinc (v := 0) (lv' := [(2, .int 0), (0, .ref xe), (1, .int v)]) hx hb d_Me_feedNumber_30 hl (k := 0) rfl (by decide) (by decide) rfl (fun ls hl => ?_)
  refine lv_goto (tgt := 3) hx hb d_Me_feedNumber_33 (by decide) ?_
  refine lv_iload_n hx hb d_Me_feedNumber_3 rfl (lv_at hl 0 rfl) ?_
  refine lv_if_lt (tgt := 36) hx hb d_Me_feedNumber_4 (by decide) (fun h => absurd h (by decide)) (fun _ => ?_)
  refine lv_aload_n hx hb d_Me_feedNumber_7 rfl (lv_at hl 1 rfl) ?_
  refine va_get (D := (dC, dI)) (ci := 3) (v := .ref e1) (C := R_Me) (T := F_Me) (N := 5) hx hb hts i_Me hown hK hP 0 rfl rfl 1 (by decide) (hts _ mw_127) (fun _ h9 => h9) rfl d_Me_feedNumber_8 ?_
  refine lv_aload_n hx hb d_Me_feedNumber_11 rfl (lv_at hl 1 rfl) ?_
  refine va_get (D := (dC, dI)) (ci := 3) (v := .int 15) (C := R_Me) (T := F_Me) (N := 5) hx hb hts i_Me hown hK hP 0 rfl rfl 3 (by decide) (hts _ mw_130) (fun _ h9 => h9) rfl d_Me_feedNumber_12 ?_
  refine lv_iload_n hx hb d_Me_feedNumber_15 rfl (lv_at hl 2 rfl) ?_
  refine lv_iload_n hx hb d_Me_feedNumber_16 rfl (lv_at hl 0 rfl) ?_
  refine lv_ishr hx hb d_Me_feedNumber_17 ?_
  refine lv_topi (fun z10 ez10 => ?_)
  refine lv_i2b hx hb d_Me_feedNumber_18 rfl ?_
  refine va_bast hx hb hK hP hD hS 1 0 rfl rfl (by unfold vp_in; decide) d_Me_feedNumber_19 (fun H locs hP hD hS => ?_)
  have hP : va_P (dC, dI) classes [(xe, .inr (3, [.ref xm, .ref e1, .ref e2, .int 15, .int 0])), (e1, .inl (c1, 400, .inl (upd f8 (15 : Int32).toNatClampNeg (vp_nar .byte z10.toInt8.toInt32))))] H := hP
  have hD : va_D A [(xe, .inr (3, [.ref xm, .ref e1, .ref e2, .int 15, .int 0])), (e1, .inl (c1, 400, .inl (upd f8 (15 : Int32).toNatClampNeg (vp_nar .byte z10.toInt8.toInt32))))] := hD
  obtain ⟨f11, ef11⟩ : ∃ f : Nat → Int32, f = upd f8 (15 : Int32).toNatClampNeg (vp_nar .byte z10.toInt8.toInt32) := ⟨_, rfl⟩
  rw [← ef11] at hP hD
  refine lv_aload_n hx hb d_Me_feedNumber_20 rfl (lv_at hl 1 rfl) ?_
  refine lv_dup hx hb d_Me_feedNumber_21 rfl ?_
  refine va_get (D := (dC, dI)) (ci := 3) (v := .int 15) (C := R_Me) (T := F_Me) (N := 5) hx hb hts i_Me hown hK hP 0 rfl rfl 3 (by decide) (hts _ mw_130) (fun _ h9 => h9) rfl d_Me_feedNumber_22 ?_
  refine lv_iconst (v := 1) hx hb d_Me_feedNumber_25 (by decide) ?_
  refine lv_iadd hx hb d_Me_feedNumber_26 ?_
  refine lv_topi (fun z12 ez12 => ?_)
  obtain rfl : z12 = 16 := ez12.trans (by decide)
  refine va_put (D := (dC, dI)) (ci := 3) (v := .int 16) (ty := .int) (C := R_Me) (T := F_Me) (N := 5) hx hb hts i_Me t_Me t_Me_ok n_Me hown hK hP hD hS 0 rfl rfl 3 (by decide) (hts _ mw_130) (fun _ h9 => h9) rfl (by decide +kernel) rfl rfl (Nat.le_of_ble_eq_true rfl) d_Me_feedNumber_27 (fun H locs hP hD hS => ?_)
  have hP : va_P (dC, dI) classes [(xe, .inr (3, [.ref xm, .ref e1, .ref e2, .int 16, .int 0])), (e1, .inl (c1, 400, .inl f11))] H := hP
  have hD : va_D A [(xe, .inr (3, [.ref xm, .ref e1, .ref e2, .int 16, .int 0])), (e1, .inl (c1, 400, .inl f11))] := hD
  refine lv_iinc (v := (-8)) (lv' := [(2, .int (-8)), (0, .ref xe), (1, .int v)]) hx hb d_Me_feedNumber_30 hl (k := 0) rfl (by decide) (by decide) rfl (fun ls hl => ?_)
  refine lv_goto (tgt := 3) hx hb d_Me_feedNumber_33 (by decide) ?_
  refine lv_iload_n hx hb d_Me_feedNumber_3 rfl (lv_at hl 0 rfl) ?_
  refine lv_if_lt (tgt := 36) hx hb d_Me_feedNumber_4 (by decide) (fun _ => ?_) (fun h => absurd h (by decide))
  have hP9 := hP.sub (ws' := [(xe, .inr (3, [.ref xm, .ref e1, .ref e2, .int 16, .int 0])), (e1, .inl (c1, 400, .inl f11))]) [0, 1] rfl
  have hD9 := hD.sub (ws' := [(xe, .inr (3, [.ref xm, .ref e1, .ref e2, .int 16, .int 0])), (e1, .inl (c1, 400, .inl f11))]) [0, 1] (by decide) rfl
  have hK9 := hK.sub (tys' := [(c1, .byte)]) [0] rfl
  refine W.widen (k := 0) (n := 0) (by omega) (by omega) ?_
  exact W.vret hx hb hr (fun t ht hW => ⟨⟨(), rfl, trivial, f11, by rw [ht]; exact hP9, va_K.moved hW.alike hK9, hD9⟩, hS.F ht⟩) hS.2.2 d_Me_feedNumber_36
set_option maxHeartbeats 4000000 in
set_option maxRecDepth 100000 in
theorem Me_feed_16 (l : Launch) (dC : Nat → ClassId) (dI : Nat → Nat → Nat) (sz : Nat) (xe : Nat) (xm : Nat) (e1 : Nat) (e2 : Nat) (c1 : ClassId) (fb : Nat → Int32) (v : Int32) : Met l y_Me_feedNumber (.code y_Me_feedNumber prog_6_method_2_code 3 none :: zz_W) ({ frames := 0, cells := 0, slots := 0, locals := 0 }) (va_Pc [.ref xe, .int v] (zz_B dC dI [(xe, .inr (3, [.ref xm, .ref e1, .ref e2, .int 16, .int 0])), (e1, .inl (c1, 400, .inl fb))] [(c1, .byte)] sz)) (va_Qv (fun (_ : Unit) => True) (fun (_ : Unit) (t : State) => ∃ (f11 : Nat → Int32), va_P (dC, dI) classes [(xe, .inr (3, [.ref xm, .ref e1, .ref e2, .int 20, .int 0])), (e1, .inl (c1, 400, .inl f11))] t.heap ∧ va_K (dC, dI) classes [(c1, .byte)] t ∧ va_D (va_A [(xe, .inr (3, [.ref xm, .ref e1, .ref e2, .int 16, .int 0])), (e1, .inl (c1, 400, .inl fb))] sz) [(xe, .inr (3, [.ref xm, .ref e1, .ref e2, .int 20, .int 0])), (e1, .inl (c1, 400, .inl f11))]) (va_A [(xe, .inr (3, [.ref xm, .ref e1, .ref e2, .int 16, .int 0])), (e1, .inl (c1, 400, .inl fb))] sz)) 0 0 (va_A [(xe, .inr (3, [.ref xm, .ref e1, .ref e2, .int 16, .int 0])), (e1, .inl (c1, 400, .inl fb))] sz) := by
  refine Met.ofW (cc := prog_6_method_2_code) (maxL := 3) (ret := none) (by decide) rfl ?_
  intro p e s m args below meth c s₁ B hml hv
  obtain ⟨rfl, hsz, hP, hK, hD0, hT⟩ := hv
  have hx := B.exec
  have hb := B.bytes
  have hr := B.returns
  have hts0 := atoms_spec (ws := (.code y_Me_feedNumber prog_6_method_2_code 3 none :: zz_W)) B.pre
  have hts : ∀ w ∈ zz_W, w.before _ s = true := fun w h => hts0 w (List.mem_cons_of_mem _ h)
  have hown : s.vm.findClass R_Me = some m.cls := findClass_of_methodNamed B.named
  have hlocks := B.notSynchronized
  subst hsz
  have hD := hD0.self (sz := s.heap.size)
  generalize hAe : va_A [(xe, .inr (3, [.ref xm, .ref e1, .ref e2, .int 16, .int 0])), (e1, .inl (c1, 400, .inl fb))] s.heap.size = A at hD ⊢
  have hA : ∀ q : Nat, s.heap.size ≤ q → A q := fun q h => by rw [← hAe]; exact Or.inr h
  have hS : va_S A s.heap s.heap [] := va_S.rf
  have hl := lv_entry ([.ref xe, .int v]) (n := 3) (Nat.le_of_ble_eq_true rfl)
  rw [lg_entry_eq]
  generalize (lg_sl ([.ref xe, .int v]) ++ List.replicate (3 - (lg_sl ([.ref xe, .int v])).length) Slot.unset).toArray = ls at hl ⊢
  have hl : lv_has ls 3 [(0, .ref xe), (1, .int v)] := hl
  refine lv_bipush (v := 24) hx hb d_Me_feedNumber_0 (by decide) ?_
  refine lv_istore_n (lv' := [(2, .int 24), (0, .ref xe), (1, .int v)]) hx hb d_Me_feedNumber_2 rfl hl (by decide) rfl (fun ls hl => ?_)
  refine lv_iload_n hx hb d_Me_feedNumber_3 rfl (lv_at hl 0 rfl) ?_
  refine lv_if_lt (tgt := 36) hx hb d_Me_feedNumber_4 (by decide) (fun h => absurd h (by decide)) (fun _ => ?_)
  refine lv_aload_n hx hb d_Me_feedNumber_7 rfl (lv_at hl 1 rfl) ?_
  refine va_get (D := (dC, dI)) (ci := 3) (v := .ref e1) (C := R_Me) (T := F_Me) (N := 5) hx hb hts i_Me hown hK hP 0 rfl rfl 1 (by decide) (hts _ mw_127) (fun _ h9 => h9) rfl d_Me_feedNumber_8 ?_
  refine lv_aload_n hx hb d_Me_feedNumber_11 rfl (lv_at hl 1 rfl) ?_
  refine va_get (D := (dC, dI)) (ci := 3) (v := .int 16) (C := R_Me) (T := F_Me) (N := 5) hx hb hts i_Me hown hK hP 0 rfl rfl 3 (by decide) (hts _ mw_130) (fun _ h9 => h9) rfl d_Me_feedNumber_12 ?_
  refine lv_iload_n hx hb d_Me_feedNumber_15 rfl (lv_at hl 2 rfl) ?_
  refine lv_iload_n hx hb d_Me_feedNumber_16 rfl (lv_at hl 0 rfl) ?_
  refine lv_ishr hx hb d_Me_feedNumber_17 ?_
  refine lv_topi (fun z1 ez1 => ?_)
  refine lv_i2b hx hb d_Me_feedNumber_18 rfl ?_
  refine va_bast hx hb hK hP hD hS 1 0 rfl rfl (by unfold vp_in; decide) d_Me_feedNumber_19 (fun H locs hP hD hS => ?_)
  have hP : va_P (dC, dI) classes [(xe, .inr (3, [.ref xm, .ref e1, .ref e2, .int 16, .int 0])), (e1, .inl (c1, 400, .inl (upd fb (16 : Int32).toNatClampNeg (vp_nar .byte z1.toInt8.toInt32))))] H := hP
  have hD : va_D A [(xe, .inr (3, [.ref xm, .ref e1, .ref e2, .int 16, .int 0])), (e1, .inl (c1, 400, .inl (upd fb (16 : Int32).toNatClampNeg (vp_nar .byte z1.toInt8.toInt32))))] := hD
  obtain ⟨f2, ef2⟩ : ∃ f : Nat → Int32, f = upd fb (16 : Int32).toNatClampNeg (vp_nar .byte z1.toInt8.toInt32) := ⟨_, rfl⟩
  rw [← ef2] at hP hD
  refine lv_aload_n hx hb d_Me_feedNumber_20 rfl (lv_at hl 1 rfl) ?_
  refine lv_dup hx hb d_Me_feedNumber_21 rfl ?_
  refine va_get (D := (dC, dI)) (ci := 3) (v := .int 16) (C := R_Me) (T := F_Me) (N := 5) hx hb hts i_Me hown hK hP 0 rfl rfl 3 (by decide) (hts _ mw_130) (fun _ h9 => h9) rfl d_Me_feedNumber_22 ?_
  refine lv_iconst (v := 1) hx hb d_Me_feedNumber_25 (by decide) ?_
  refine lv_iadd hx hb d_Me_feedNumber_26 ?_
  refine lv_topi (fun z3 ez3 => ?_)
  obtain rfl : z3 = 17 := ez3.trans (by decide)
  refine va_put (D := (dC, dI)) (ci := 3) (v := .int 17) (ty := .int) (C := R_Me) (T := F_Me) (N := 5) hx hb hts i_Me t_Me t_Me_ok n_Me hown hK hP hD hS 0 rfl rfl 3 (by decide) (hts _ mw_130) (fun _ h9 => h9) rfl (by decide +kernel) rfl rfl (Nat.le_of_ble_eq_true rfl) d_Me_feedNumber_27 (fun H locs hP hD hS => ?_)
  have hP : va_P (dC, dI) classes [(xe, .inr (3, [.ref xm, .ref e1, .ref e2, .int 17, .int 0])), (e1, .inl (c1, 400, .inl f2))] H := hP
  have hD : va_D A [(xe, .inr (3, [.ref xm, .ref e1, .ref e2, .int 17, .int 0])), (e1, .inl (c1, 400, .inl f2))] := hD
  refine lv_iinc (v := 16) (lv' := [(2, .int 16), (0, .ref xe), (1, .int v)]) hx hb d_Me_feedNumber_30 hl (k := 0) rfl (by decide) (by decide) rfl (fun ls hl => ?_)
  refine lv_goto (tgt := 3) hx hb d_Me_feedNumber_33 (by decide) ?_
  refine lv_iload_n hx hb d_Me_feedNumber_3 rfl (lv_at hl 0 rfl) ?_
  refine lv_if_lt (tgt := 36) hx hb d_Me_feedNumber_4 (by decide) (fun h => absurd h (by decide)) (fun _ => ?_)
  refine lv_aload_n hx hb d_Me_feedNumber_7 rfl (lv_at hl 1 rfl) ?_
  refine va_get (D := (dC, dI)) (ci := 3) (v := .ref e1) (C := R_Me) (T := F_Me) (N := 5) hx hb hts i_Me hown hK hP 0 rfl rfl 1 (by decide) (hts _ mw_127) (fun _ h9 => h9) rfl d_Me_feedNumber_8 ?_
  refine lv_aload_n hx hb d_Me_feedNumber_11 rfl (lv_at hl 1 rfl) ?_
  refine va_get (D := (dC, dI)) (ci := 3) (v := .int 17) (C := R_Me) (T := F_Me) (N := 5) hx hb hts i_Me hown hK hP 0 rfl rfl 3 (by decide) (hts _ mw_130) (fun _ h9 => h9) rfl d_Me_feedNumber_12 ?_
  refine lv_iload_n hx hb d_Me_feedNumber_15 rfl (lv_at hl 2 rfl) ?_
  refine lv_iload_n hx hb d_Me_feedNumber_16 rfl (lv_at hl 0 rfl) ?_
  refine lv_ishr hx hb d_Me_feedNumber_17 ?_
  refine lv_topi (fun z4 ez4 => ?_)
  refine lv_i2b hx hb d_Me_feedNumber_18 rfl ?_
  refine va_bast hx hb hK hP hD hS 1 0 rfl rfl (by unfold vp_in; decide) d_Me_feedNumber_19 (fun H locs hP hD hS => ?_)
  have hP : va_P (dC, dI) classes [(xe, .inr (3, [.ref xm, .ref e1, .ref e2, .int 17, .int 0])), (e1, .inl (c1, 400, .inl (upd f2 (17 : Int32).toNatClampNeg (vp_nar .byte z4.toInt8.toInt32))))] H := hP
  have hD : va_D A [(xe, .inr (3, [.ref xm, .ref e1, .ref e2, .int 17, .int 0])), (e1, .inl (c1, 400, .inl (upd f2 (17 : Int32).toNatClampNeg (vp_nar .byte z4.toInt8.toInt32))))] := hD
  obtain ⟨f5, ef5⟩ : ∃ f : Nat → Int32, f = upd f2 (17 : Int32).toNatClampNeg (vp_nar .byte z4.toInt8.toInt32) := ⟨_, rfl⟩
  rw [← ef5] at hP hD
  refine lv_aload_n hx hb d_Me_feedNumber_20 rfl (lv_at hl 1 rfl) ?_
  refine lv_dup hx hb d_Me_feedNumber_21 rfl ?_
  refine va_get (D := (dC, dI)) (ci := 3) (v := .int 17) (C := R_Me) (T := F_Me) (N := 5) hx hb hts i_Me hown hK hP 0 rfl rfl 3 (by decide) (hts _ mw_130) (fun _ h9 => h9) rfl d_Me_feedNumber_22 ?_
  refine lv_iconst (v := 1) hx hb d_Me_feedNumber_25 (by decide) ?_
  refine lv_iadd hx hb d_Me_feedNumber_26 ?_
  refine lv_topi (fun z6 ez6 => ?_)
  obtain rfl : z6 = 18 := ez6.trans (by decide)
  refine va_put (D := (dC, dI)) (ci := 3) (v := .int 18) (ty := .int) (C := R_Me) (T := F_Me) (N := 5) hx hb hts i_Me t_Me t_Me_ok n_Me hown hK hP hD hS 0 rfl rfl 3 (by decide) (hts _ mw_130) (fun _ h9 => h9) rfl (by decide +kernel) rfl rfl (Nat.le_of_ble_eq_true rfl) d_Me_feedNumber_27 (fun H locs hP hD hS => ?_)
  have hP : va_P (dC, dI) classes [(xe, .inr (3, [.ref xm, .ref e1, .ref e2, .int 18, .int 0])), (e1, .inl (c1, 400, .inl f5))] H := hP
  have hD : va_D A [(xe, .inr (3, [.ref xm, .ref e1, .ref e2, .int 18, .int 0])), (e1, .inl (c1, 400, .inl f5))] := hD
  refine lv_iinc (v := 8) (lv' := [(2, .int 8), (0, .ref xe), (1, .int v)]) hx hb d_Me_feedNumber_30 hl (k := 0) rfl (by decide) (by decide) rfl (fun ls hl => ?_)
  refine lv_goto (tgt := 3) hx hb d_Me_feedNumber_33 (by decide) ?_
  refine lv_iload_n hx hb d_Me_feedNumber_3 rfl (lv_at hl 0 rfl) ?_
  refine lv_if_lt (tgt := 36) hx hb d_Me_feedNumber_4 (by decide) (fun h => absurd h (by decide)) (fun _ => ?_)
  refine lv_aload_n hx hb d_Me_feedNumber_7 rfl (lv_at hl 1 rfl) ?_
  refine va_get (D := (dC, dI)) (ci := 3) (v := .ref e1) (C := R_Me) (T := F_Me) (N := 5) hx hb hts i_Me hown hK hP 0 rfl rfl 1 (by decide) (hts _ mw_127) (fun _ h9 => h9) rfl d_Me_feedNumber_8 ?_
  refine lv_aload_n hx hb d_Me_feedNumber_11 rfl (lv_at hl 1 rfl) ?_
  refine va_get (D := (dC, dI)) (ci := 3) (v := .int 18) (C := R_Me) (T := F_Me) (N := 5) hx hb hts i_Me hown hK hP 0 rfl rfl 3 (by decide) (hts _ mw_130) (fun _ h9 => h9) rfl d_Me_feedNumber_12 ?_
  refine lv_iload_n hx hb d_Me_feedNumber_15 rfl (lv_at hl 2 rfl) ?_
  refine lv_iload_n hx hb d_Me_feedNumber_16 rfl (lv_at hl 0 rfl) ?_
  refine lv_ishr hx hb d_Me_feedNumber_17 ?_
  refine lv_topi (fun z7 ez7 => ?_)
  refine lv_i2b hx hb d_Me_feedNumber_18 rfl ?_
  refine va_bast hx hb hK hP hD hS 1 0 rfl rfl (by unfold vp_in; decide) d_Me_feedNumber_19 (fun H locs hP hD hS => ?_)
  have hP : va_P (dC, dI) classes [(xe, .inr (3, [.ref xm, .ref e1, .ref e2, .int 18, .int 0])), (e1, .inl (c1, 400, .inl (upd f5 (18 : Int32).toNatClampNeg (vp_nar .byte z7.toInt8.toInt32))))] H := hP
  have hD : va_D A [(xe, .inr (3, [.ref xm, .ref e1, .ref e2, .int 18, .int 0])), (e1, .inl (c1, 400, .inl (upd f5 (18 : Int32).toNatClampNeg (vp_nar .byte z7.toInt8.toInt32))))] := hD
  obtain ⟨f8, ef8⟩ : ∃ f : Nat → Int32, f = upd f5 (18 : Int32).toNatClampNeg (vp_nar .byte z7.toInt8.toInt32) := ⟨_, rfl⟩
  rw [← ef8] at hP hD
  refine lv_aload_n hx hb d_Me_feedNumber_20 rfl (lv_at hl 1 rfl) ?_
  refine lv_dup hx hb d_Me_feedNumber_21 rfl ?_
  refine va_get (D := (dC, dI)) (ci := 3) (v := .int 18) (C := R_Me) (T := F_Me) (N := 5) hx hb hts i_Me hown hK hP 0 rfl rfl 3 (by decide) (hts _ mw_130) (fun _ h9 => h9) rfl d_Me_feedNumber_22 ?_
  refine lv_iconst (v := 1) hx hb d_Me_feedNumber_25 (by decide) ?_
  refine lv_iadd hx hb d_Me_feedNumber_26 ?_
  refine lv_topi (fun z9 ez9 => ?_)
  obtain rfl : z9 = 19 := ez9.trans (by decide)
  refine va_put (D := (dC, dI)) (ci := 3) (v := .int 19) (ty := .int) (C := R_Me) (T := F_Me) (N := 5) hx hb hts i_Me t_Me t_Me_ok n_Me hown hK hP hD hS 0 rfl rfl 3 (by decide) (hts _ mw_130) (fun _ h9 => h9) rfl (by decide +kernel) rfl rfl (Nat.le_of_ble_eq_true rfl) d_Me_feedNumber_27 (fun H locs hP hD hS => ?_)
  have hP : va_P (dC, dI) classes [(xe, .inr (3, [.ref xm, .ref e1, .ref e2, .int 19, .int 0])), (e1, .inl (c1, 400, .inl f8))] H := hP
  have hD : va_D A [(xe, .inr (3, [.ref xm, .ref e1, .ref e2, .int 19, .int 0])), (e1, .inl (c1, 400, .inl f8))] := hD
  refine lv_iinc (v := 0) (lv' := [(2, .int 0), (0, .ref xe), (1, .int v)]) hx hb d_Me_feedNumber_30 hl (k := 0) rfl (by decide) (by decide) rfl (fun ls hl => ?_)
  refine lv_goto (tgt := 3) hx hb d_Me_feedNumber_33 (by decide) ?_
  refine lv_iload_n hx hb d_Me_feedNumber_3 rfl (lv_at hl 0 rfl) ?_
  refine lv_if_lt (tgt := 36) hx hb d_Me_feedNumber_4 (by decide) (fun h => absurd h (by decide)) (fun _ => ?_)
  refine lv_aload_n hx hb d_Me_feedNumber_7 rfl (lv_at hl 1 rfl) ?_
  refine va_get (D := (dC, dI)) (ci := 3) (v := .ref e1) (C := R_Me) (T := F_Me) (N := 5) hx hb hts i_Me hown hK hP 0 rfl rfl 1 (by decide) (hts _ mw_127) (fun _ h9 => h9) rfl d_Me_feedNumber_8 ?_
  refine lv_aload_n hx hb d_Me_feedNumber_11 rfl (lv_at hl 1 rfl) ?_
  refine va_get (D := (dC, dI)) (ci := 3) (v := .int 19) (C := R_Me) (T := F_Me) (N := 5) hx hb hts i_Me hown hK hP 0 rfl rfl 3 (by decide) (hts _ mw_130) (fun _ h9 => h9) rfl d_Me_feedNumber_12 ?_
  refine lv_iload_n hx hb d_Me_feedNumber_15 rfl (lv_at hl 2 rfl) ?_
  refine lv_iload_n hx hb d_Me_feedNumber_16 rfl (lv_at hl 0 rfl) ?_
  refine lv_ishr hx hb d_Me_feedNumber_17 ?_
  refine lv_topi (fun z10 ez10 => ?_)
  refine lv_i2b hx hb d_Me_feedNumber_18 rfl ?_
  refine va_bast hx hb hK hP hD hS 1 0 rfl rfl (by unfold vp_in; decide) d_Me_feedNumber_19 (fun H locs hP hD hS => ?_)
  have hP : va_P (dC, dI) classes [(xe, .inr (3, [.ref xm, .ref e1, .ref e2, .int 19, .int 0])), (e1, .inl (c1, 400, .inl (upd f8 (19 : Int32).toNatClampNeg (vp_nar .byte z10.toInt8.toInt32))))] H := hP
  have hD : va_D A [(xe, .inr (3, [.ref xm, .ref e1, .ref e2, .int 19, .int 0])), (e1, .inl (c1, 400, .inl (upd f8 (19 : Int32).toNatClampNeg (vp_nar .byte z10.toInt8.toInt32))))] := hD
  obtain ⟨f11, ef11⟩ : ∃ f : Nat → Int32, f = upd f8 (19 : Int32).toNatClampNeg (vp_nar .byte z10.toInt8.toInt32) := ⟨_, rfl⟩
  rw [← ef11] at hP hD
  refine lv_aload_n hx hb d_Me_feedNumber_20 rfl (lv_at hl 1 rfl) ?_
  refine lv_dup hx hb d_Me_feedNumber_21 rfl ?_
  refine va_get (D := (dC, dI)) (ci := 3) (v := .int 19) (C := R_Me) (T := F_Me) (N := 5) hx hb hts i_Me hown hK hP 0 rfl rfl 3 (by decide) (hts _ mw_130) (fun _ h9 => h9) rfl d_Me_feedNumber_22 ?_
  refine lv_iconst (v := 1) hx hb d_Me_feedNumber_25 (by decide) ?_
  refine lv_iadd hx hb d_Me_feedNumber_26 ?_
  refine lv_topi (fun z12 ez12 => ?_)
  obtain rfl : z12 = 20 := ez12.trans (by decide)
  refine va_put (D := (dC, dI)) (ci := 3) (v := .int 20) (ty := .int) (C := R_Me) (T := F_Me) (N := 5) hx hb hts i_Me t_Me t_Me_ok n_Me hown hK hP hD hS 0 rfl rfl 3 (by decide) (hts _ mw_130) (fun _ h9 => h9) rfl (by decide +kernel) rfl rfl (Nat.le_of_ble_eq_true rfl) d_Me_feedNumber_27 (fun H locs hP hD hS => ?_)
  have hP : va_P (dC, dI) classes [(xe, .inr (3, [.ref xm, .ref e1, .ref e2, .int 20, .int 0])), (e1, .inl (c1, 400, .inl f11))] H := hP
  have hD : va_D A [(xe, .inr (3, [.ref xm, .ref e1, .ref e2, .int 20, .int 0])), (e1, .inl (c1, 400, .inl f11))] := hD
  refine lv_iinc (v := (-8)) (lv' := [(2, .int (-8)), (0, .ref xe), (1, .int v)]) hx hb d_Me_feedNumber_30 hl (k := 0) rfl (by decide) (by decide) rfl (fun ls hl => ?_)
  refine lv_goto (tgt := 3) hx hb d_Me_feedNumber_33 (by decide) ?_
  refine lv_iload_n hx hb d_Me_feedNumber_3 rfl (lv_at hl 0 rfl) ?_
  refine lv_if_lt (tgt := 36) hx hb d_Me_feedNumber_4 (by decide) (fun _ => ?_) (fun h => absurd h (by decide))
  have hP9 := hP.sub (ws' := [(xe, .inr (3, [.ref xm, .ref e1, .ref e2, .int 20, .int 0])), (e1, .inl (c1, 400, .inl f11))]) [0, 1] rfl
  have hD9 := hD.sub (ws' := [(xe, .inr (3, [.ref xm, .ref e1, .ref e2, .int 20, .int 0])), (e1, .inl (c1, 400, .inl f11))]) [0, 1] (by decide) rfl
  have hK9 := hK.sub (tys' := [(c1, .byte)]) [0] rfl
  refine W.widen (k := 0) (n := 0) (by omega) (by omega) ?_
  exact W.vret hx hb hr (fun t ht hW => ⟨⟨(), rfl, trivial, f11, by rw [ht]; exact hP9, va_K.moved hW.alike hK9, hD9⟩, hS.F ht⟩) hS.2.2 d_Me_feedNumber_36
set_option maxHeartbeats 4000000 in
set_option maxRecDepth 100000 in
theorem FG_feed (l : Launch) (dC : Nat → ClassId) (dI : Nat → Nat → Nat) (sz : Nat) (x0 : Nat) (xp : Nat) (xm : Nat) (xe : Nat) (xf : Nat) (xc : Nat) (xr : Nat) (e1 : Nat) (e2 : Nat) (c1 : ClassId) (a0 : Int32) (a1 : Int32) (a2 : Int32) (a3 : Int32) (a4 : Int32) : Met l y_FG_feed (.code y_FG_feed prog_1_method_6_code 6 (some .int) :: zz_W) ({ frames := 1, cells := 0, slots := 0, locals := 22 }) (va_Pc [.ref x0, .int a0, .int a1, .int a2, .int a3, .int a4] (zz_B dC dI [(x0, .inr (0, [.ref xp, .ref xm, .ref xe, .ref xf, .ref xc, .ref xr, .int 0])), (xe, .inr (3, [.ref xm, .ref e1, .ref e2, .int 0, .int 0])), (e1, .inl (c1, 400, .inl (fun _ => 0)))] [(c1, .byte)] sz)) (va_Qi (fun (r : Int32) (_ : Unit) => r = 20) (fun (_ : Unit) (t : State) => va_P (dC, dI) classes [] t.heap ∧ va_K (dC, dI) classes [] t ∧ va_D (va_A [(x0, .inr (0, [.ref xp, .ref xm, .ref xe, .ref xf, .ref xc, .ref xr, .int 0])), (xe, .inr (3, [.ref xm, .ref e1, .ref e2, .int 0, .int 0])), (e1, .inl (c1, 400, .inl (fun _ => 0)))] sz) []) (va_A [(x0, .inr (0, [.ref xp, .ref xm, .ref xe, .ref xf, .ref xc, .ref xr, .int 0])), (xe, .inr (3, [.ref xm, .ref e1, .ref e2, .int 0, .int 0])), (e1, .inl (c1, 400, .inl (fun _ => 0)))] sz)) 0 0 (va_A [(x0, .inr (0, [.ref xp, .ref xm, .ref xe, .ref xf, .ref xc, .ref xr, .int 0])), (xe, .inr (3, [.ref xm, .ref e1, .ref e2, .int 0, .int 0])), (e1, .inl (c1, 400, .inl (fun _ => 0)))] sz) := by
  refine Met.ofW (cc := prog_1_method_6_code) (maxL := 6) (ret := (some .int)) (by decide) rfl ?_
  intro p e s m args below meth c s₁ B hml hv
  obtain ⟨rfl, hsz, hP, hK, hD0, hT⟩ := hv
  have hx := B.exec
  have hb := B.bytes
  have hr := B.returns
  have hts0 := atoms_spec (ws := (.code y_FG_feed prog_1_method_6_code 6 (some .int) :: zz_W)) B.pre
  have hts : ∀ w ∈ zz_W, w.before _ s = true := fun w h => hts0 w (List.mem_cons_of_mem _ h)
  have hown : s.vm.findClass R_FG = some m.cls := findClass_of_methodNamed B.named
  have hlocks := B.notSynchronized
  subst hsz
  have hD := hD0.self (sz := s.heap.size)
  generalize hAe : va_A [(x0, .inr (0, [.ref xp, .ref xm, .ref xe, .ref xf, .ref xc, .ref xr, .int 0])), (xe, .inr (3, [.ref xm, .ref e1, .ref e2, .int 0, .int 0])), (e1, .inl (c1, 400, .inl (fun _ => 0)))] s.heap.size = A at hD ⊢
  have hA : ∀ q : Nat, s.heap.size ≤ q → A q := fun q h => by rw [← hAe]; exact Or.inr h
  have hS : va_S A s.heap s.heap [] := va_S.rf
  have hl := lv_entry ([.ref x0, .int a0, .int a1, .int a2, .int a3, .int a4]) (n := 6) (Nat.le_of_ble_eq_true rfl)
  rw [lg_entry_eq]
  generalize (lg_sl ([.ref x0, .int a0, .int a1, .int a2, .int a3, .int a4]) ++ List.replicate (6 - (lg_sl ([.ref x0, .int a0, .int a1, .int a2, .int a3, .int a4])).length) Slot.unset).toArray = ls at hl ⊢
  have hl : lv_has ls 6 [(0, .ref x0), (1, .int a0), (2, .int a1), (3, .int a2), (4, .int a3), (5, .int a4)] := hl
  refine lv_aload_n hx hb d_FG_feed_0 rfl (lv_at hl 0 rfl) ?_
  refine va_get (D := (dC, dI)) (ci := 0) (v := .ref xe) (C := R_FG) (T := F_FG) (N := 7) hx hb hts i_FG hown hK hP 0 rfl rfl 2 (by decide) (hts _ mw_325) (fun _ h9 => h9) rfl d_FG_feed_1 ?_
  refine va_get (D := (dC, dI)) (ci := 3) (v := .int 0) (C := R_Me) (T := F_Me) (N := 5) hx hb hts i_Me hown hK hP 1 rfl rfl 3 (by decide) (hts _ mw_132) (fun _ h9 => h9) rfl d_FG_feed_4 ?_
  refine lv_bipush (v := 20) hx hb d_FG_feed_7 (by decide) ?_
  refine lv_iadd hx hb d_FG_feed_9 ?_
  refine lv_topi (fun z1 ez1 => ?_)
  obtain rfl : z1 = 20 := ez1.trans (by decide)
  refine lv_sipush (v := 400) hx hb d_FG_feed_10 (by decide) ?_
  refine lv_icmp_le (tgt := 26) hx hb d_FG_feed_13 (by decide) (fun _ => ?_) (fun h => absurd h (by decide))
  refine lv_aload_n hx hb d_FG_feed_26 rfl (lv_at hl 0 rfl) ?_
  refine va_get (D := (dC, dI)) (ci := 0) (v := .ref xe) (C := R_FG) (T := F_FG) (N := 7) hx hb hts i_FG hown hK hP 0 rfl rfl 2 (by decide) (hts _ mw_325) (fun _ h9 => h9) rfl d_FG_feed_27 ?_
  refine lv_iload_n hx hb d_FG_feed_30 rfl (lv_at hl 1 rfl) ?_
  have hPc := hP.sub (ws' := [(xe, .inr (3, [.ref xm, .ref e1, .ref e2, .int 0, .int 0])), (e1, .inl (c1, 400, .inl (fun _ => 0)))]) [1, 2] rfl
  have hKc := hK.sub (tys' := [(c1, .byte)]) [0] rfl
  have hDc := hD.sub (ws' := [(xe, .inr (3, [.ref xm, .ref e1, .ref e2, .int 0, .int 0])), (e1, .inl (c1, 400, .inl (fun _ => 0)))]) [1, 2] (by decide) rfl
  have hFc := va_free (wc := [(xe, .inr (3, [.ref xm, .ref e1, .ref e2, .int 0, .int 0])), (e1, .inl (c1, 400, .inl (fun _ => 0)))]) hD hS hA [1, 2] rfl
  refine va_callv (va_runV (As := [.int a0]) (rest := []) ⟨hx, hb, hml, hown, hts⟩ (Me_feed_0 l dC dI s.heap.size xe xm e1 e2 c1 (fun _ => 0) a0) (zz_cV 1 hts mw_858 mw_861 mw_4 mw_859 mw_860 rfl rfl hd_Me_feedNumber ⟨Nat.le_of_ble_eq_true rfl, Nat.le_of_ble_eq_true rfl⟩) ⟨zz_blind, va_recv hKc hPc (ci := 3) (q0 := 0) rfl rfl, fun U hU hW => ⟨rfl, zz_pre hPc hKc hDc hT U hU hW⟩⟩ rfl rfl hl.1 rfl (lv_room (Nat.le_of_ble_eq_true rfl)) d_FG_feed_31 ⟨(Nat.le_of_ble_eq_true rfl), (Nat.le_of_ble_eq_true rfl)⟩) hS (fun q _ h => hFc q h) hFc (fun  u t H1 locs ht hvm hw hB hz1 hk1 hS => ?_)
  obtain ⟨f2, hP1, hK1, hD1⟩ := hB
  rw [ht] at hP1
  have hK1 := va_K.moved hvm.symm hK1
  obtain ⟨hP, hD⟩ := va_join (wr := [(x0, .inr (0, [.ref xp, .ref xm, .ref xe, .ref xf, .ref xc, .ref xr, .int 0]))]) (w1 := [(xe, .inr (3, [.ref xm, .ref e1, .ref e2, .int 4, .int 0])), (e1, .inl (c1, 400, .inl f2))]) hP hD [1, 2] [0] rfl rfl (by decide) (by decide) hk1 hFc hP1 hD1
  have hK := (hK.sub (tys' := []) [] rfl).app hK1
  generalize H1 = H at hP hS ⊢
  have hP : va_P (dC, dI) classes [(x0, .inr (0, [.ref xp, .ref xm, .ref xe, .ref xf, .ref xc, .ref xr, .int 0])), (xe, .inr (3, [.ref xm, .ref e1, .ref e2, .int 4, .int 0])), (e1, .inl (c1, 400, .inl f2))] H := hP
  have hD : va_D A [(x0, .inr (0, [.ref xp, .ref xm, .ref xe, .ref xf, .ref xc, .ref xr, .int 0])), (xe, .inr (3, [.ref xm, .ref e1, .ref e2, .int 4, .int 0])), (e1, .inl (c1, 400, .inl f2))] := hD
  have hK : va_K (dC, dI) classes [(c1, .byte)] s := hK
  refine lv_aload_n hx hb d_FG_feed_34 rfl (lv_at hl 0 rfl) ?_
  refine va_get (D := (dC, dI)) (ci := 0) (v := .ref xe) (C := R_FG) (T := F_FG) (N := 7) hx hb hts i_FG hown hK hP 0 rfl rfl 2 (by decide) (hts _ mw_325) (fun _ h9 => h9) rfl d_FG_feed_35 ?_
  refine lv_iload_n hx hb d_FG_feed_38 rfl (lv_at hl 2 rfl) ?_
  have hPc := hP.sub (ws' := [(xe, .inr (3, [.ref xm, .ref e1, .ref e2, .int 4, .int 0])), (e1, .inl (c1, 400, .inl f2))]) [1, 2] rfl
  have hKc := hK.sub (tys' := [(c1, .byte)]) [0] rfl
  have hDc := hD.sub (ws' := [(xe, .inr (3, [.ref xm, .ref e1, .ref e2, .int 4, .int 0])), (e1, .inl (c1, 400, .inl f2))]) [1, 2] (by decide) rfl
  have hFc := va_free (wc := [(xe, .inr (3, [.ref xm, .ref e1, .ref e2, .int 4, .int 0])), (e1, .inl (c1, 400, .inl f2))]) hD hS hA [1, 2] rfl
  refine va_callv (va_runV (As := [.int a1]) (rest := []) ⟨hx, hb, hml, hown, hts⟩ (Me_feed_4 l dC dI H.size xe xm e1 e2 c1 f2 a1) (zz_cV 1 hts mw_858 mw_861 mw_4 mw_859 mw_860 rfl rfl hd_Me_feedNumber ⟨Nat.le_of_ble_eq_true rfl, Nat.le_of_ble_eq_true rfl⟩) ⟨zz_blind, va_recv hKc hPc (ci := 3) (q0 := 0) rfl rfl, fun U hU hW => ⟨rfl, zz_pre hPc hKc hDc hT U hU hW⟩⟩ rfl rfl hl.1 rfl (lv_room (Nat.le_of_ble_eq_true rfl)) d_FG_feed_39 ⟨(Nat.le_of_ble_eq_true rfl), (Nat.le_of_ble_eq_true rfl)⟩) hS (fun q _ h => hFc q h) hFc (fun  u t H1 locs ht hvm hw hB hz1 hk1 hS => ?_)
  obtain ⟨f3, hP1, hK1, hD1⟩ := hB
  rw [ht] at hP1
  have hK1 := va_K.moved hvm.symm hK1
  obtain ⟨hP, hD⟩ := va_join (wr := [(x0, .inr (0, [.ref xp, .ref xm, .ref xe, .ref xf, .ref xc, .ref xr, .int 0]))]) (w1 := [(xe, .inr (3, [.ref xm, .ref e1, .ref e2, .int 8, .int 0])), (e1, .inl (c1, 400, .inl f3))]) hP hD [1, 2] [0] rfl rfl (by decide) (by decide) hk1 hFc hP1 hD1
  have hK := (hK.sub (tys' := []) [] rfl).app hK1
  generalize H1 = H at hP hS ⊢
  have hP : va_P (dC, dI) classes [(x0, .inr (0, [.ref xp, .ref xm, .ref xe, .ref xf, .ref xc, .ref xr, .int 0])), (xe, .inr (3, [.ref xm, .ref e1, .ref e2, .int 8, .int 0])), (e1, .inl (c1, 400, .inl f3))] H := hP
  have hD : va_D A [(x0, .inr (0, [.ref xp, .ref xm, .ref xe, .ref xf, .ref xc, .ref xr, .int 0])), (xe, .inr (3, [.ref xm, .ref e1, .ref e2, .int 8, .int 0])), (e1, .inl (c1, 400, .inl f3))] := hD
  have hK : va_K (dC, dI) classes [(c1, .byte)] s := hK
  refine lv_aload_n hx hb d_FG_feed_42 rfl (lv_at hl 0 rfl) ?_
  refine va_get (D := (dC, dI)) (ci := 0) (v := .ref xe) (C := R_FG) (T := F_FG) (N := 7) hx hb hts i_FG hown hK hP 0 rfl rfl 2 (by decide) (hts _ mw_325) (fun _ h9 => h9) rfl d_FG_feed_43 ?_
  refine lv_iload_n hx hb d_FG_feed_46 rfl (lv_at hl 3 rfl) ?_
  have hPc := hP.sub (ws' := [(xe, .inr (3, [.ref xm, .ref e1, .ref e2, .int 8, .int 0])), (e1, .inl (c1, 400, .inl f3))]) [1, 2] rfl
  have hKc := hK.sub (tys' := [(c1, .byte)]) [0] rfl
  have hDc := hD.sub (ws' := [(xe, .inr (3, [.ref xm, .ref e1, .ref e2, .int 8, .int 0])), (e1, .inl (c1, 400, .inl f3))]) [1, 2] (by decide) rfl
  have hFc := va_free (wc := [(xe, .inr (3, [.ref xm, .ref e1, .ref e2, .int 8, .int 0])), (e1, .inl (c1, 400, .inl f3))]) hD hS hA [1, 2] rfl
  refine va_callv (va_runV (As := [.int a2]) (rest := []) ⟨hx, hb, hml, hown, hts⟩ (Me_feed_8 l dC dI H.size xe xm e1 e2 c1 f3 a2) (zz_cV 1 hts mw_858 mw_861 mw_4 mw_859 mw_860 rfl rfl hd_Me_feedNumber ⟨Nat.le_of_ble_eq_true rfl, Nat.le_of_ble_eq_true rfl⟩) ⟨zz_blind, va_recv hKc hPc (ci := 3) (q0 := 0) rfl rfl, fun U hU hW => ⟨rfl, zz_pre hPc hKc hDc hT U hU hW⟩⟩ rfl rfl hl.1 rfl (lv_room (Nat.le_of_ble_eq_true rfl)) d_FG_feed_47 ⟨(Nat.le_of_ble_eq_true rfl), (Nat.le_of_ble_eq_true rfl)⟩) hS (fun q _ h => hFc q h) hFc (fun  u t H1 locs ht hvm hw hB hz1 hk1 hS => ?_)
  obtain ⟨f4, hP1, hK1, hD1⟩ := hB
  rw [ht] at hP1
  have hK1 := va_K.moved hvm.symm hK1
  obtain ⟨hP, hD⟩ := va_join (wr := [(x0, .inr (0, [.ref xp, .ref xm, .ref xe, .ref xf, .ref xc, .ref xr, .int 0]))]) (w1 := [(xe, .inr (3, [.ref xm, .ref e1, .ref e2, .int 12, .int 0])), (e1, .inl (c1, 400, .inl f4))]) hP hD [1, 2] [0] rfl rfl (by decide) (by decide) hk1 hFc hP1 hD1
  have hK := (hK.sub (tys' := []) [] rfl).app hK1
  generalize H1 = H at hP hS ⊢
  have hP : va_P (dC, dI) classes [(x0, .inr (0, [.ref xp, .ref xm, .ref xe, .ref xf, .ref xc, .ref xr, .int 0])), (xe, .inr (3, [.ref xm, .ref e1, .ref e2, .int 12, .int 0])), (e1, .inl (c1, 400, .inl f4))] H := hP
  have hD : va_D A [(x0, .inr (0, [.ref xp, .ref xm, .ref xe, .ref xf, .ref xc, .ref xr, .int 0])), (xe, .inr (3, [.ref xm, .ref e1, .ref e2, .int 12, .int 0])), (e1, .inl (c1, 400, .inl f4))] := hD
  have hK : va_K (dC, dI) classes [(c1, .byte)] s := hK
  refine lv_aload_n hx hb d_FG_feed_50 rfl (lv_at hl 0 rfl) ?_
  refine va_get (D := (dC, dI)) (ci := 0) (v := .ref xe) (C := R_FG) (T := F_FG) (N := 7) hx hb hts i_FG hown hK hP 0 rfl rfl 2 (by decide) (hts _ mw_325) (fun _ h9 => h9) rfl d_FG_feed_51 ?_
  refine lv_iload hx hb d_FG_feed_54 (lv_at hl 4 rfl) ?_
  have hPc := hP.sub (ws' := [(xe, .inr (3, [.ref xm, .ref e1, .ref e2, .int 12, .int 0])), (e1, .inl (c1, 400, .inl f4))]) [1, 2] rfl
  have hKc := hK.sub (tys' := [(c1, .byte)]) [0] rfl
  have hDc := hD.sub (ws' := [(xe, .inr (3, [.ref xm, .ref e1, .ref e2, .int 12, .int 0])), (e1, .inl (c1, 400, .inl f4))]) [1, 2] (by decide) rfl
  have hFc := va_free (wc := [(xe, .inr (3, [.ref xm, .ref e1, .ref e2, .int 12, .int 0])), (e1, .inl (c1, 400, .inl f4))]) hD hS hA [1, 2] rfl
  refine va_callv (va_runV (As := [.int a3]) (rest := []) ⟨hx, hb, hml, hown, hts⟩ (Me_feed_12 l dC dI H.size xe xm e1 e2 c1 f4 a3) (zz_cV 1 hts mw_858 mw_861 mw_4 mw_859 mw_860 rfl rfl hd_Me_feedNumber ⟨Nat.le_of_ble_eq_true rfl, Nat.le_of_ble_eq_true rfl⟩) ⟨zz_blind, va_recv hKc hPc (ci := 3) (q0 := 0) rfl rfl, fun U hU hW => ⟨rfl, zz_pre hPc hKc hDc hT U hU hW⟩⟩ rfl rfl hl.1 rfl (lv_room (Nat.le_of_ble_eq_true rfl)) d_FG_feed_56 ⟨(Nat.le_of_ble_eq_true rfl), (Nat.le_of_ble_eq_true rfl)⟩) hS (fun q _ h => hFc q h) hFc (fun  u t H1 locs ht hvm hw hB hz1 hk1 hS => ?_)
  obtain ⟨f5, hP1, hK1, hD1⟩ := hB
  rw [ht] at hP1
  have hK1 := va_K.moved hvm.symm hK1
  obtain ⟨hP, hD⟩ := va_join (wr := [(x0, .inr (0, [.ref xp, .ref xm, .ref xe, .ref xf, .ref xc, .ref xr, .int 0]))]) (w1 := [(xe, .inr (3, [.ref xm, .ref e1, .ref e2, .int 16, .int 0])), (e1, .inl (c1, 400, .inl f5))]) hP hD [1, 2] [0] rfl rfl (by decide) (by decide) hk1 hFc hP1 hD1
  have hK := (hK.sub (tys' := []) [] rfl).app hK1
  generalize H1 = H at hP hS ⊢
  have hP : va_P (dC, dI) classes [(x0, .inr (0, [.ref xp, .ref xm, .ref xe, .ref xf, .ref xc, .ref xr, .int 0])), (xe, .inr (3, [.ref xm, .ref e1, .ref e2, .int 16, .int 0])), (e1, .inl (c1, 400, .inl f5))] H := hP
  have hD : va_D A [(x0, .inr (0, [.ref xp, .ref xm, .ref xe, .ref xf, .ref xc, .ref xr, .int 0])), (xe, .inr (3, [.ref xm, .ref e1, .ref e2, .int 16, .int 0])), (e1, .inl (c1, 400, .inl f5))] := hD
  have hK : va_K (dC, dI) classes [(c1, .byte)] s := hK
  refine lv_aload_n hx hb d_FG_feed_59 rfl (lv_at hl 0 rfl) ?_
  refine va_get (D := (dC, dI)) (ci := 0) (v := .ref xe) (C := R_FG) (T := F_FG) (N := 7) hx hb hts i_FG hown hK hP 0 rfl rfl 2 (by decide) (hts _ mw_325) (fun _ h9 => h9) rfl d_FG_feed_60 ?_
  refine lv_iload hx hb d_FG_feed_63 (lv_at hl 5 rfl) ?_
  have hPc := hP.sub (ws' := [(xe, .inr (3, [.ref xm, .ref e1, .ref e2, .int 16, .int 0])), (e1, .inl (c1, 400, .inl f5))]) [1, 2] rfl
  have hKc := hK.sub (tys' := [(c1, .byte)]) [0] rfl
  have hDc := hD.sub (ws' := [(xe, .inr (3, [.ref xm, .ref e1, .ref e2, .int 16, .int 0])), (e1, .inl (c1, 400, .inl f5))]) [1, 2] (by decide) rfl
  have hFc := va_free (wc := [(xe, .inr (3, [.ref xm, .ref e1, .ref e2, .int 16, .int 0])), (e1, .inl (c1, 400, .inl f5))]) hD hS hA [1, 2] rfl
  refine va_callv (va_runV (As := [.int a4]) (rest := []) ⟨hx, hb, hml, hown, hts⟩ (Me_feed_16 l dC dI H.size xe xm e1 e2 c1 f5 a4) (zz_cV 1 hts mw_858 mw_861 mw_4 mw_859 mw_860 rfl rfl hd_Me_feedNumber ⟨Nat.le_of_ble_eq_true rfl, Nat.le_of_ble_eq_true rfl⟩) ⟨zz_blind, va_recv hKc hPc (ci := 3) (q0 := 0) rfl rfl, fun U hU hW => ⟨rfl, zz_pre hPc hKc hDc hT U hU hW⟩⟩ rfl rfl hl.1 rfl (lv_room (Nat.le_of_ble_eq_true rfl)) d_FG_feed_65 ⟨(Nat.le_of_ble_eq_true rfl), (Nat.le_of_ble_eq_true rfl)⟩) hS (fun q _ h => hFc q h) hFc (fun  u t H1 locs ht hvm hw hB hz1 hk1 hS => ?_)
  obtain ⟨f6, hP1, hK1, hD1⟩ := hB
  rw [ht] at hP1
  have hK1 := va_K.moved hvm.symm hK1
  obtain ⟨hP, hD⟩ := va_join (wr := [(x0, .inr (0, [.ref xp, .ref xm, .ref xe, .ref xf, .ref xc, .ref xr, .int 0]))]) (w1 := [(xe, .inr (3, [.ref xm, .ref e1, .ref e2, .int 20, .int 0])), (e1, .inl (c1, 400, .inl f6))]) hP hD [1, 2] [0] rfl rfl (by decide) (by decide) hk1 hFc hP1 hD1
  have hK := (hK.sub (tys' := []) [] rfl).app hK1
  generalize H1 = H at hP hS ⊢
  have hP : va_P (dC, dI) classes [(x0, .inr (0, [.ref xp, .ref xm, .ref xe, .ref xf, .ref xc, .ref xr, .int 0])), (xe, .inr (3, [.ref xm, .ref e1, .ref e2, .int 20, .int 0])), (e1, .inl (c1, 400, .inl f6))] H := hP
  have hD : va_D A [(x0, .inr (0, [.ref xp, .ref xm, .ref xe, .ref xf, .ref xc, .ref xr, .int 0])), (xe, .inr (3, [.ref xm, .ref e1, .ref e2, .int 20, .int 0])), (e1, .inl (c1, 400, .inl f6))] := hD
  have hK : va_K (dC, dI) classes [(c1, .byte)] s := hK
  refine lv_aload_n hx hb d_FG_feed_68 rfl (lv_at hl 0 rfl) ?_
  refine va_get (D := (dC, dI)) (ci := 0) (v := .ref xe) (C := R_FG) (T := F_FG) (N := 7) hx hb hts i_FG hown hK hP 0 rfl rfl 2 (by decide) (hts _ mw_325) (fun _ h9 => h9) rfl d_FG_feed_69 ?_
  refine va_get (D := (dC, dI)) (ci := 3) (v := .int 20) (C := R_Me) (T := F_Me) (N := 5) hx hb hts i_Me hown hK hP 1 rfl rfl 3 (by decide) (hts _ mw_132) (fun _ h9 => h9) rfl d_FG_feed_72 ?_
  have hP9 := hP.sub (ws' := []) [] rfl
  have hD9 := hD.sub (ws' := []) [] (by decide) rfl
  have hK9 := hK.sub (tys' := []) [] rfl
  refine W.widen (k := 0) (n := 0) (by omega) (by omega) ?_
  exact W.iret (v := 20) hx hb hr (fun t ht hW => ⟨⟨20, (), rfl, rfl, by rw [ht]; exact hP9, va_K.moved hW.alike hK9, hD9⟩, hS.F ht⟩) hS.2.2 d_FG_feed_75
set_option maxHeartbeats 4000000 in
set_option maxRecDepth 100000 in
theorem FG_end_ok (l : Launch) (dC : Nat → ClassId) (dI : Nat → Nat → Nat) (sz : Nat) (x0 : Nat) (xp : Nat) (xm : Nat) (xe : Nat) (xf : Nat) (xc : Nat) (xr : Nat) (e1 : Nat) (e2 : Nat) : Met l y_FG_end (.code y_FG_end prog_1_method_7_code 2 (some .int) :: zz_W) ({ frames := 1, cells := 0, slots := 0, locals := 22 }) (va_Pc [.ref x0, .int 0] (zz_B dC dI [(x0, .inr (0, [.ref xp, .ref xm, .ref xe, .ref xf, .ref xc, .ref xr, .int 0])), (xe, .inr (3, [.ref xm, .ref e1, .ref e2, .int 0, .int 0]))] [] sz)) (va_Qi (fun (r : Int32) (_ : Unit) => r = 0) (fun (_ : Unit) (t : State) => va_P (dC, dI) classes [] t.heap ∧ va_K (dC, dI) classes [] t ∧ va_D (va_A [(x0, .inr (0, [.ref xp, .ref xm, .ref xe, .ref xf, .ref xc, .ref xr, .int 0])), (xe, .inr (3, [.ref xm, .ref e1, .ref e2, .int 0, .int 0]))] sz) []) (va_A [(x0, .inr (0, [.ref xp, .ref xm, .ref xe, .ref xf, .ref xc, .ref xr, .int 0])), (xe, .inr (3, [.ref xm, .ref e1, .ref e2, .int 0, .int 0]))] sz)) 0 0 (va_A [(x0, .inr (0, [.ref xp, .ref xm, .ref xe, .ref xf, .ref xc, .ref xr, .int 0])), (xe, .inr (3, [.ref xm, .ref e1, .ref e2, .int 0, .int 0]))] sz) := by
  refine Met.ofW (cc := prog_1_method_7_code) (maxL := 2) (ret := (some .int)) (by decide) rfl ?_
  intro p e s m args below meth c s₁ B hml hv
  obtain ⟨rfl, hsz, hP, hK, hD0, hT⟩ := hv
  have hx := B.exec
  have hb := B.bytes
  have hr := B.returns
  have hts0 := atoms_spec (ws := (.code y_FG_end prog_1_method_7_code 2 (some .int) :: zz_W)) B.pre
  have hts : ∀ w ∈ zz_W, w.before _ s = true := fun w h => hts0 w (List.mem_cons_of_mem _ h)
  have hown : s.vm.findClass R_FG = some m.cls := findClass_of_methodNamed B.named
  have hlocks := B.notSynchronized
  subst hsz
  have hD := hD0.self (sz := s.heap.size)
  generalize hAe : va_A [(x0, .inr (0, [.ref xp, .ref xm, .ref xe, .ref xf, .ref xc, .ref xr, .int 0])), (xe, .inr (3, [.ref xm, .ref e1, .ref e2, .int 0, .int 0]))] s.heap.size = A at hD ⊢
  have hA : ∀ q : Nat, s.heap.size ≤ q → A q := fun q h => by rw [← hAe]; exact Or.inr h
  have hS : va_S A s.heap s.heap [] := va_S.rf
  have hl := lv_entry ([.ref x0, .int 0]) (n := 2) (Nat.le_of_ble_eq_true rfl)
  rw [lg_entry_eq]
  generalize (lg_sl ([.ref x0, .int 0]) ++ List.replicate (2 - (lg_sl ([.ref x0, .int 0])).length) Slot.unset).toArray = ls at hl ⊢
  have hl : lv_has ls 2 [(0, .ref x0), (1, .int 0)] := hl
  refine lv_iload_n hx hb d_FG_end_0 rfl (lv_at hl 1 rfl) ?_
  refine lv_iconst (v := 0) hx hb d_FG_end_1 (by decide) ?_
  refine lv_aload_n hx hb d_FG_end_2 rfl (lv_at hl 0 rfl) ?_
  refine va_get (D := (dC, dI)) (ci := 0) (v := .ref xe) (C := R_FG) (T := F_FG) (N := 7) hx hb hts i_FG hown hK hP 0 rfl rfl 2 (by decide) (hts _ mw_325) (fun _ h9 => h9) rfl d_FG_end_3 ?_
  refine va_get (D := (dC, dI)) (ci := 3) (v := .int 0) (C := R_Me) (T := F_Me) (N := 5) hx hb hts i_Me hown hK hP 1 rfl rfl 3 (by decide) (hts _ mw_132) (fun _ h9 => h9) rfl d_FG_end_6 ?_
  have hPc := hP.sub (ws' := []) [] rfl
  have hKc := hK.sub (tys' := []) [] rfl
  have hDc : va_D (fun _ => True) [] := (hD.sub (ws' := []) [] (by decide) rfl).weaken (fun _ _ _ _ => trivial)
  refine va_calli (va_runS (As := [.int 0, .int 0, .int 0]) (rest := []) ⟨hx, hb, hml, hown, hts⟩ (FG_within l dC dI s.heap.size 0 0 0) (zz_cS 3 hts mw_385 mw_387 mw_1 mw_386 rfl rfl hd_FG_within ⟨Nat.le_of_ble_eq_true rfl, Nat.le_of_ble_eq_true rfl⟩) ⟨zz_blind, fun U hU hW => ⟨rfl, zz_pre hPc hKc hDc hT U hU hW⟩⟩ rfl rfl hl.1 rfl (lv_room (Nat.le_of_ble_eq_true rfl)) d_FG_end_9 ⟨(Nat.le_of_ble_eq_true rfl), (Nat.le_of_ble_eq_true rfl)⟩) hS (fun q _ h => zz_Af hS hA h) (fun q h => zz_Af hS hA h) (fun rr1 u t H1 locs ht hvm hw hB hz1 hk1 hS => ?_)
  have hP := zz_keep hP hk1
  generalize H1 = H at hP hS ⊢
  rcases hw with ⟨rfl, f2, f3⟩ | ⟨rfl, f4⟩
  · refine lv_if_ne (tgt := 25) hx hb d_FG_end_12 (by decide) (fun _ => ?_) (fun h => absurd h (by decide))
    refine lv_aload_n hx hb d_FG_end_25 rfl (lv_at hl 0 rfl) ?_
    refine va_get (D := (dC, dI)) (ci := 0) (v := .ref xe) (C := R_FG) (T := F_FG) (N := 7) hx hb hts i_FG hown hK hP 0 rfl rfl 2 (by decide) (hts _ mw_325) (fun _ h9 => h9) rfl d_FG_end_26 ?_
    refine lv_dup hx hb d_FG_end_29 rfl ?_
    refine va_get (D := (dC, dI)) (ci := 3) (v := .int 0) (C := R_Me) (T := F_Me) (N := 5) hx hb hts i_Me hown hK hP 1 rfl rfl 3 (by decide) (hts _ mw_132) (fun _ h9 => h9) rfl d_FG_end_30 ?_
    refine lv_iload_n hx hb d_FG_end_33 rfl (lv_at hl 1 rfl) ?_
    refine lv_isub hx hb d_FG_end_34 ?_
    refine lv_topi (fun z5 ez5 => ?_)
    obtain rfl : z5 = 0 := ez5.trans (by decide)
    refine va_put (D := (dC, dI)) (ci := 3) (v := .int 0) (ty := .int) (C := R_Me) (T := F_Me) (N := 5) hx hb hts i_Me t_Me t_Me_ok n_Me hown hK hP hD hS 1 rfl rfl 3 (by decide) (hts _ mw_132) (fun _ h9 => h9) rfl (by decide +kernel) rfl rfl (Nat.le_of_ble_eq_true rfl) d_FG_end_35 (fun H locs hP hD hS => ?_)
    have hP : va_P (dC, dI) classes [(x0, .inr (0, [.ref xp, .ref xm, .ref xe, .ref xf, .ref xc, .ref xr, .int 0])), (xe, .inr (3, [.ref xm, .ref e1, .ref e2, .int 0, .int 0]))] H := hP
    have hD : va_D A [(x0, .inr (0, [.ref xp, .ref xm, .ref xe, .ref xf, .ref xc, .ref xr, .int 0])), (xe, .inr (3, [.ref xm, .ref e1, .ref e2, .int 0, .int 0]))] := hD
    refine lv_aload_n hx hb d_FG_end_38 rfl (lv_at hl 0 rfl) ?_
    refine va_get (D := (dC, dI)) (ci := 0) (v := .ref xe) (C := R_FG) (T := F_FG) (N := 7) hx hb hts i_FG hown hK hP 0 rfl rfl 2 (by decide) (hts _ mw_325) (fun _ h9 => h9) rfl d_FG_end_39 ?_
    refine va_get (D := (dC, dI)) (ci := 3) (v := .int 0) (C := R_Me) (T := F_Me) (N := 5) hx hb hts i_Me hown hK hP 1 rfl rfl 3 (by decide) (hts _ mw_132) (fun _ h9 => h9) rfl d_FG_end_42 ?_
    have hP9 := hP.sub (ws' := []) [] rfl
    have hD9 := hD.sub (ws' := []) [] (by decide) rfl
    have hK9 := hK.sub (tys' := []) [] rfl
    refine W.widen (k := 0) (n := 0) (by omega) (by omega) ?_
    exact W.iret (v := 0) hx hb hr (fun t ht hW => ⟨⟨0, (), rfl, rfl, by rw [ht]; exact hP9, va_K.moved hW.alike hK9, hD9⟩, hS.F ht⟩) hS.2.2 d_FG_end_45
  · exact absurd f4 (by decide)
set_option maxHeartbeats 4000000 in
set_option maxRecDepth 100000 in
theorem FG_end_no (l : Launch) (hfl : l.flags = Jvm.pinnedFlags ++ [Jvm.noTraceFlag]) (dC : Nat → ClassId) (dI : Nat → Nat → Nat) (sz : Nat) (x0 : Nat) (xp : Nat) (xm : Nat) (xe : Nat) (xf : Nat) (xc : Nat) (xr : Nat) (e1 : Nat) (e2 : Nat) (p0 : Int32) (hn : ¬ p0 = 0) : th_Met l y_FG_end (.code y_FG_end prog_1_method_7_code 2 (some .int) :: zz_W) ({ frames := 6, cells := 1, slots := 6, locals := 82 }) (va_Pc [.ref x0, .int p0] (zz_BS dC dI [(x0, .inr (0, [.ref xp, .ref xm, .ref xe, .ref xf, .ref xc, .ref xr, .int 0])), (xe, .inr (3, [.ref xm, .ref e1, .ref e2, .int 0, .int 0]))] [] sz)) E_IAE 1 6 := by
  refine th_ofW (cc := prog_1_method_7_code) (maxL := 2) (ret := (some .int)) (by decide) rfl ?_
  intro p e s m args below meth c s₁ B hml hv
  obtain ⟨rfl, ⟨hsz, hP, hK, hD0, hT⟩, hZ⟩ := hv
  have hx := B.exec
  have hb := B.bytes
  have hr := B.returns
  have hts0 := atoms_spec (ws := (.code y_FG_end prog_1_method_7_code 2 (some .int) :: zz_W)) B.pre
  have hts : ∀ w ∈ zz_W, w.before _ s = true := fun w h => hts0 w (List.mem_cons_of_mem _ h)
  have hown : s.vm.findClass R_FG = some m.cls := findClass_of_methodNamed B.named
  have hlocks := B.notSynchronized
  have hex := B.noHandlers (hts0 _ List.mem_cons_self)
  subst hsz
  obtain ⟨A, hAe⟩ : ∃ A, A = va_A [] s.heap.size := ⟨_, rfl⟩
  have hA : ∀ q : Nat, s.heap.size ≤ q → A q := fun q h => by rw [hAe]; exact Or.inr h
  have hS : va_S (va_A [] s.heap.size) s.heap s.heap [] := va_S.rf
  subst hAe
  have hl := lv_entry ([.ref x0, .int p0]) (n := 2) (Nat.le_of_ble_eq_true rfl)
  rw [lg_entry_eq]
  generalize (lg_sl ([.ref x0, .int p0]) ++ List.replicate (2 - (lg_sl ([.ref x0, .int p0])).length) Slot.unset).toArray = ls at hl ⊢
  have hl : lv_has ls 2 [(0, .ref x0), (1, .int p0)] := hl
  refine lv_iload_n hx hb d_FG_end_0 rfl (lv_at hl 1 rfl) ?_
  refine lv_iconst (v := 0) hx hb d_FG_end_1 (by decide) ?_
  refine lv_aload_n hx hb d_FG_end_2 rfl (lv_at hl 0 rfl) ?_
  refine va_get (D := (dC, dI)) (ci := 0) (v := .ref xe) (C := R_FG) (T := F_FG) (N := 7) hx hb hts i_FG hown hK hP 0 rfl rfl 2 (by decide) (hts _ mw_325) (fun _ h9 => h9) rfl d_FG_end_3 ?_
  refine va_get (D := (dC, dI)) (ci := 3) (v := .int 0) (C := R_Me) (T := F_Me) (N := 5) hx hb hts i_Me hown hK hP 1 rfl rfl 3 (by decide) (hts _ mw_132) (fun _ h9 => h9) rfl d_FG_end_6 ?_
  have hPc := hP.sub (ws' := []) [] rfl
  have hKc := hK.sub (tys' := []) [] rfl
  have hDc : va_D (fun _ => True) [] := (hD0.sub (ws' := []) [] (by decide) rfl)
  refine va_calli (va_runS (As := [.int p0, .int 0, .int 0]) (rest := []) ⟨hx, hb, hml, hown, hts⟩ (FG_within l dC dI s.heap.size p0 0 0) (zz_cS 3 hts mw_385 mw_387 mw_1 mw_386 rfl rfl hd_FG_within ⟨Nat.le_of_ble_eq_true rfl, Nat.le_of_ble_eq_true rfl⟩) ⟨zz_blind, fun U hU hW => ⟨rfl, zz_pre hPc hKc hDc hT U hU hW⟩⟩ rfl rfl hl.1 rfl (lv_room (Nat.le_of_ble_eq_true rfl)) d_FG_end_9 ⟨(Nat.le_of_ble_eq_true rfl), (Nat.le_of_ble_eq_true rfl)⟩) hS (fun q _ h => zz_Af hS hA h) (fun q h => zz_Af hS hA h) (fun rr1 u t H1 locs ht hvm hw hB hz1 hk1 hS => ?_)
  have hP := zz_keep hP hk1
  generalize H1 = H at hP hS ⊢
  rcases hw with ⟨rfl, f2, f3⟩ | ⟨rfl, f4⟩
  · exact absurd (zz_z0 f2 f3) hn
  · refine lv_if_ne (tgt := 25) hx hb d_FG_end_12 (by decide) (fun h => absurd h (by decide)) (fun _ => ?_)
    obtain ⟨zq, hzq⟩ := hT.2.2.2 (114, "the packet has not so many bytes") (by decide +kernel)
    refine va_forget (fun q hq => zz_A0 (hS.2.2 q hq)) ?_
    exact th_throwNew (own := R_FG) (E := E_IAE) (tx := "the packet has not so many bytes") hx hb hfl hown (by decide) x_IAE_0 x_IAE_1 x_IAE_2 x_IAE_5 (zz_up hts hT hZ) (zz_own_IAE hts hT) (zz_S.st hZ) (hts _ mw_388) (hts _ mw_14) hzq (hl.1.trans hml.symm) d_FG_end_15 d_FG_end_18 d_FG_end_19 d_FG_end_21 d_FG_end_24 hex hS.1 (Nat.le_of_ble_eq_true rfl) (Nat.le_of_ble_eq_true rfl) (Nat.le_of_ble_eq_true rfl) (Nat.le_of_ble_eq_true rfl) hlocks
set_option maxHeartbeats 4000000 in
set_option maxRecDepth 100000 in
theorem FG_seed (l : Launch) (dC : Nat → ClassId) (dI : Nat → Nat → Nat) (sz : Nat) (x0 : Nat) (xp : Nat) (xm : Nat) (xe : Nat) (xf : Nat) (xc : Nat) (xr : Nat) (r1 : Nat) (r2 : Nat) (r3 : Nat) (v : Int64) : Met l y_FG_seed (.code y_FG_seed prog_1_method_8_code 3 none :: zz_W) ({ frames := 0, cells := 0, slots := 0, locals := 0 }) (va_Pc [.ref x0, .long v] (zz_B dC dI [(x0, .inr (0, [.ref xp, .ref xm, .ref xe, .ref xf, .ref xc, .ref xr, .int 0])), (xr, .inr (8, [.ref xp, .ref xf, .ref xe, .ref r1, .ref r2, .ref r3, .int 0, .int 0, .long 0, .int 0, .int 0, .int 0]))] [] sz)) (va_Qv (fun (_ : Unit) => True) (fun (_ : Unit) (t : State) => va_P (dC, dI) classes [] t.heap ∧ va_K (dC, dI) classes [] t ∧ va_D (va_A [(x0, .inr (0, [.ref xp, .ref xm, .ref xe, .ref xf, .ref xc, .ref xr, .int 0])), (xr, .inr (8, [.ref xp, .ref xf, .ref xe, .ref r1, .ref r2, .ref r3, .int 0, .int 0, .long 0, .int 0, .int 0, .int 0]))] sz) []) (va_A [(x0, .inr (0, [.ref xp, .ref xm, .ref xe, .ref xf, .ref xc, .ref xr, .int 0])), (xr, .inr (8, [.ref xp, .ref xf, .ref xe, .ref r1, .ref r2, .ref r3, .int 0, .int 0, .long 0, .int 0, .int 0, .int 0]))] sz)) 0 0 (va_A [(x0, .inr (0, [.ref xp, .ref xm, .ref xe, .ref xf, .ref xc, .ref xr, .int 0])), (xr, .inr (8, [.ref xp, .ref xf, .ref xe, .ref r1, .ref r2, .ref r3, .int 0, .int 0, .long 0, .int 0, .int 0, .int 0]))] sz) := by
  refine Met.ofW (cc := prog_1_method_8_code) (maxL := 3) (ret := none) (by decide) rfl ?_
  intro p e s m args below meth c s₁ B hml hv
  obtain ⟨rfl, hsz, hP, hK, hD0, hT⟩ := hv
  have hx := B.exec
  have hb := B.bytes
  have hr := B.returns
  have hts0 := atoms_spec (ws := (.code y_FG_seed prog_1_method_8_code 3 none :: zz_W)) B.pre
  have hts : ∀ w ∈ zz_W, w.before _ s = true := fun w h => hts0 w (List.mem_cons_of_mem _ h)
  have hown : s.vm.findClass R_FG = some m.cls := findClass_of_methodNamed B.named
  have hlocks := B.notSynchronized
  subst hsz
  have hD := hD0.self (sz := s.heap.size)
  generalize hAe : va_A [(x0, .inr (0, [.ref xp, .ref xm, .ref xe, .ref xf, .ref xc, .ref xr, .int 0])), (xr, .inr (8, [.ref xp, .ref xf, .ref xe, .ref r1, .ref r2, .ref r3, .int 0, .int 0, .long 0, .int 0, .int 0, .int 0]))] s.heap.size = A at hD ⊢
  have hA : ∀ q : Nat, s.heap.size ≤ q → A q := fun q h => by rw [← hAe]; exact Or.inr h
  have hS : va_S A s.heap s.heap [] := va_S.rf
  have hl := lv_entry ([.ref x0, .long v]) (n := 3) (Nat.le_of_ble_eq_true rfl)
  rw [lg_entry_eq]
  generalize (lg_sl ([.ref x0, .long v]) ++ List.replicate (3 - (lg_sl ([.ref x0, .long v])).length) Slot.unset).toArray = ls at hl ⊢
  have hl : lv_has ls 3 [(0, .ref x0), (1, .long v)] := hl
  refine lv_aload_n hx hb d_FG_seed_0 rfl (lv_at hl 0 rfl) ?_
  refine va_get (D := (dC, dI)) (ci := 0) (v := .ref xr) (C := R_FG) (T := F_FG) (N := 7) hx hb hts i_FG hown hK hP 0 rfl rfl 5 (by decide) (hts _ mw_328) (fun _ h9 => h9) rfl d_FG_seed_1 ?_
  refine lv_lload_n hx hb d_FG_seed_4 rfl (lv_at hl 1 rfl) ?_
  refine va_put (D := (dC, dI)) (ci := 8) (v := .long v) (ty := .long) (C := R_Ru) (T := F_Ru) (N := 12) hx hb hts i_Ru t_Ru t_Ru_ok n_Ru hown hK hP hD hS 1 rfl rfl 8 (by decide) (hts _ mw_293) (fun _ h9 => h9) rfl (by decide +kernel) rfl rfl (Nat.le_of_ble_eq_true rfl) d_FG_seed_5 (fun H locs hP hD hS => ?_)
  have hP : va_P (dC, dI) classes [(x0, .inr (0, [.ref xp, .ref xm, .ref xe, .ref xf, .ref xc, .ref xr, .int 0])), (xr, .inr (8, [.ref xp, .ref xf, .ref xe, .ref r1, .ref r2, .ref r3, .int 0, .int 0, .long v, .int 0, .int 0, .int 0]))] H := hP
  have hD : va_D A [(x0, .inr (0, [.ref xp, .ref xm, .ref xe, .ref xf, .ref xc, .ref xr, .int 0])), (xr, .inr (8, [.ref xp, .ref xf, .ref xe, .ref r1, .ref r2, .ref r3, .int 0, .int 0, .long v, .int 0, .int 0, .int 0]))] := hD
  have hP9 := hP.sub (ws' := []) [] rfl
  have hD9 := hD.sub (ws' := []) [] (by decide) rfl
  have hK9 := hK.sub (tys' := []) [] rfl
  refine W.widen (k := 0) (n := 0) (by omega) (by omega) ?_
  exact W.vret hx hb hr (fun t ht hW => ⟨⟨(), rfl, trivial, by rw [ht]; exact hP9, va_K.moved hW.alike hK9, hD9⟩, hS.F ht⟩) hS.2.2 d_FG_seed_8
set_option maxHeartbeats 4000000 in
set_option maxRecDepth 100000 in
theorem FG_run (l : Launch) (hfl : l.flags = Jvm.pinnedFlags ++ [Jvm.noTraceFlag]) (dC : Nat → ClassId) (dI : Nat → Nat → Nat) (sz : Nat) (x0 : Nat) (xp : Nat) (xm : Nat) (xe : Nat) (xf : Nat) (xc : Nat) (xr : Nat) : th_Met l y_FG_run (.code y_FG_run prog_1_method_9_code 1 (some .long) :: zz_W) ({ frames := 6, cells := 1, slots := 6, locals := 82 }) (va_Pc [.ref x0] (zz_BS dC dI [(x0, .inr (0, [.ref xp, .ref xm, .ref xe, .ref xf, .ref xc, .ref xr, .int 0]))] [] sz)) E_ISE 1 6 := by
  refine th_ofW (cc := prog_1_method_9_code) (maxL := 1) (ret := (some .long)) (by decide) rfl ?_
  intro p e s m args below meth c s₁ B hml hv
  obtain ⟨rfl, ⟨hsz, hP, hK, hD0, hT⟩, hZ⟩ := hv
  have hx := B.exec
  have hb := B.bytes
  have hr := B.returns
  have hts0 := atoms_spec (ws := (.code y_FG_run prog_1_method_9_code 1 (some .long) :: zz_W)) B.pre
  have hts : ∀ w ∈ zz_W, w.before _ s = true := fun w h => hts0 w (List.mem_cons_of_mem _ h)
  have hown : s.vm.findClass R_FG = some m.cls := findClass_of_methodNamed B.named
  have hlocks := B.notSynchronized
  have hex := B.noHandlers (hts0 _ List.mem_cons_self)
  subst hsz
  obtain ⟨A, hAe⟩ : ∃ A, A = va_A [] s.heap.size := ⟨_, rfl⟩
  have hA : ∀ q : Nat, s.heap.size ≤ q → A q := fun q h => by rw [hAe]; exact Or.inr h
  have hS : va_S (va_A [] s.heap.size) s.heap s.heap [] := va_S.rf
  subst hAe
  have hl := lv_entry ([.ref x0]) (n := 1) (Nat.le_of_ble_eq_true rfl)
  rw [lg_entry_eq]
  generalize (lg_sl ([.ref x0]) ++ List.replicate (1 - (lg_sl ([.ref x0])).length) Slot.unset).toArray = ls at hl ⊢
  have hl : lv_has ls 1 [(0, .ref x0)] := hl
  refine lv_aload_n hx hb d_FG_run_0 rfl (lv_at hl 0 rfl) ?_
  refine va_get (D := (dC, dI)) (ci := 0) (v := .int 0) (C := R_FG) (T := F_FG) (N := 7) hx hb hts i_FG hown hK hP 0 rfl rfl 6 (by decide) (hts _ mw_329) (fun _ h9 => h9) rfl d_FG_run_1 ?_
  refine lv_if_ne (tgt := 17) hx hb d_FG_run_4 (by decide) (fun h => absurd h (by decide)) (fun _ => ?_)
  obtain ⟨zq, hzq⟩ := hT.2.2.2 (120, "no program passed") (by decide +kernel)
  refine va_forget (fun q hq => zz_A0 (hS.2.2 q hq)) ?_
  exact th_throwNew (own := R_FG) (E := E_ISE) (tx := "no program passed") hx hb hfl hown (by decide) x_ISE_0 x_ISE_1 x_ISE_2 x_ISE_5 (zz_up hts hT hZ) (zz_own_ISE hts hT) (zz_S.st hZ) (hts _ mw_457) (hts _ mw_15) hzq (hl.1.trans hml.symm) d_FG_run_7 d_FG_run_10 d_FG_run_11 d_FG_run_13 d_FG_run_16 hex hS.1 (Nat.le_of_ble_eq_true rfl) (Nat.le_of_ble_eq_true rfl) (Nat.le_of_ble_eq_true rfl) (Nat.le_of_ble_eq_true rfl) hlocks
set_option maxHeartbeats 4000000 in
set_option maxRecDepth 100000 in
theorem FG_letter (l : Launch) (hfl : l.flags = Jvm.pinnedFlags ++ [Jvm.noTraceFlag]) (dC : Nat → ClassId) (dI : Nat → Nat → Nat) (sz : Nat) (x0 : Nat) (xp : Nat) (xm : Nat) (xe : Nat) (xf : Nat) (xc : Nat) (xr : Nat) (e1 : Nat) (e2 : Nat) (p0 : Int32) : th_Met l y_FG_letter (.code y_FG_letter prog_1_method_10_code 2 (some .int) :: zz_W) ({ frames := 6, cells := 1, slots := 6, locals := 82 }) (va_Pc [.ref x0, .int p0] (zz_BS dC dI [(x0, .inr (0, [.ref xp, .ref xm, .ref xe, .ref xf, .ref xc, .ref xr, .int 0])), (xe, .inr (3, [.ref xm, .ref e1, .ref e2, .int 0, .int 0]))] [] sz)) E_NSE 1 6 := by
  refine th_ofW (cc := prog_1_method_10_code) (maxL := 2) (ret := (some .int)) (by decide) rfl ?_
  intro p e s m args below meth c s₁ B hml hv
  obtain ⟨rfl, ⟨hsz, hP, hK, hD0, hT⟩, hZ⟩ := hv
  have hx := B.exec
  have hb := B.bytes
  have hr := B.returns
  have hts0 := atoms_spec (ws := (.code y_FG_letter prog_1_method_10_code 2 (some .int) :: zz_W)) B.pre
  have hts : ∀ w ∈ zz_W, w.before _ s = true := fun w h => hts0 w (List.mem_cons_of_mem _ h)
  have hown : s.vm.findClass R_FG = some m.cls := findClass_of_methodNamed B.named
  have hlocks := B.notSynchronized
  have hex := B.noHandlers (hts0 _ List.mem_cons_self)
  subst hsz
  obtain ⟨A, hAe⟩ : ∃ A, A = va_A [] s.heap.size := ⟨_, rfl⟩
  have hA : ∀ q : Nat, s.heap.size ≤ q → A q := fun q h => by rw [hAe]; exact Or.inr h
  have hS : va_S (va_A [] s.heap.size) s.heap s.heap [] := va_S.rf
  subst hAe
  have hl := lv_entry ([.ref x0, .int p0]) (n := 2) (Nat.le_of_ble_eq_true rfl)
  rw [lg_entry_eq]
  generalize (lg_sl ([.ref x0, .int p0]) ++ List.replicate (2 - (lg_sl ([.ref x0, .int p0])).length) Slot.unset).toArray = ls at hl ⊢
  have hl : lv_has ls 2 [(0, .ref x0), (1, .int p0)] := hl
  refine lv_iload_n hx hb d_FG_letter_0 rfl (lv_at hl 1 rfl) ?_
  refine lv_iconst (v := 0) hx hb d_FG_letter_1 (by decide) ?_
  refine lv_aload_n hx hb d_FG_letter_2 rfl (lv_at hl 0 rfl) ?_
  refine va_get (D := (dC, dI)) (ci := 0) (v := .ref xe) (C := R_FG) (T := F_FG) (N := 7) hx hb hts i_FG hown hK hP 0 rfl rfl 2 (by decide) (hts _ mw_325) (fun _ h9 => h9) rfl d_FG_letter_3 ?_
  refine va_get (D := (dC, dI)) (ci := 3) (v := .int 0) (C := R_Me) (T := F_Me) (N := 5) hx hb hts i_Me hown hK hP 1 rfl rfl 3 (by decide) (hts _ mw_132) (fun _ h9 => h9) rfl d_FG_letter_6 ?_
  refine lv_iconst (v := 1) hx hb d_FG_letter_9 (by decide) ?_
  refine lv_isub hx hb d_FG_letter_10 ?_
  refine lv_topi (fun z1 ez1 => ?_)
  obtain rfl : z1 = (-1) := ez1.trans (by decide)
  have hPc := hP.sub (ws' := []) [] rfl
  have hKc := hK.sub (tys' := []) [] rfl
  have hDc : va_D (fun _ => True) [] := (hD0.sub (ws' := []) [] (by decide) rfl)
  refine va_calli (va_runS (As := [.int p0, .int 0, .int (-1)]) (rest := []) ⟨hx, hb, hml, hown, hts⟩ (FG_within l dC dI s.heap.size p0 0 (-1)) (zz_cS 3 hts mw_385 mw_387 mw_1 mw_386 rfl rfl hd_FG_within ⟨Nat.le_of_ble_eq_true rfl, Nat.le_of_ble_eq_true rfl⟩) ⟨zz_blind, fun U hU hW => ⟨rfl, zz_pre hPc hKc hDc hT U hU hW⟩⟩ rfl rfl hl.1 rfl (lv_room (Nat.le_of_ble_eq_true rfl)) d_FG_letter_11 ⟨(Nat.le_of_ble_eq_true rfl), (Nat.le_of_ble_eq_true rfl)⟩) hS (fun q _ h => zz_Af hS hA h) (fun q h => zz_Af hS hA h) (fun rr2 u t H1 locs ht hvm hw hB hz1 hk1 hS => ?_)
  have hP := zz_keep hP hk1
  generalize H1 = H at hP hS ⊢
  rcases hw with ⟨rfl, f3, f4⟩ | ⟨rfl, f5⟩
  · exact (zz_m1 f3 f4).elim
  · refine lv_if_ne (tgt := 27) hx hb d_FG_letter_14 (by decide) (fun h => absurd h (by decide)) (fun _ => ?_)
    obtain ⟨zq, hzq⟩ := hT.2.2.2 (128, "no such byte") (by decide +kernel)
    refine va_forget (fun q hq => zz_A0 (hS.2.2 q hq)) ?_
    exact th_throwNew (own := R_FG) (E := E_NSE) (tx := "no such byte") hx hb hfl hown (by decide) x_NSE_0 x_NSE_1 x_NSE_2 x_NSE_5 (zz_up hts hT hZ) (zz_own_NSE hts hT) (zz_S.st hZ) (hts _ mw_1036) (hts _ mw_26) hzq (hl.1.trans hml.symm) d_FG_letter_17 d_FG_letter_20 d_FG_letter_21 d_FG_letter_23 d_FG_letter_26 hex hS.1 (Nat.le_of_ble_eq_true rfl) (Nat.le_of_ble_eq_true rfl) (Nat.le_of_ble_eq_true rfl) (Nat.le_of_ble_eq_true rfl) hlocks
set_option maxHeartbeats 4000000 in
set_option maxRecDepth 100000 in
theorem Ma_has (l : Launch) (dC : Nat → ClassId) (dI : Nat → Nat → Nat) (sz : Nat) (xm : Nat) (m1 : Nat) (m2 : Nat) (m3 : Nat) (m4 : Nat) (m5 : Nat) (m6 : Nat) (m7 : Nat) (p0 : Int32) (p1 : Int32) : Met l y_Ma_has (.code y_Ma_has prog_5_method_4_code 3 (some .boolean) :: zz_W) ({ frames := 1, cells := 0, slots := 0, locals := 22 }) (va_Pc [.ref xm, .int p0, .int p1] (zz_B dC dI [(xm, .inr (2, [.ref m1, .ref m2, .ref m3, .ref m4, .ref m5, .ref m6, .ref m7, .int 0]))] [] sz)) (va_Qi (fun (r : Int32) (_ : Unit) => r = 0) (fun (_ : Unit) (_ : State) => True) (va_A [] sz)) 0 0 (va_A [] sz) := by
  refine Met.ofW (cc := prog_5_method_4_code) (maxL := 3) (ret := (some .boolean)) (by decide) rfl ?_
  intro p e s m args below meth c s₁ B hml hv
  obtain ⟨rfl, hsz, hP, hK, hD0, hT⟩ := hv
  have hx := B.exec
  have hb := B.bytes
  have hr := B.returns
  have hts0 := atoms_spec (ws := (.code y_Ma_has prog_5_method_4_code 3 (some .boolean) :: zz_W)) B.pre
  have hts : ∀ w ∈ zz_W, w.before _ s = true := fun w h => hts0 w (List.mem_cons_of_mem _ h)
  have hown : s.vm.findClass R_Ma = some m.cls := findClass_of_methodNamed B.named
  have hlocks := B.notSynchronized
  subst hsz
  generalize hAe : va_A [] s.heap.size = A at ⊢
  have hA : ∀ q : Nat, s.heap.size ≤ q → A q := fun q h => by rw [← hAe]; exact Or.inr h
  have hS : va_S A s.heap s.heap [] := va_S.rf
  have hl := lv_entry ([.ref xm, .int p0, .int p1]) (n := 3) (Nat.le_of_ble_eq_true rfl)
  rw [lg_entry_eq]
  generalize (lg_sl ([.ref xm, .int p0, .int p1]) ++ List.replicate (3 - (lg_sl ([.ref xm, .int p0, .int p1])).length) Slot.unset).toArray = ls at hl ⊢
  have hl : lv_has ls 3 [(0, .ref xm), (1, .int p0), (2, .int p1)] := hl
  refine lv_iload_n hx hb d_Ma_has_0 rfl (lv_at hl 1 rfl) ?_
  refine lv_iconst (v := 0) hx hb d_Ma_has_1 (by decide) ?_
  refine lv_aload_n hx hb d_Ma_has_2 rfl (lv_at hl 0 rfl) ?_
  refine va_get (D := (dC, dI)) (ci := 2) (v := .int 0) (C := R_Ma) (T := F_Ma) (N := 8) hx hb hts i_Ma hown hK hP 0 rfl rfl 7 (by decide) (hts _ mw_96) (fun _ h9 => h9) rfl d_Ma_has_3 ?_
  refine lv_iconst (v := 1) hx hb d_Ma_has_6 (by decide) ?_
  refine lv_isub hx hb d_Ma_has_7 ?_
  refine lv_topi (fun z1 ez1 => ?_)
  obtain rfl : z1 = (-1) := ez1.trans (by decide)
  have hPc := hP.sub (ws' := []) [] rfl
  have hKc := hK.sub (tys' := []) [] rfl
  have hDc : va_D (fun _ => True) [] := (hD0.sub (ws' := []) [] (by decide) rfl)
  refine va_calli (va_runSN (As := [.int p0, .int 0, .int (-1)]) (rest := []) ⟨hx, hb, hml, hown, hts⟩ (FG_within l dC dI s.heap.size p0 0 (-1)) ⟨zz_cN 3 hts hT mn_1063 mw_387 mw_1 rfl rfl hd_FG_within ⟨Nat.le_of_ble_eq_true rfl, Nat.le_of_ble_eq_true rfl⟩, hts _ mw_386, trivial⟩ ⟨zz_blind, fun U hU hW => ⟨rfl, zz_pre hPc hKc hDc hT U hU hW⟩⟩ rfl rfl hl.1 rfl (lv_room (Nat.le_of_ble_eq_true rfl)) d_Ma_has_8 ⟨(Nat.le_of_ble_eq_true rfl), (Nat.le_of_ble_eq_true rfl)⟩) hS (fun q _ h => zz_Af hS hA h) (fun q h => zz_Af hS hA h) (fun rr2 u t H1 locs ht hvm hw hB hz1 hk1 hS => ?_)
  have hP := zz_keep hP hk1
  generalize H1 = H at hP hS ⊢
  rcases hw with ⟨rfl, f3, f4⟩ | ⟨rfl, f5⟩
  · exact (zz_m1 f3 f4).elim
  · refine lv_if_eq (tgt := 34) hx hb d_Ma_has_11 (by decide) (fun _ => ?_) (fun h => absurd h (by decide))
    refine lv_iconst (v := 0) hx hb d_Ma_has_34 (by decide) ?_
    refine W.widen (k := 0) (n := 0) (by omega) (by omega) ?_
    exact W.zret (ty := .boolean) (v := 0) hx hb hr rfl (fun t ht hW => ⟨⟨0, (), rfl, rfl, trivial⟩, hS.F ht⟩) hS.2.2 d_Ma_has_35
set_option maxHeartbeats 4000000 in
set_option maxRecDepth 100000 in
theorem FG_place (l : Launch) (hfl : l.flags = Jvm.pinnedFlags ++ [Jvm.noTraceFlag]) (dC : Nat → ClassId) (dI : Nat → Nat → Nat) (sz : Nat) (x0 : Nat) (xp : Nat) (xm : Nat) (xe : Nat) (xf : Nat) (xc : Nat) (xr : Nat) (m1 : Nat) (m2 : Nat) (m3 : Nat) (m4 : Nat) (m5 : Nat) (m6 : Nat) (m7 : Nat) (p0 : Int32) (p1 : Int32) (p2 : Int32) : th_Met l y_FG_place (.code y_FG_place prog_1_method_11_code 4 (some .int) :: zz_W) ({ frames := 6, cells := 1, slots := 6, locals := 82 }) (va_Pc [.ref x0, .int p0, .int p1, .int p2] (zz_BS dC dI [(x0, .inr (0, [.ref xp, .ref xm, .ref xe, .ref xf, .ref xc, .ref xr, .int 0])), (xm, .inr (2, [.ref m1, .ref m2, .ref m3, .ref m4, .ref m5, .ref m6, .ref m7, .int 0]))] [] sz)) E_NSE 1 6 := by
  refine th_ofW (cc := prog_1_method_11_code) (maxL := 4) (ret := (some .int)) (by decide) rfl ?_
  intro p e s m args below meth c s₁ B hml hv
  obtain ⟨rfl, ⟨hsz, hP, hK, hD0, hT⟩, hZ⟩ := hv
  have hx := B.exec
  have hb := B.bytes
  have hr := B.returns
  have hts0 := atoms_spec (ws := (.code y_FG_place prog_1_method_11_code 4 (some .int) :: zz_W)) B.pre
  have hts : ∀ w ∈ zz_W, w.before _ s = true := fun w h => hts0 w (List.mem_cons_of_mem _ h)
  have hown : s.vm.findClass R_FG = some m.cls := findClass_of_methodNamed B.named
  have hlocks := B.notSynchronized
  have hex := B.noHandlers (hts0 _ List.mem_cons_self)
  subst hsz
  obtain ⟨A, hAe⟩ : ∃ A, A = va_A [] s.heap.size := ⟨_, rfl⟩
  have hA : ∀ q : Nat, s.heap.size ≤ q → A q := fun q h => by rw [hAe]; exact Or.inr h
  have hS : va_S (va_A [] s.heap.size) s.heap s.heap [] := va_S.rf
  subst hAe
  have hl := lv_entry ([.ref x0, .int p0, .int p1, .int p2]) (n := 4) (Nat.le_of_ble_eq_true rfl)
  rw [lg_entry_eq]
  generalize (lg_sl ([.ref x0, .int p0, .int p1, .int p2]) ++ List.replicate (4 - (lg_sl ([.ref x0, .int p0, .int p1, .int p2])).length) Slot.unset).toArray = ls at hl ⊢
  have hl : lv_has ls 4 [(0, .ref x0), (1, .int p0), (2, .int p1), (3, .int p2)] := hl
  refine lv_aload_n hx hb d_FG_place_0 rfl (lv_at hl 0 rfl) ?_
  refine va_get (D := (dC, dI)) (ci := 0) (v := .ref xm) (C := R_FG) (T := F_FG) (N := 7) hx hb hts i_FG hown hK hP 0 rfl rfl 1 (by decide) (hts _ mw_324) (fun _ h9 => h9) rfl d_FG_place_1 ?_
  refine lv_iload_n hx hb d_FG_place_4 rfl (lv_at hl 1 rfl) ?_
  refine lv_iload_n hx hb d_FG_place_5 rfl (lv_at hl 2 rfl) ?_
  have hPc := hP.sub (ws' := [(xm, .inr (2, [.ref m1, .ref m2, .ref m3, .ref m4, .ref m5, .ref m6, .ref m7, .int 0]))]) [1] rfl
  have hKc := hK.sub (tys' := []) [] rfl
  have hDc : va_D (fun _ => True) [(xm, .inr (2, [.ref m1, .ref m2, .ref m3, .ref m4, .ref m5, .ref m6, .ref m7, .int 0]))] := (hD0.sub (ws' := [(xm, .inr (2, [.ref m1, .ref m2, .ref m3, .ref m4, .ref m5, .ref m6, .ref m7, .int 0]))]) [1] (by decide) rfl)
  refine va_calli (va_runV (As := [.int p0, .int p1]) (rest := []) ⟨hx, hb, hml, hown, hts⟩ (Ma_has l dC dI s.heap.size xm m1 m2 m3 m4 m5 m6 m7 p0 p1) (zz_cV 2 hts mw_1059 mw_1062 mw_3 mw_1060 mw_1061 rfl rfl hd_Ma_has ⟨Nat.le_of_ble_eq_true rfl, Nat.le_of_ble_eq_true rfl⟩) ⟨zz_blind, va_recv hKc hPc (ci := 2) (q0 := 0) rfl rfl, fun U hU hW => ⟨rfl, zz_pre hPc hKc hDc hT U hU hW⟩⟩ rfl rfl hl.1 rfl (lv_room (Nat.le_of_ble_eq_true rfl)) d_FG_place_6 ⟨(Nat.le_of_ble_eq_true rfl), (Nat.le_of_ble_eq_true rfl)⟩) hS (fun q _ h => zz_Af hS hA h) (fun q h => zz_Af hS hA h) (fun rr1 u t H1 locs ht hvm hw hB hz1 hk1 hS => ?_)
  have hP := zz_keep hP hk1
  generalize H1 = H at hP hS ⊢
  obtain rfl := hw
  refine lv_if_eq (tgt := 41) hx hb d_FG_place_9 (by decide) (fun _ => ?_) (fun h => absurd h (by decide))
  obtain ⟨zq, hzq⟩ := hT.2.2.2 (146, "no such place or byte") (by decide +kernel)
  refine va_forget (fun q hq => zz_A0 (hS.2.2 q hq)) ?_
  exact th_throwNew (own := R_FG) (E := E_NSE) (tx := "no such place or byte") hx hb hfl hown (by decide) x_NSE_0 x_NSE_1 x_NSE_2 x_NSE_5 (zz_up hts hT hZ) (zz_own_NSE hts hT) (zz_S.st hZ) (hts _ mw_1036) (hts _ mw_26) hzq (hl.1.trans hml.symm) d_FG_place_41 d_FG_place_44 d_FG_place_45 d_FG_place_47 d_FG_place_50 hex hS.1 (Nat.le_of_ble_eq_true rfl) (Nat.le_of_ble_eq_true rfl) (Nat.le_of_ble_eq_true rfl) (Nat.le_of_ble_eq_true rfl) hlocks
set_option maxHeartbeats 4000000 in
set_option maxRecDepth 100000 in
theorem FG_log (l : Launch) (hfl : l.flags = Jvm.pinnedFlags ++ [Jvm.noTraceFlag]) (dC : Nat → ClassId) (dI : Nat → Nat → Nat) (sz : Nat) (x0 : Nat) (xp : Nat) (xm : Nat) (xe : Nat) (xf : Nat) (xc : Nat) (xr : Nat) (r1 : Nat) (r2 : Nat) (r3 : Nat) (p0 : Int32) : th_Met l y_FG_log (.code y_FG_log prog_1_method_12_code 2 (some .long) :: zz_W) ({ frames := 6, cells := 1, slots := 6, locals := 82 }) (va_Pc [.ref x0, .int p0] (zz_BS dC dI [(x0, .inr (0, [.ref xp, .ref xm, .ref xe, .ref xf, .ref xc, .ref xr, .int 0])), (xr, .inr (8, [.ref xp, .ref xf, .ref xe, .ref r1, .ref r2, .ref r3, .int 0, .int 0, .long 0, .int 0, .int 0, .int 0]))] [] sz)) E_NSE 1 6 := by
  refine th_ofW (cc := prog_1_method_12_code) (maxL := 2) (ret := (some .long)) (by decide) rfl ?_
  intro p e s m args below meth c s₁ B hml hv
  obtain ⟨rfl, ⟨hsz, hP, hK, hD0, hT⟩, hZ⟩ := hv
  have hx := B.exec
  have hb := B.bytes
  have hr := B.returns
  have hts0 := atoms_spec (ws := (.code y_FG_log prog_1_method_12_code 2 (some .long) :: zz_W)) B.pre
  have hts : ∀ w ∈ zz_W, w.before _ s = true := fun w h => hts0 w (List.mem_cons_of_mem _ h)
  have hown : s.vm.findClass R_FG = some m.cls := findClass_of_methodNamed B.named
  have hlocks := B.notSynchronized
  have hex := B.noHandlers (hts0 _ List.mem_cons_self)
  subst hsz
  obtain ⟨A, hAe⟩ : ∃ A, A = va_A [] s.heap.size := ⟨_, rfl⟩
  have hA : ∀ q : Nat, s.heap.size ≤ q → A q := fun q h => by rw [hAe]; exact Or.inr h
  have hS : va_S (va_A [] s.heap.size) s.heap s.heap [] := va_S.rf
  subst hAe
  have hl := lv_entry ([.ref x0, .int p0]) (n := 2) (Nat.le_of_ble_eq_true rfl)
  rw [lg_entry_eq]
  generalize (lg_sl ([.ref x0, .int p0]) ++ List.replicate (2 - (lg_sl ([.ref x0, .int p0])).length) Slot.unset).toArray = ls at hl ⊢
  have hl : lv_has ls 2 [(0, .ref x0), (1, .int p0)] := hl
  refine lv_iload_n hx hb d_FG_log_0 rfl (lv_at hl 1 rfl) ?_
  refine lv_iconst (v := 0) hx hb d_FG_log_1 (by decide) ?_
  refine lv_aload_n hx hb d_FG_log_2 rfl (lv_at hl 0 rfl) ?_
  refine va_get (D := (dC, dI)) (ci := 0) (v := .ref xr) (C := R_FG) (T := F_FG) (N := 7) hx hb hts i_FG hown hK hP 0 rfl rfl 5 (by decide) (hts _ mw_328) (fun _ h9 => h9) rfl d_FG_log_3 ?_
  refine va_get (D := (dC, dI)) (ci := 8) (v := .int 0) (C := R_Ru) (T := F_Ru) (N := 12) hx hb hts i_Ru hown hK hP 1 rfl rfl 6 (by decide) (hts _ mw_290) (fun _ h9 => h9) rfl d_FG_log_6 ?_
  refine lv_iconst (v := 1) hx hb d_FG_log_9 (by decide) ?_
  refine lv_isub hx hb d_FG_log_10 ?_
  refine lv_topi (fun z1 ez1 => ?_)
  obtain rfl : z1 = (-1) := ez1.trans (by decide)
  have hPc := hP.sub (ws' := []) [] rfl
  have hKc := hK.sub (tys' := []) [] rfl
  have hDc : va_D (fun _ => True) [] := (hD0.sub (ws' := []) [] (by decide) rfl)
  refine va_calli (va_runS (As := [.int p0, .int 0, .int (-1)]) (rest := []) ⟨hx, hb, hml, hown, hts⟩ (FG_within l dC dI s.heap.size p0 0 (-1)) (zz_cS 3 hts mw_385 mw_387 mw_1 mw_386 rfl rfl hd_FG_within ⟨Nat.le_of_ble_eq_true rfl, Nat.le_of_ble_eq_true rfl⟩) ⟨zz_blind, fun U hU hW => ⟨rfl, zz_pre hPc hKc hDc hT U hU hW⟩⟩ rfl rfl hl.1 rfl (lv_room (Nat.le_of_ble_eq_true rfl)) d_FG_log_11 ⟨(Nat.le_of_ble_eq_true rfl), (Nat.le_of_ble_eq_true rfl)⟩) hS (fun q _ h => zz_Af hS hA h) (fun q h => zz_Af hS hA h) (fun rr2 u t H1 locs ht hvm hw hB hz1 hk1 hS => ?_)
  have hP := zz_keep hP hk1
  generalize H1 = H at hP hS ⊢
  rcases hw with ⟨rfl, f3, f4⟩ | ⟨rfl, f5⟩
  · exact (zz_m1 f3 f4).elim
  · refine lv_if_ne (tgt := 27) hx hb d_FG_log_14 (by decide) (fun h => absurd h (by decide)) (fun _ => ?_)
    obtain ⟨zq, hzq⟩ := hT.2.2.2 (154, "no such number in the log") (by decide +kernel)
    refine va_forget (fun q hq => zz_A0 (hS.2.2 q hq)) ?_
    exact th_throwNew (own := R_FG) (E := E_NSE) (tx := "no such number in the log") hx hb hfl hown (by decide) x_NSE_0 x_NSE_1 x_NSE_2 x_NSE_5 (zz_up hts hT hZ) (zz_own_NSE hts hT) (zz_S.st hZ) (hts _ mw_1036) (hts _ mw_26) hzq (hl.1.trans hml.symm) d_FG_log_17 d_FG_log_20 d_FG_log_21 d_FG_log_23 d_FG_log_26 hex hS.1 (Nat.le_of_ble_eq_true rfl) (Nat.le_of_ble_eq_true rfl) (Nat.le_of_ble_eq_true rfl) (Nat.le_of_ble_eq_true rfl) hlocks
set_option maxHeartbeats 4000000 in
set_option maxRecDepth 100000 in
theorem FG_known_1 (l : Launch) (hfl : l.flags = Jvm.pinnedFlags ++ [Jvm.noTraceFlag]) (dC : Nat → ClassId) (dI : Nat → Nat → Nat) (sz : Nat) (x0 : Nat) (xp : Nat) (xm : Nat) (xe : Nat) (xf : Nat) (xc : Nat) (xr : Nat) (p0 : Int32) (p1 : Int32) (p2 : Int32) (hn : ¬ (¬ p2 < 0 ∧ ¬ 3 < p2)) : th_Met l y_FG_known (.code y_FG_known prog_1_method_13_code 4 (some .long) :: zz_W) ({ frames := 6, cells := 1, slots := 6, locals := 82 }) (va_Pc [.ref x0, .int p0, .int p1, .int p2] (zz_BS dC dI [(x0, .inr (0, [.ref xp, .ref xm, .ref xe, .ref xf, .ref xc, .ref xr, .int 0]))] [] sz)) E_IAE 1 6 := by
  refine th_ofW (cc := prog_1_method_13_code) (maxL := 4) (ret := (some .long)) (by decide) rfl ?_
  intro p e s m args below meth c s₁ B hml hv
  obtain ⟨rfl, ⟨hsz, hP, hK, hD0, hT⟩, hZ⟩ := hv
  have hx := B.exec
  have hb := B.bytes
  have hr := B.returns
  have hts0 := atoms_spec (ws := (.code y_FG_known prog_1_method_13_code 4 (some .long) :: zz_W)) B.pre
  have hts : ∀ w ∈ zz_W, w.before _ s = true := fun w h => hts0 w (List.mem_cons_of_mem _ h)
  have hown : s.vm.findClass R_FG = some m.cls := findClass_of_methodNamed B.named
  have hlocks := B.notSynchronized
  have hex := B.noHandlers (hts0 _ List.mem_cons_self)
  subst hsz
  obtain ⟨A, hAe⟩ : ∃ A, A = va_A [] s.heap.size := ⟨_, rfl⟩
  have hA : ∀ q : Nat, s.heap.size ≤ q → A q := fun q h => by rw [hAe]; exact Or.inr h
  have hS : va_S (va_A [] s.heap.size) s.heap s.heap [] := va_S.rf
  subst hAe
  have hl := lv_entry ([.ref x0, .int p0, .int p1, .int p2]) (n := 4) (Nat.le_of_ble_eq_true rfl)
  rw [lg_entry_eq]
  generalize (lg_sl ([.ref x0, .int p0, .int p1, .int p2]) ++ List.replicate (4 - (lg_sl ([.ref x0, .int p0, .int p1, .int p2])).length) Slot.unset).toArray = ls at hl ⊢
  have hl : lv_has ls 4 [(0, .ref x0), (1, .int p0), (2, .int p1), (3, .int p2)] := hl
  refine lv_iload_n hx hb d_FG_known_0 rfl (lv_at hl 3 rfl) ?_
  refine lv_iconst (v := 0) hx hb d_FG_known_1 (by decide) ?_
  refine lv_iconst (v := 3) hx hb d_FG_known_2 (by decide) ?_
  have hPc := hP.sub (ws' := []) [] rfl
  have hKc := hK.sub (tys' := []) [] rfl
  have hDc : va_D (fun _ => True) [] := (hD0.sub (ws' := []) [] (by decide) rfl)
  refine va_calli (va_runS (As := [.int p2, .int 0, .int 3]) (rest := []) ⟨hx, hb, hml, hown, hts⟩ (FG_within l dC dI s.heap.size p2 0 3) (zz_cS 3 hts mw_385 mw_387 mw_1 mw_386 rfl rfl hd_FG_within ⟨Nat.le_of_ble_eq_true rfl, Nat.le_of_ble_eq_true rfl⟩) ⟨zz_blind, fun U hU hW => ⟨rfl, zz_pre hPc hKc hDc hT U hU hW⟩⟩ rfl rfl hl.1 rfl (lv_room (Nat.le_of_ble_eq_true rfl)) d_FG_known_3 ⟨(Nat.le_of_ble_eq_true rfl), (Nat.le_of_ble_eq_true rfl)⟩) hS (fun q _ h => zz_Af hS hA h) (fun q h => zz_Af hS hA h) (fun rr1 u t H1 locs ht hvm hw hB hz1 hk1 hS => ?_)
  have hP := zz_keep hP hk1
  generalize H1 = H at hP hS ⊢
  rcases hw with ⟨rfl, f2, f3⟩ | ⟨rfl, f4⟩
  · exact absurd ⟨f2, f3⟩ hn
  · refine lv_if_ne (tgt := 19) hx hb d_FG_known_6 (by decide) (fun h => absurd h (by decide)) (fun _ => ?_)
    obtain ⟨zq, hzq⟩ := hT.2.2.2 (160, "nothing so numbered is foretold") (by decide +kernel)
    refine va_forget (fun q hq => zz_A0 (hS.2.2 q hq)) ?_
    exact th_throwNew (own := R_FG) (E := E_IAE) (tx := "nothing so numbered is foretold") hx hb hfl hown (by decide) x_IAE_0 x_IAE_1 x_IAE_2 x_IAE_5 (zz_up hts hT hZ) (zz_own_IAE hts hT) (zz_S.st hZ) (hts _ mw_388) (hts _ mw_14) hzq (hl.1.trans hml.symm) d_FG_known_9 d_FG_known_12 d_FG_known_13 d_FG_known_15 d_FG_known_18 hex hS.1 (Nat.le_of_ble_eq_true rfl) (Nat.le_of_ble_eq_true rfl) (Nat.le_of_ble_eq_true rfl) (Nat.le_of_ble_eq_true rfl) hlocks
set_option maxHeartbeats 4000000 in
set_option maxRecDepth 100000 in
theorem FG_known_2 (l : Launch) (hfl : l.flags = Jvm.pinnedFlags ++ [Jvm.noTraceFlag]) (dC : Nat → ClassId) (dI : Nat → Nat → Nat) (sz : Nat) (x0 : Nat) (xp : Nat) (xm : Nat) (xe : Nat) (xf : Nat) (xc : Nat) (xr : Nat) (p0 : Int32) (p1 : Int32) (p2 : Int32) (h1 : ¬ p2 < 0) (h2 : ¬ 3 < p2) : th_Met l y_FG_known (.code y_FG_known prog_1_method_13_code 4 (some .long) :: zz_W) ({ frames := 6, cells := 1, slots := 6, locals := 82 }) (va_Pc [.ref x0, .int p0, .int p1, .int p2] (zz_BS dC dI [(x0, .inr (0, [.ref xp, .ref xm, .ref xe, .ref xf, .ref xc, .ref xr, .int 0]))] [] sz)) E_NSE 1 6 := by
  refine th_ofW (cc := prog_1_method_13_code) (maxL := 4) (ret := (some .long)) (by decide) rfl ?_
  intro p e s m args below meth c s₁ B hml hv
  obtain ⟨rfl, ⟨hsz, hP, hK, hD0, hT⟩, hZ⟩ := hv
  have hx := B.exec
  have hb := B.bytes
  have hr := B.returns
  have hts0 := atoms_spec (ws := (.code y_FG_known prog_1_method_13_code 4 (some .long) :: zz_W)) B.pre
  have hts : ∀ w ∈ zz_W, w.before _ s = true := fun w h => hts0 w (List.mem_cons_of_mem _ h)
  have hown : s.vm.findClass R_FG = some m.cls := findClass_of_methodNamed B.named
  have hlocks := B.notSynchronized
  have hex := B.noHandlers (hts0 _ List.mem_cons_self)
  subst hsz
  obtain ⟨A, hAe⟩ : ∃ A, A = va_A [] s.heap.size := ⟨_, rfl⟩
  have hA : ∀ q : Nat, s.heap.size ≤ q → A q := fun q h => by rw [hAe]; exact Or.inr h
  have hS : va_S (va_A [] s.heap.size) s.heap s.heap [] := va_S.rf
  subst hAe
  have hl := lv_entry ([.ref x0, .int p0, .int p1, .int p2]) (n := 4) (Nat.le_of_ble_eq_true rfl)
  rw [lg_entry_eq]
  generalize (lg_sl ([.ref x0, .int p0, .int p1, .int p2]) ++ List.replicate (4 - (lg_sl ([.ref x0, .int p0, .int p1, .int p2])).length) Slot.unset).toArray = ls at hl ⊢
  have hl : lv_has ls 4 [(0, .ref x0), (1, .int p0), (2, .int p1), (3, .int p2)] := hl
  refine lv_iload_n hx hb d_FG_known_0 rfl (lv_at hl 3 rfl) ?_
  refine lv_iconst (v := 0) hx hb d_FG_known_1 (by decide) ?_
  refine lv_iconst (v := 3) hx hb d_FG_known_2 (by decide) ?_
  have hPc := hP.sub (ws' := []) [] rfl
  have hKc := hK.sub (tys' := []) [] rfl
  have hDc : va_D (fun _ => True) [] := (hD0.sub (ws' := []) [] (by decide) rfl)
  refine va_calli (va_runS (As := [.int p2, .int 0, .int 3]) (rest := []) ⟨hx, hb, hml, hown, hts⟩ (FG_within l dC dI s.heap.size p2 0 3) (zz_cS 3 hts mw_385 mw_387 mw_1 mw_386 rfl rfl hd_FG_within ⟨Nat.le_of_ble_eq_true rfl, Nat.le_of_ble_eq_true rfl⟩) ⟨zz_blind, fun U hU hW => ⟨rfl, zz_pre hPc hKc hDc hT U hU hW⟩⟩ rfl rfl hl.1 rfl (lv_room (Nat.le_of_ble_eq_true rfl)) d_FG_known_3 ⟨(Nat.le_of_ble_eq_true rfl), (Nat.le_of_ble_eq_true rfl)⟩) hS (fun q _ h => zz_Af hS hA h) (fun q h => zz_Af hS hA h) (fun rr1 u t H1 locs ht hvm hw hB hz1 hk1 hS => ?_)
  have hP := zz_keep hP hk1
  generalize H1 = H at hP hS ⊢
  rcases hw with ⟨rfl, f2, f3⟩ | ⟨rfl, f4⟩
  · refine lv_if_ne (tgt := 19) hx hb d_FG_known_6 (by decide) (fun _ => ?_) (fun h => absurd h (by decide))
    refine lv_aload_n hx hb d_FG_known_19 rfl (lv_at hl 0 rfl) ?_
    refine va_get (D := (dC, dI)) (ci := 0) (v := .int 0) (C := R_FG) (T := F_FG) (N := 7) hx hb hts i_FG hown hK hP 0 rfl rfl 6 (by decide) (hts _ mw_329) (fun _ h9 => h9) rfl d_FG_known_20 ?_
    refine lv_if_eq (tgt := 55) hx hb d_FG_known_23 (by decide) (fun _ => ?_) (fun h => absurd h (by decide))
    obtain ⟨zq, hzq⟩ := hT.2.2.2 (166, "no such instruction or register") (by decide +kernel)
    refine va_forget (fun q hq => zz_A0 (hS.2.2 q hq)) ?_
    exact th_throwNew (own := R_FG) (E := E_NSE) (tx := "no such instruction or register") hx hb hfl hown (by decide) x_NSE_0 x_NSE_1 x_NSE_2 x_NSE_5 (zz_up hts hT hZ) (zz_own_NSE hts hT) (zz_S.st hZ) (hts _ mw_1036) (hts _ mw_26) hzq (hl.1.trans hml.symm) d_FG_known_55 d_FG_known_58 d_FG_known_59 d_FG_known_61 d_FG_known_64 hex hS.1 (Nat.le_of_ble_eq_true rfl) (Nat.le_of_ble_eq_true rfl) (Nat.le_of_ble_eq_true rfl) (Nat.le_of_ble_eq_true rfl) hlocks
  · exact f4.elim (fun h => absurd h h1) (fun h => absurd h h2)
set_option maxHeartbeats 4000000 in
set_option maxRecDepth 100000 in
theorem Ru_strays (l : Launch) (dC : Nat → ClassId) (dI : Nat → Nat → Nat) (sz : Nat) (xr : Nat) (xp : Nat) (xf : Nat) (xe : Nat) (xm : Nat) (r1 : Nat) (r2 : Nat) (r3 : Nat) (e1 : Nat) (e2 : Nat) : Met l y_Ru_strays (.code y_Ru_strays prog_10_method_3_code 1 (some .int) :: zz_W) ({ frames := 0, cells := 0, slots := 0, locals := 0 }) (va_Pc [.ref xr] (zz_B dC dI [(xr, .inr (8, [.ref xp, .ref xf, .ref xe, .ref r1, .ref r2, .ref r3, .int 0, .int 0, .long 0, .int 0, .int 0, .int 0])), (xe, .inr (3, [.ref xm, .ref e1, .ref e2, .int 0, .int 0]))] [] sz)) (va_Qi (fun (r : Int32) (_ : Unit) => r = 0) (fun (_ : Unit) (_ : State) => True) (va_A [] sz)) 0 0 (va_A [] sz) := by
  refine Met.ofW (cc := prog_10_method_3_code) (maxL := 1) (ret := (some .int)) (by decide) rfl ?_
  intro p e s m args below meth c s₁ B hml hv
  obtain ⟨rfl, hsz, hP, hK, hD0, hT⟩ := hv
  have hx := B.exec
  have hb := B.bytes
  have hr := B.returns
  have hts0 := atoms_spec (ws := (.code y_Ru_strays prog_10_method_3_code 1 (some .int) :: zz_W)) B.pre
  have hts : ∀ w ∈ zz_W, w.before _ s = true := fun w h => hts0 w (List.mem_cons_of_mem _ h)
  have hown : s.vm.findClass R_Ru = some m.cls := findClass_of_methodNamed B.named
  have hlocks := B.notSynchronized
  subst hsz
  generalize hAe : va_A [] s.heap.size = A at ⊢
  have hA : ∀ q : Nat, s.heap.size ≤ q → A q := fun q h => by rw [← hAe]; exact Or.inr h
  have hS : va_S A s.heap s.heap [] := va_S.rf
  have hl := lv_entry ([.ref xr]) (n := 1) (Nat.le_of_ble_eq_true rfl)
  rw [lg_entry_eq]
  generalize (lg_sl ([.ref xr]) ++ List.replicate (1 - (lg_sl ([.ref xr])).length) Slot.unset).toArray = ls at hl ⊢
  have hl : lv_has ls 1 [(0, .ref xr)] := hl
  refine lv_aload_n hx hb d_Ru_strays_0 rfl (lv_at hl 0 rfl) ?_
  refine va_get (D := (dC, dI)) (ci := 8) (v := .int 0) (C := R_Ru) (T := F_Ru) (N := 12) hx hb hts i_Ru hown hK hP 0 rfl rfl 11 (by decide) (hts _ mw_297) (fun _ h9 => h9) rfl d_Ru_strays_1 ?_
  refine lv_aload_n hx hb d_Ru_strays_4 rfl (lv_at hl 0 rfl) ?_
  refine va_get (D := (dC, dI)) (ci := 8) (v := .ref xe) (C := R_Ru) (T := F_Ru) (N := 12) hx hb hts i_Ru hown hK hP 0 rfl rfl 2 (by decide) (hts _ mw_284) (fun _ h9 => h9) rfl d_Ru_strays_5 ?_
  refine va_get (D := (dC, dI)) (ci := 3) (v := .int 0) (C := R_Me) (T := F_Me) (N := 5) hx hb hts i_Me hown hK hP 1 rfl rfl 4 (by decide) (hts _ mw_133) (fun _ h9 => h9) rfl d_Ru_strays_8 ?_
  refine lv_iadd hx hb d_Ru_strays_11 ?_
  refine lv_topi (fun z1 ez1 => ?_)
  obtain rfl : z1 = 0 := ez1.trans (by decide)
  refine W.widen (k := 0) (n := 0) (by omega) (by omega) ?_
  exact W.iret (v := 0) hx hb hr (fun t ht hW => ⟨⟨0, (), rfl, rfl, trivial⟩, hS.F ht⟩) hS.2.2 d_Ru_strays_12
set_option maxHeartbeats 4000000 in
set_option maxRecDepth 100000 in
theorem FG_count_0 (l : Launch) (dC : Nat → ClassId) (dI : Nat → Nat → Nat) (sz : Nat) (x0 : Nat) (xp : Nat) (xm : Nat) (xe : Nat) (xf : Nat) (xc : Nat) (xr : Nat) (p1 : Nat) (p2 : Nat) (p3 : Nat) (p4 : Nat) (p5 : Nat) (m1 : Nat) (m2 : Nat) (m3 : Nat) (m4 : Nat) (m5 : Nat) (m6 : Nat) (m7 : Nat) (e1 : Nat) (e2 : Nat) (r1 : Nat) (r2 : Nat) (r3 : Nat) (k1 : Nat) (k2 : Nat) (k3 : Nat) (k4 : Nat) (k5 : Nat) (k6 : Nat) : Met l y_FG_count (.code y_FG_count prog_1_method_14_code 2 (some .int) :: zz_W) ({ frames := 0, cells := 0, slots := 0, locals := 0 }) (va_Pc [.ref x0, .int 0] (zz_B dC dI [(x0, .inr (0, [.ref xp, .ref xm, .ref xe, .ref xf, .ref xc, .ref xr, .int 0])), (xp, .inr (1, [.ref p1, .ref p2, .ref p3, .ref p4, .ref p5, .int 0])), (xm, .inr (2, [.ref m1, .ref m2, .ref m3, .ref m4, .ref m5, .ref m6, .ref m7, .int 0])), (xe, .inr (3, [.ref xm, .ref e1, .ref e2, .int 0, .int 0])), (xr, .inr (8, [.ref xp, .ref xf, .ref xe, .ref r1, .ref r2, .ref r3, .int 0, .int 0, .long 0, .int 0, .int 0, .int 0])), (xc, .inr (5, [.ref xp, .ref xm, .ref xf, .ref k1, .ref k2, .ref k3, .ref k4, .ref k5, .ref k6, .int 0, .int 0, .int 0, .int 0, .int (-1)]))] [] sz)) (va_Qi (fun (r : Int32) (_ : Unit) => r = 0) (fun (_ : Unit) (_ : State) => True) (va_A [] sz)) 0 0 (va_A [] sz) := by
  refine Met.ofW (cc := prog_1_method_14_code) (maxL := 2) (ret := (some .int)) (by decide) rfl ?_
  intro p e s m args below meth c s₁ B hml hv
  obtain ⟨rfl, hsz, hP, hK, hD0, hT⟩ := hv
  have hx := B.exec
  have hb := B.bytes
  have hr := B.returns
  have hts0 := atoms_spec (ws := (.code y_FG_count prog_1_method_14_code 2 (some .int) :: zz_W)) B.pre
  have hts : ∀ w ∈ zz_W, w.before _ s = true := fun w h => hts0 w (List.mem_cons_of_mem _ h)
  have hown : s.vm.findClass R_FG = some m.cls := findClass_of_methodNamed B.named
  have hlocks := B.notSynchronized
  subst hsz
  generalize hAe : va_A [] s.heap.size = A at ⊢
  have hA : ∀ q : Nat, s.heap.size ≤ q → A q := fun q h => by rw [← hAe]; exact Or.inr h
  have hS : va_S A s.heap s.heap [] := va_S.rf
  have hl := lv_entry ([.ref x0, .int 0]) (n := 2) (Nat.le_of_ble_eq_true rfl)
  rw [lg_entry_eq]
  generalize (lg_sl ([.ref x0, .int 0]) ++ List.replicate (2 - (lg_sl ([.ref x0, .int 0])).length) Slot.unset).toArray = ls at hl ⊢
  have hl : lv_has ls 2 [(0, .ref x0), (1, .int 0)] := hl
  refine lv_iload_n hx hb d_FG_count_0 rfl (lv_at hl 1 rfl) ?_
  refine lv_tableIn (tgt := 56) (off := 55) hx hb d_FG_count_1 (by decide) (by decide) (by decide) (by decide) ?_
  refine lv_aload_n hx hb d_FG_count_56 rfl (lv_at hl 0 rfl) ?_
  refine va_get (D := (dC, dI)) (ci := 0) (v := .ref xp) (C := R_FG) (T := F_FG) (N := 7) hx hb hts i_FG hown hK hP 0 rfl rfl 0 (by decide) (hts _ mw_323) (fun _ h9 => h9) rfl d_FG_count_57 ?_
  refine va_get (D := (dC, dI)) (ci := 1) (v := .int 0) (C := R_Pr) (T := F_Pr) (N := 6) hx hb hts i_Pr hown hK hP 1 rfl rfl 5 (by decide) (hts _ mw_57) (fun _ h9 => h9) rfl d_FG_count_60 ?_
  refine W.widen (k := 0) (n := 0) (by omega) (by omega) ?_
  exact W.iret (v := 0) hx hb hr (fun t ht hW => ⟨⟨0, (), rfl, rfl, trivial⟩, hS.F ht⟩) hS.2.2 d_FG_count_63
set_option maxHeartbeats 4000000 in
set_option maxRecDepth 100000 in
theorem FG_count_1 (l : Launch) (dC : Nat → ClassId) (dI : Nat → Nat → Nat) (sz : Nat) (x0 : Nat) (xp : Nat) (xm : Nat) (xe : Nat) (xf : Nat) (xc : Nat) (xr : Nat) (p1 : Nat) (p2 : Nat) (p3 : Nat) (p4 : Nat) (p5 : Nat) (m1 : Nat) (m2 : Nat) (m3 : Nat) (m4 : Nat) (m5 : Nat) (m6 : Nat) (m7 : Nat) (e1 : Nat) (e2 : Nat) (r1 : Nat) (r2 : Nat) (r3 : Nat) (k1 : Nat) (k2 : Nat) (k3 : Nat) (k4 : Nat) (k5 : Nat) (k6 : Nat) : Met l y_FG_count (.code y_FG_count prog_1_method_14_code 2 (some .int) :: zz_W) ({ frames := 0, cells := 0, slots := 0, locals := 0 }) (va_Pc [.ref x0, .int 1] (zz_B dC dI [(x0, .inr (0, [.ref xp, .ref xm, .ref xe, .ref xf, .ref xc, .ref xr, .int 0])), (xp, .inr (1, [.ref p1, .ref p2, .ref p3, .ref p4, .ref p5, .int 0])), (xm, .inr (2, [.ref m1, .ref m2, .ref m3, .ref m4, .ref m5, .ref m6, .ref m7, .int 0])), (xe, .inr (3, [.ref xm, .ref e1, .ref e2, .int 0, .int 0])), (xr, .inr (8, [.ref xp, .ref xf, .ref xe, .ref r1, .ref r2, .ref r3, .int 0, .int 0, .long 0, .int 0, .int 0, .int 0])), (xc, .inr (5, [.ref xp, .ref xm, .ref xf, .ref k1, .ref k2, .ref k3, .ref k4, .ref k5, .ref k6, .int 0, .int 0, .int 0, .int 0, .int (-1)]))] [] sz)) (va_Qi (fun (r : Int32) (_ : Unit) => r = 0) (fun (_ : Unit) (_ : State) => True) (va_A [] sz)) 0 0 (va_A [] sz) := by
  refine Met.ofW (cc := prog_1_method_14_code) (maxL := 2) (ret := (some .int)) (by decide) rfl ?_
  intro p e s m args below meth c s₁ B hml hv
  obtain ⟨rfl, hsz, hP, hK, hD0, hT⟩ := hv
  have hx := B.exec
  have hb := B.bytes
  have hr := B.returns
  have hts0 := atoms_spec (ws := (.code y_FG_count prog_1_method_14_code 2 (some .int) :: zz_W)) B.pre
  have hts : ∀ w ∈ zz_W, w.before _ s = true := fun w h => hts0 w (List.mem_cons_of_mem _ h)
  have hown : s.vm.findClass R_FG = some m.cls := findClass_of_methodNamed B.named
  have hlocks := B.notSynchronized
  subst hsz
  generalize hAe : va_A [] s.heap.size = A at ⊢
  have hA : ∀ q : Nat, s.heap.size ≤ q → A q := fun q h => by rw [← hAe]; exact Or.inr h
  have hS : va_S A s.heap s.heap [] := va_S.rf
  have hl := lv_entry ([.ref x0, .int 1]) (n := 2) (Nat.le_of_ble_eq_true rfl)
  rw [lg_entry_eq]
  generalize (lg_sl ([.ref x0, .int 1]) ++ List.replicate (2 - (lg_sl ([.ref x0, .int 1])).length) Slot.unset).toArray = ls at hl ⊢
  have hl : lv_has ls 2 [(0, .ref x0), (1, .int 1)] := hl
  refine lv_iload_n hx hb d_FG_count_0 rfl (lv_at hl 1 rfl) ?_
  refine lv_tableIn (tgt := 64) (off := 63) hx hb d_FG_count_1 (by decide) (by decide) (by decide) (by decide) ?_
  refine lv_aload_n hx hb d_FG_count_64 rfl (lv_at hl 0 rfl) ?_
  refine va_get (D := (dC, dI)) (ci := 0) (v := .ref xm) (C := R_FG) (T := F_FG) (N := 7) hx hb hts i_FG hown hK hP 0 rfl rfl 1 (by decide) (hts _ mw_324) (fun _ h9 => h9) rfl d_FG_count_65 ?_
  refine va_get (D := (dC, dI)) (ci := 2) (v := .int 0) (C := R_Ma) (T := F_Ma) (N := 8) hx hb hts i_Ma hown hK hP 2 rfl rfl 7 (by decide) (hts _ mw_97) (fun _ h9 => h9) rfl d_FG_count_68 ?_
  refine W.widen (k := 0) (n := 0) (by omega) (by omega) ?_
  exact W.iret (v := 0) hx hb hr (fun t ht hW => ⟨⟨0, (), rfl, rfl, trivial⟩, hS.F ht⟩) hS.2.2 d_FG_count_71
set_option maxHeartbeats 4000000 in
set_option maxRecDepth 100000 in
theorem FG_count_2 (l : Launch) (dC : Nat → ClassId) (dI : Nat → Nat → Nat) (sz : Nat) (x0 : Nat) (xp : Nat) (xm : Nat) (xe : Nat) (xf : Nat) (xc : Nat) (xr : Nat) (p1 : Nat) (p2 : Nat) (p3 : Nat) (p4 : Nat) (p5 : Nat) (m1 : Nat) (m2 : Nat) (m3 : Nat) (m4 : Nat) (m5 : Nat) (m6 : Nat) (m7 : Nat) (e1 : Nat) (e2 : Nat) (r1 : Nat) (r2 : Nat) (r3 : Nat) (k1 : Nat) (k2 : Nat) (k3 : Nat) (k4 : Nat) (k5 : Nat) (k6 : Nat) : Met l y_FG_count (.code y_FG_count prog_1_method_14_code 2 (some .int) :: zz_W) ({ frames := 0, cells := 0, slots := 0, locals := 0 }) (va_Pc [.ref x0, .int 2] (zz_B dC dI [(x0, .inr (0, [.ref xp, .ref xm, .ref xe, .ref xf, .ref xc, .ref xr, .int 0])), (xp, .inr (1, [.ref p1, .ref p2, .ref p3, .ref p4, .ref p5, .int 0])), (xm, .inr (2, [.ref m1, .ref m2, .ref m3, .ref m4, .ref m5, .ref m6, .ref m7, .int 0])), (xe, .inr (3, [.ref xm, .ref e1, .ref e2, .int 0, .int 0])), (xr, .inr (8, [.ref xp, .ref xf, .ref xe, .ref r1, .ref r2, .ref r3, .int 0, .int 0, .long 0, .int 0, .int 0, .int 0])), (xc, .inr (5, [.ref xp, .ref xm, .ref xf, .ref k1, .ref k2, .ref k3, .ref k4, .ref k5, .ref k6, .int 0, .int 0, .int 0, .int 0, .int (-1)]))] [] sz)) (va_Qi (fun (r : Int32) (_ : Unit) => r = 0) (fun (_ : Unit) (_ : State) => True) (va_A [] sz)) 0 0 (va_A [] sz) := by
  refine Met.ofW (cc := prog_1_method_14_code) (maxL := 2) (ret := (some .int)) (by decide) rfl ?_
  intro p e s m args below meth c s₁ B hml hv
  obtain ⟨rfl, hsz, hP, hK, hD0, hT⟩ := hv
  have hx := B.exec
  have hb := B.bytes
  have hr := B.returns
  have hts0 := atoms_spec (ws := (.code y_FG_count prog_1_method_14_code 2 (some .int) :: zz_W)) B.pre
  have hts : ∀ w ∈ zz_W, w.before _ s = true := fun w h => hts0 w (List.mem_cons_of_mem _ h)
  have hown : s.vm.findClass R_FG = some m.cls := findClass_of_methodNamed B.named
  have hlocks := B.notSynchronized
  subst hsz
  generalize hAe : va_A [] s.heap.size = A at ⊢
  have hA : ∀ q : Nat, s.heap.size ≤ q → A q := fun q h => by rw [← hAe]; exact Or.inr h
  have hS : va_S A s.heap s.heap [] := va_S.rf
  have hl := lv_entry ([.ref x0, .int 2]) (n := 2) (Nat.le_of_ble_eq_true rfl)
  rw [lg_entry_eq]
  generalize (lg_sl ([.ref x0, .int 2]) ++ List.replicate (2 - (lg_sl ([.ref x0, .int 2])).length) Slot.unset).toArray = ls at hl ⊢
  have hl : lv_has ls 2 [(0, .ref x0), (1, .int 2)] := hl
  refine lv_iload_n hx hb d_FG_count_0 rfl (lv_at hl 1 rfl) ?_
  refine lv_tableIn (tgt := 72) (off := 71) hx hb d_FG_count_1 (by decide) (by decide) (by decide) (by decide) ?_
  refine lv_aload_n hx hb d_FG_count_72 rfl (lv_at hl 0 rfl) ?_
  refine va_get (D := (dC, dI)) (ci := 0) (v := .ref xe) (C := R_FG) (T := F_FG) (N := 7) hx hb hts i_FG hown hK hP 0 rfl rfl 2 (by decide) (hts _ mw_325) (fun _ h9 => h9) rfl d_FG_count_73 ?_
  refine va_get (D := (dC, dI)) (ci := 3) (v := .int 0) (C := R_Me) (T := F_Me) (N := 5) hx hb hts i_Me hown hK hP 3 rfl rfl 3 (by decide) (hts _ mw_132) (fun _ h9 => h9) rfl d_FG_count_76 ?_
  refine W.widen (k := 0) (n := 0) (by omega) (by omega) ?_
  exact W.iret (v := 0) hx hb hr (fun t ht hW => ⟨⟨0, (), rfl, rfl, trivial⟩, hS.F ht⟩) hS.2.2 d_FG_count_79
set_option maxHeartbeats 4000000 in
set_option maxRecDepth 100000 in
theorem FG_count_3 (l : Launch) (dC : Nat → ClassId) (dI : Nat → Nat → Nat) (sz : Nat) (x0 : Nat) (xp : Nat) (xm : Nat) (xe : Nat) (xf : Nat) (xc : Nat) (xr : Nat) (p1 : Nat) (p2 : Nat) (p3 : Nat) (p4 : Nat) (p5 : Nat) (m1 : Nat) (m2 : Nat) (m3 : Nat) (m4 : Nat) (m5 : Nat) (m6 : Nat) (m7 : Nat) (e1 : Nat) (e2 : Nat) (r1 : Nat) (r2 : Nat) (r3 : Nat) (k1 : Nat) (k2 : Nat) (k3 : Nat) (k4 : Nat) (k5 : Nat) (k6 : Nat) : Met l y_FG_count (.code y_FG_count prog_1_method_14_code 2 (some .int) :: zz_W) ({ frames := 0, cells := 0, slots := 0, locals := 0 }) (va_Pc [.ref x0, .int 3] (zz_B dC dI [(x0, .inr (0, [.ref xp, .ref xm, .ref xe, .ref xf, .ref xc, .ref xr, .int 0])), (xp, .inr (1, [.ref p1, .ref p2, .ref p3, .ref p4, .ref p5, .int 0])), (xm, .inr (2, [.ref m1, .ref m2, .ref m3, .ref m4, .ref m5, .ref m6, .ref m7, .int 0])), (xe, .inr (3, [.ref xm, .ref e1, .ref e2, .int 0, .int 0])), (xr, .inr (8, [.ref xp, .ref xf, .ref xe, .ref r1, .ref r2, .ref r3, .int 0, .int 0, .long 0, .int 0, .int 0, .int 0])), (xc, .inr (5, [.ref xp, .ref xm, .ref xf, .ref k1, .ref k2, .ref k3, .ref k4, .ref k5, .ref k6, .int 0, .int 0, .int 0, .int 0, .int (-1)]))] [] sz)) (va_Qi (fun (r : Int32) (_ : Unit) => r = 0) (fun (_ : Unit) (_ : State) => True) (va_A [] sz)) 0 0 (va_A [] sz) := by
  refine Met.ofW (cc := prog_1_method_14_code) (maxL := 2) (ret := (some .int)) (by decide) rfl ?_
  intro p e s m args below meth c s₁ B hml hv
  obtain ⟨rfl, hsz, hP, hK, hD0, hT⟩ := hv
  have hx := B.exec
  have hb := B.bytes
  have hr := B.returns
  have hts0 := atoms_spec (ws := (.code y_FG_count prog_1_method_14_code 2 (some .int) :: zz_W)) B.pre
  have hts : ∀ w ∈ zz_W, w.before _ s = true := fun w h => hts0 w (List.mem_cons_of_mem _ h)
  have hown : s.vm.findClass R_FG = some m.cls := findClass_of_methodNamed B.named
  have hlocks := B.notSynchronized
  subst hsz
  generalize hAe : va_A [] s.heap.size = A at ⊢
  have hA : ∀ q : Nat, s.heap.size ≤ q → A q := fun q h => by rw [← hAe]; exact Or.inr h
  have hS : va_S A s.heap s.heap [] := va_S.rf
  have hl := lv_entry ([.ref x0, .int 3]) (n := 2) (Nat.le_of_ble_eq_true rfl)
  rw [lg_entry_eq]
  generalize (lg_sl ([.ref x0, .int 3]) ++ List.replicate (2 - (lg_sl ([.ref x0, .int 3])).length) Slot.unset).toArray = ls at hl ⊢
  have hl : lv_has ls 2 [(0, .ref x0), (1, .int 3)] := hl
  refine lv_iload_n hx hb d_FG_count_0 rfl (lv_at hl 1 rfl) ?_
  refine lv_tableIn (tgt := 80) (off := 79) hx hb d_FG_count_1 (by decide) (by decide) (by decide) (by decide) ?_
  refine lv_aload_n hx hb d_FG_count_80 rfl (lv_at hl 0 rfl) ?_
  refine va_get (D := (dC, dI)) (ci := 0) (v := .ref xr) (C := R_FG) (T := F_FG) (N := 7) hx hb hts i_FG hown hK hP 0 rfl rfl 5 (by decide) (hts _ mw_328) (fun _ h9 => h9) rfl d_FG_count_81 ?_
  refine va_get (D := (dC, dI)) (ci := 8) (v := .int 0) (C := R_Ru) (T := F_Ru) (N := 12) hx hb hts i_Ru hown hK hP 4 rfl rfl 6 (by decide) (hts _ mw_290) (fun _ h9 => h9) rfl d_FG_count_84 ?_
  refine W.widen (k := 0) (n := 0) (by omega) (by omega) ?_
  exact W.iret (v := 0) hx hb hr (fun t ht hW => ⟨⟨0, (), rfl, rfl, trivial⟩, hS.F ht⟩) hS.2.2 d_FG_count_87
set_option maxHeartbeats 4000000 in
set_option maxRecDepth 100000 in
theorem FG_count_4 (l : Launch) (dC : Nat → ClassId) (dI : Nat → Nat → Nat) (sz : Nat) (x0 : Nat) (xp : Nat) (xm : Nat) (xe : Nat) (xf : Nat) (xc : Nat) (xr : Nat) (p1 : Nat) (p2 : Nat) (p3 : Nat) (p4 : Nat) (p5 : Nat) (m1 : Nat) (m2 : Nat) (m3 : Nat) (m4 : Nat) (m5 : Nat) (m6 : Nat) (m7 : Nat) (e1 : Nat) (e2 : Nat) (r1 : Nat) (r2 : Nat) (r3 : Nat) (k1 : Nat) (k2 : Nat) (k3 : Nat) (k4 : Nat) (k5 : Nat) (k6 : Nat) : Met l y_FG_count (.code y_FG_count prog_1_method_14_code 2 (some .int) :: zz_W) ({ frames := 0, cells := 0, slots := 0, locals := 0 }) (va_Pc [.ref x0, .int 4] (zz_B dC dI [(x0, .inr (0, [.ref xp, .ref xm, .ref xe, .ref xf, .ref xc, .ref xr, .int 0])), (xp, .inr (1, [.ref p1, .ref p2, .ref p3, .ref p4, .ref p5, .int 0])), (xm, .inr (2, [.ref m1, .ref m2, .ref m3, .ref m4, .ref m5, .ref m6, .ref m7, .int 0])), (xe, .inr (3, [.ref xm, .ref e1, .ref e2, .int 0, .int 0])), (xr, .inr (8, [.ref xp, .ref xf, .ref xe, .ref r1, .ref r2, .ref r3, .int 0, .int 0, .long 0, .int 0, .int 0, .int 0])), (xc, .inr (5, [.ref xp, .ref xm, .ref xf, .ref k1, .ref k2, .ref k3, .ref k4, .ref k5, .ref k6, .int 0, .int 0, .int 0, .int 0, .int (-1)]))] [] sz)) (va_Qi (fun (r : Int32) (_ : Unit) => r = 0) (fun (_ : Unit) (_ : State) => True) (va_A [] sz)) 0 0 (va_A [] sz) := by
  refine Met.ofW (cc := prog_1_method_14_code) (maxL := 2) (ret := (some .int)) (by decide) rfl ?_
  intro p e s m args below meth c s₁ B hml hv
  obtain ⟨rfl, hsz, hP, hK, hD0, hT⟩ := hv
  have hx := B.exec
  have hb := B.bytes
  have hr := B.returns
  have hts0 := atoms_spec (ws := (.code y_FG_count prog_1_method_14_code 2 (some .int) :: zz_W)) B.pre
  have hts : ∀ w ∈ zz_W, w.before _ s = true := fun w h => hts0 w (List.mem_cons_of_mem _ h)
  have hown : s.vm.findClass R_FG = some m.cls := findClass_of_methodNamed B.named
  have hlocks := B.notSynchronized
  subst hsz
  generalize hAe : va_A [] s.heap.size = A at ⊢
  have hA : ∀ q : Nat, s.heap.size ≤ q → A q := fun q h => by rw [← hAe]; exact Or.inr h
  have hS : va_S A s.heap s.heap [] := va_S.rf
  have hl := lv_entry ([.ref x0, .int 4]) (n := 2) (Nat.le_of_ble_eq_true rfl)
  rw [lg_entry_eq]
  generalize (lg_sl ([.ref x0, .int 4]) ++ List.replicate (2 - (lg_sl ([.ref x0, .int 4])).length) Slot.unset).toArray = ls at hl ⊢
  have hl : lv_has ls 2 [(0, .ref x0), (1, .int 4)] := hl
  refine lv_iload_n hx hb d_FG_count_0 rfl (lv_at hl 1 rfl) ?_
  refine lv_tableIn (tgt := 88) (off := 87) hx hb d_FG_count_1 (by decide) (by decide) (by decide) (by decide) ?_
  refine lv_aload_n hx hb d_FG_count_88 rfl (lv_at hl 0 rfl) ?_
  refine va_get (D := (dC, dI)) (ci := 0) (v := .int 0) (C := R_FG) (T := F_FG) (N := 7) hx hb hts i_FG hown hK hP 0 rfl rfl 6 (by decide) (hts _ mw_329) (fun _ h9 => h9) rfl d_FG_count_89 ?_
  refine lv_if_eq (tgt := 99) hx hb d_FG_count_92 (by decide) (fun _ => ?_) (fun h => absurd h (by decide))
  refine lv_iconst (v := 0) hx hb d_FG_count_99 (by decide) ?_
  refine W.widen (k := 0) (n := 0) (by omega) (by omega) ?_
  exact W.iret (v := 0) hx hb hr (fun t ht hW => ⟨⟨0, (), rfl, rfl, trivial⟩, hS.F ht⟩) hS.2.2 d_FG_count_100
set_option maxHeartbeats 4000000 in
set_option maxRecDepth 100000 in
theorem FG_count_5 (l : Launch) (dC : Nat → ClassId) (dI : Nat → Nat → Nat) (sz : Nat) (x0 : Nat) (xp : Nat) (xm : Nat) (xe : Nat) (xf : Nat) (xc : Nat) (xr : Nat) (p1 : Nat) (p2 : Nat) (p3 : Nat) (p4 : Nat) (p5 : Nat) (m1 : Nat) (m2 : Nat) (m3 : Nat) (m4 : Nat) (m5 : Nat) (m6 : Nat) (m7 : Nat) (e1 : Nat) (e2 : Nat) (r1 : Nat) (r2 : Nat) (r3 : Nat) (k1 : Nat) (k2 : Nat) (k3 : Nat) (k4 : Nat) (k5 : Nat) (k6 : Nat) : Met l y_FG_count (.code y_FG_count prog_1_method_14_code 2 (some .int) :: zz_W) ({ frames := 0, cells := 0, slots := 0, locals := 0 }) (va_Pc [.ref x0, .int 5] (zz_B dC dI [(x0, .inr (0, [.ref xp, .ref xm, .ref xe, .ref xf, .ref xc, .ref xr, .int 0])), (xp, .inr (1, [.ref p1, .ref p2, .ref p3, .ref p4, .ref p5, .int 0])), (xm, .inr (2, [.ref m1, .ref m2, .ref m3, .ref m4, .ref m5, .ref m6, .ref m7, .int 0])), (xe, .inr (3, [.ref xm, .ref e1, .ref e2, .int 0, .int 0])), (xr, .inr (8, [.ref xp, .ref xf, .ref xe, .ref r1, .ref r2, .ref r3, .int 0, .int 0, .long 0, .int 0, .int 0, .int 0])), (xc, .inr (5, [.ref xp, .ref xm, .ref xf, .ref k1, .ref k2, .ref k3, .ref k4, .ref k5, .ref k6, .int 0, .int 0, .int 0, .int 0, .int (-1)]))] [] sz)) (va_Qi (fun (r : Int32) (_ : Unit) => r = 0) (fun (_ : Unit) (_ : State) => True) (va_A [] sz)) 0 0 (va_A [] sz) := by
  refine Met.ofW (cc := prog_1_method_14_code) (maxL := 2) (ret := (some .int)) (by decide) rfl ?_
  intro p e s m args below meth c s₁ B hml hv
  obtain ⟨rfl, hsz, hP, hK, hD0, hT⟩ := hv
  have hx := B.exec
  have hb := B.bytes
  have hr := B.returns
  have hts0 := atoms_spec (ws := (.code y_FG_count prog_1_method_14_code 2 (some .int) :: zz_W)) B.pre
  have hts : ∀ w ∈ zz_W, w.before _ s = true := fun w h => hts0 w (List.mem_cons_of_mem _ h)
  have hown : s.vm.findClass R_FG = some m.cls := findClass_of_methodNamed B.named
  have hlocks := B.notSynchronized
  subst hsz
  generalize hAe : va_A [] s.heap.size = A at ⊢
  have hA : ∀ q : Nat, s.heap.size ≤ q → A q := fun q h => by rw [← hAe]; exact Or.inr h
  have hS : va_S A s.heap s.heap [] := va_S.rf
  have hl := lv_entry ([.ref x0, .int 5]) (n := 2) (Nat.le_of_ble_eq_true rfl)
  rw [lg_entry_eq]
  generalize (lg_sl ([.ref x0, .int 5]) ++ List.replicate (2 - (lg_sl ([.ref x0, .int 5])).length) Slot.unset).toArray = ls at hl ⊢
  have hl : lv_has ls 2 [(0, .ref x0), (1, .int 5)] := hl
  refine lv_iload_n hx hb d_FG_count_0 rfl (lv_at hl 1 rfl) ?_
  refine lv_tableIn (tgt := 101) (off := 100) hx hb d_FG_count_1 (by decide) (by decide) (by decide) (by decide) ?_
  refine lv_aload_n hx hb d_FG_count_101 rfl (lv_at hl 0 rfl) ?_
  refine va_get (D := (dC, dI)) (ci := 0) (v := .ref xc) (C := R_FG) (T := F_FG) (N := 7) hx hb hts i_FG hown hK hP 0 rfl rfl 4 (by decide) (hts _ mw_327) (fun _ h9 => h9) rfl d_FG_count_102 ?_
  refine va_get (D := (dC, dI)) (ci := 5) (v := .int 0) (C := R_Ch) (T := F_Ch) (N := 14) hx hb hts i_Ch hown hK hP 5 rfl rfl 12 (by decide) (hts _ mw_244) (fun _ h9 => h9) rfl d_FG_count_105 ?_
  refine W.widen (k := 0) (n := 0) (by omega) (by omega) ?_
  exact W.iret (v := 0) hx hb hr (fun t ht hW => ⟨⟨0, (), rfl, rfl, trivial⟩, hS.F ht⟩) hS.2.2 d_FG_count_108
set_option maxHeartbeats 4000000 in
set_option maxRecDepth 100000 in
theorem FG_count_6 (l : Launch) (dC : Nat → ClassId) (dI : Nat → Nat → Nat) (sz : Nat) (x0 : Nat) (xp : Nat) (xm : Nat) (xe : Nat) (xf : Nat) (xc : Nat) (xr : Nat) (p1 : Nat) (p2 : Nat) (p3 : Nat) (p4 : Nat) (p5 : Nat) (m1 : Nat) (m2 : Nat) (m3 : Nat) (m4 : Nat) (m5 : Nat) (m6 : Nat) (m7 : Nat) (e1 : Nat) (e2 : Nat) (r1 : Nat) (r2 : Nat) (r3 : Nat) (k1 : Nat) (k2 : Nat) (k3 : Nat) (k4 : Nat) (k5 : Nat) (k6 : Nat) : Met l y_FG_count (.code y_FG_count prog_1_method_14_code 2 (some .int) :: zz_W) ({ frames := 0, cells := 0, slots := 0, locals := 0 }) (va_Pc [.ref x0, .int 6] (zz_B dC dI [(x0, .inr (0, [.ref xp, .ref xm, .ref xe, .ref xf, .ref xc, .ref xr, .int 0])), (xp, .inr (1, [.ref p1, .ref p2, .ref p3, .ref p4, .ref p5, .int 0])), (xm, .inr (2, [.ref m1, .ref m2, .ref m3, .ref m4, .ref m5, .ref m6, .ref m7, .int 0])), (xe, .inr (3, [.ref xm, .ref e1, .ref e2, .int 0, .int 0])), (xr, .inr (8, [.ref xp, .ref xf, .ref xe, .ref r1, .ref r2, .ref r3, .int 0, .int 0, .long 0, .int 0, .int 0, .int 0])), (xc, .inr (5, [.ref xp, .ref xm, .ref xf, .ref k1, .ref k2, .ref k3, .ref k4, .ref k5, .ref k6, .int 0, .int 0, .int 0, .int 0, .int (-1)]))] [] sz)) (va_Qi (fun (r : Int32) (_ : Unit) => r = (-1)) (fun (_ : Unit) (_ : State) => True) (va_A [] sz)) 0 0 (va_A [] sz) := by
  refine Met.ofW (cc := prog_1_method_14_code) (maxL := 2) (ret := (some .int)) (by decide) rfl ?_
  intro p e s m args below meth c s₁ B hml hv
  obtain ⟨rfl, hsz, hP, hK, hD0, hT⟩ := hv
  have hx := B.exec
  have hb := B.bytes
  have hr := B.returns
  have hts0 := atoms_spec (ws := (.code y_FG_count prog_1_method_14_code 2 (some .int) :: zz_W)) B.pre
  have hts : ∀ w ∈ zz_W, w.before _ s = true := fun w h => hts0 w (List.mem_cons_of_mem _ h)
  have hown : s.vm.findClass R_FG = some m.cls := findClass_of_methodNamed B.named
  have hlocks := B.notSynchronized
  subst hsz
  generalize hAe : va_A [] s.heap.size = A at ⊢
  have hA : ∀ q : Nat, s.heap.size ≤ q → A q := fun q h => by rw [← hAe]; exact Or.inr h
  have hS : va_S A s.heap s.heap [] := va_S.rf
  have hl := lv_entry ([.ref x0, .int 6]) (n := 2) (Nat.le_of_ble_eq_true rfl)
  rw [lg_entry_eq]
  generalize (lg_sl ([.ref x0, .int 6]) ++ List.replicate (2 - (lg_sl ([.ref x0, .int 6])).length) Slot.unset).toArray = ls at hl ⊢
  have hl : lv_has ls 2 [(0, .ref x0), (1, .int 6)] := hl
  refine lv_iload_n hx hb d_FG_count_0 rfl (lv_at hl 1 rfl) ?_
  refine lv_tableIn (tgt := 109) (off := 108) hx hb d_FG_count_1 (by decide) (by decide) (by decide) (by decide) ?_
  refine lv_aload_n hx hb d_FG_count_109 rfl (lv_at hl 0 rfl) ?_
  refine va_get (D := (dC, dI)) (ci := 0) (v := .ref xc) (C := R_FG) (T := F_FG) (N := 7) hx hb hts i_FG hown hK hP 0 rfl rfl 4 (by decide) (hts _ mw_327) (fun _ h9 => h9) rfl d_FG_count_110 ?_
  refine va_get (D := (dC, dI)) (ci := 5) (v := .int (-1)) (C := R_Ch) (T := F_Ch) (N := 14) hx hb hts i_Ch hown hK hP 5 rfl rfl 13 (by decide) (hts _ mw_246) (fun _ h9 => h9) rfl d_FG_count_113 ?_
  refine W.widen (k := 0) (n := 0) (by omega) (by omega) ?_
  exact W.iret (v := (-1)) hx hb hr (fun t ht hW => ⟨⟨(-1), (), rfl, rfl, trivial⟩, hS.F ht⟩) hS.2.2 d_FG_count_116
set_option maxHeartbeats 4000000 in
set_option maxRecDepth 100000 in
theorem FG_count_7 (l : Launch) (dC : Nat → ClassId) (dI : Nat → Nat → Nat) (sz : Nat) (x0 : Nat) (xp : Nat) (xm : Nat) (xe : Nat) (xf : Nat) (xc : Nat) (xr : Nat) (p1 : Nat) (p2 : Nat) (p3 : Nat) (p4 : Nat) (p5 : Nat) (m1 : Nat) (m2 : Nat) (m3 : Nat) (m4 : Nat) (m5 : Nat) (m6 : Nat) (m7 : Nat) (e1 : Nat) (e2 : Nat) (r1 : Nat) (r2 : Nat) (r3 : Nat) (k1 : Nat) (k2 : Nat) (k3 : Nat) (k4 : Nat) (k5 : Nat) (k6 : Nat) : Met l y_FG_count (.code y_FG_count prog_1_method_14_code 2 (some .int) :: zz_W) ({ frames := 0, cells := 0, slots := 0, locals := 0 }) (va_Pc [.ref x0, .int 7] (zz_B dC dI [(x0, .inr (0, [.ref xp, .ref xm, .ref xe, .ref xf, .ref xc, .ref xr, .int 0])), (xp, .inr (1, [.ref p1, .ref p2, .ref p3, .ref p4, .ref p5, .int 0])), (xm, .inr (2, [.ref m1, .ref m2, .ref m3, .ref m4, .ref m5, .ref m6, .ref m7, .int 0])), (xe, .inr (3, [.ref xm, .ref e1, .ref e2, .int 0, .int 0])), (xr, .inr (8, [.ref xp, .ref xf, .ref xe, .ref r1, .ref r2, .ref r3, .int 0, .int 0, .long 0, .int 0, .int 0, .int 0])), (xc, .inr (5, [.ref xp, .ref xm, .ref xf, .ref k1, .ref k2, .ref k3, .ref k4, .ref k5, .ref k6, .int 0, .int 0, .int 0, .int 0, .int (-1)]))] [] sz)) (va_Qi (fun (r : Int32) (_ : Unit) => r = 0) (fun (_ : Unit) (_ : State) => True) (va_A [] sz)) 0 0 (va_A [] sz) := by
  refine Met.ofW (cc := prog_1_method_14_code) (maxL := 2) (ret := (some .int)) (by decide) rfl ?_
  intro p e s m args below meth c s₁ B hml hv
  obtain ⟨rfl, hsz, hP, hK, hD0, hT⟩ := hv
  have hx := B.exec
  have hb := B.bytes
  have hr := B.returns
  have hts0 := atoms_spec (ws := (.code y_FG_count prog_1_method_14_code 2 (some .int) :: zz_W)) B.pre
  have hts : ∀ w ∈ zz_W, w.before _ s = true := fun w h => hts0 w (List.mem_cons_of_mem _ h)
  have hown : s.vm.findClass R_FG = some m.cls := findClass_of_methodNamed B.named
  have hlocks := B.notSynchronized
  subst hsz
  generalize hAe : va_A [] s.heap.size = A at ⊢
  have hA : ∀ q : Nat, s.heap.size ≤ q → A q := fun q h => by rw [← hAe]; exact Or.inr h
  have hS : va_S A s.heap s.heap [] := va_S.rf
  have hl := lv_entry ([.ref x0, .int 7]) (n := 2) (Nat.le_of_ble_eq_true rfl)
  rw [lg_entry_eq]
  generalize (lg_sl ([.ref x0, .int 7]) ++ List.replicate (2 - (lg_sl ([.ref x0, .int 7])).length) Slot.unset).toArray = ls at hl ⊢
  have hl : lv_has ls 2 [(0, .ref x0), (1, .int 7)] := hl
  refine lv_iload_n hx hb d_FG_count_0 rfl (lv_at hl 1 rfl) ?_
  refine lv_tableIn (tgt := 117) (off := 116) hx hb d_FG_count_1 (by decide) (by decide) (by decide) (by decide) ?_
  refine lv_aload_n hx hb d_FG_count_117 rfl (lv_at hl 0 rfl) ?_
  refine va_get (D := (dC, dI)) (ci := 0) (v := .ref xc) (C := R_FG) (T := F_FG) (N := 7) hx hb hts i_FG hown hK hP 0 rfl rfl 4 (by decide) (hts _ mw_327) (fun _ h9 => h9) rfl d_FG_count_118 ?_
  refine va_get (D := (dC, dI)) (ci := 5) (v := .int 0) (C := R_Ch) (T := F_Ch) (N := 14) hx hb hts i_Ch hown hK hP 5 rfl rfl 11 (by decide) (hts _ mw_242) (fun _ h9 => h9) rfl d_FG_count_121 ?_
  refine W.widen (k := 0) (n := 0) (by omega) (by omega) ?_
  exact W.iret (v := 0) hx hb hr (fun t ht hW => ⟨⟨0, (), rfl, rfl, trivial⟩, hS.F ht⟩) hS.2.2 d_FG_count_124
set_option maxHeartbeats 4000000 in
set_option maxRecDepth 100000 in
theorem FG_count_8 (l : Launch) (dC : Nat → ClassId) (dI : Nat → Nat → Nat) (sz : Nat) (x0 : Nat) (xp : Nat) (xm : Nat) (xe : Nat) (xf : Nat) (xc : Nat) (xr : Nat) (p1 : Nat) (p2 : Nat) (p3 : Nat) (p4 : Nat) (p5 : Nat) (m1 : Nat) (m2 : Nat) (m3 : Nat) (m4 : Nat) (m5 : Nat) (m6 : Nat) (m7 : Nat) (e1 : Nat) (e2 : Nat) (r1 : Nat) (r2 : Nat) (r3 : Nat) (k1 : Nat) (k2 : Nat) (k3 : Nat) (k4 : Nat) (k5 : Nat) (k6 : Nat) : Met l y_FG_count (.code y_FG_count prog_1_method_14_code 2 (some .int) :: zz_W) ({ frames := 0, cells := 0, slots := 0, locals := 0 }) (va_Pc [.ref x0, .int 8] (zz_B dC dI [(x0, .inr (0, [.ref xp, .ref xm, .ref xe, .ref xf, .ref xc, .ref xr, .int 0])), (xp, .inr (1, [.ref p1, .ref p2, .ref p3, .ref p4, .ref p5, .int 0])), (xm, .inr (2, [.ref m1, .ref m2, .ref m3, .ref m4, .ref m5, .ref m6, .ref m7, .int 0])), (xe, .inr (3, [.ref xm, .ref e1, .ref e2, .int 0, .int 0])), (xr, .inr (8, [.ref xp, .ref xf, .ref xe, .ref r1, .ref r2, .ref r3, .int 0, .int 0, .long 0, .int 0, .int 0, .int 0])), (xc, .inr (5, [.ref xp, .ref xm, .ref xf, .ref k1, .ref k2, .ref k3, .ref k4, .ref k5, .ref k6, .int 0, .int 0, .int 0, .int 0, .int (-1)]))] [] sz)) (va_Qi (fun (r : Int32) (_ : Unit) => r = 0) (fun (_ : Unit) (_ : State) => True) (va_A [] sz)) 0 0 (va_A [] sz) := by
  refine Met.ofW (cc := prog_1_method_14_code) (maxL := 2) (ret := (some .int)) (by decide) rfl ?_
  intro p e s m args below meth c s₁ B hml hv
  obtain ⟨rfl, hsz, hP, hK, hD0, hT⟩ := hv
  have hx := B.exec
  have hb := B.bytes
  have hr := B.returns
  have hts0 := atoms_spec (ws := (.code y_FG_count prog_1_method_14_code 2 (some .int) :: zz_W)) B.pre
  have hts : ∀ w ∈ zz_W, w.before _ s = true := fun w h => hts0 w (List.mem_cons_of_mem _ h)
  have hown : s.vm.findClass R_FG = some m.cls := findClass_of_methodNamed B.named
  have hlocks := B.notSynchronized
  subst hsz
  generalize hAe : va_A [] s.heap.size = A at ⊢
  have hA : ∀ q : Nat, s.heap.size ≤ q → A q := fun q h => by rw [← hAe]; exact Or.inr h
  have hS : va_S A s.heap s.heap [] := va_S.rf
  have hl := lv_entry ([.ref x0, .int 8]) (n := 2) (Nat.le_of_ble_eq_true rfl)
  rw [lg_entry_eq]
  generalize (lg_sl ([.ref x0, .int 8]) ++ List.replicate (2 - (lg_sl ([.ref x0, .int 8])).length) Slot.unset).toArray = ls at hl ⊢
  have hl : lv_has ls 2 [(0, .ref x0), (1, .int 8)] := hl
  refine lv_iload_n hx hb d_FG_count_0 rfl (lv_at hl 1 rfl) ?_
  refine lv_tableIn (tgt := 125) (off := 124) hx hb d_FG_count_1 (by decide) (by decide) (by decide) (by decide) ?_
  refine lv_aload_n hx hb d_FG_count_125 rfl (lv_at hl 0 rfl) ?_
  refine va_get (D := (dC, dI)) (ci := 0) (v := .ref xr) (C := R_FG) (T := F_FG) (N := 7) hx hb hts i_FG hown hK hP 0 rfl rfl 5 (by decide) (hts _ mw_328) (fun _ h9 => h9) rfl d_FG_count_126 ?_
  refine va_get (D := (dC, dI)) (ci := 8) (v := .int 0) (C := R_Ru) (T := F_Ru) (N := 12) hx hb hts i_Ru hown hK hP 4 rfl rfl 7 (by decide) (hts _ mw_292) (fun _ h9 => h9) rfl d_FG_count_129 ?_
  refine W.widen (k := 0) (n := 0) (by omega) (by omega) ?_
  exact W.iret (v := 0) hx hb hr (fun t ht hW => ⟨⟨0, (), rfl, rfl, trivial⟩, hS.F ht⟩) hS.2.2 d_FG_count_132
set_option maxHeartbeats 4000000 in
set_option maxRecDepth 100000 in
theorem FG_count_9 (l : Launch) (dC : Nat → ClassId) (dI : Nat → Nat → Nat) (sz : Nat) (x0 : Nat) (xp : Nat) (xm : Nat) (xe : Nat) (xf : Nat) (xc : Nat) (xr : Nat) (p1 : Nat) (p2 : Nat) (p3 : Nat) (p4 : Nat) (p5 : Nat) (m1 : Nat) (m2 : Nat) (m3 : Nat) (m4 : Nat) (m5 : Nat) (m6 : Nat) (m7 : Nat) (e1 : Nat) (e2 : Nat) (r1 : Nat) (r2 : Nat) (r3 : Nat) (k1 : Nat) (k2 : Nat) (k3 : Nat) (k4 : Nat) (k5 : Nat) (k6 : Nat) : Met l y_FG_count (.code y_FG_count prog_1_method_14_code 2 (some .int) :: zz_W) ({ frames := 1, cells := 0, slots := 0, locals := 20 }) (va_Pc [.ref x0, .int 9] (zz_B dC dI [(x0, .inr (0, [.ref xp, .ref xm, .ref xe, .ref xf, .ref xc, .ref xr, .int 0])), (xp, .inr (1, [.ref p1, .ref p2, .ref p3, .ref p4, .ref p5, .int 0])), (xm, .inr (2, [.ref m1, .ref m2, .ref m3, .ref m4, .ref m5, .ref m6, .ref m7, .int 0])), (xe, .inr (3, [.ref xm, .ref e1, .ref e2, .int 0, .int 0])), (xr, .inr (8, [.ref xp, .ref xf, .ref xe, .ref r1, .ref r2, .ref r3, .int 0, .int 0, .long 0, .int 0, .int 0, .int 0])), (xc, .inr (5, [.ref xp, .ref xm, .ref xf, .ref k1, .ref k2, .ref k3, .ref k4, .ref k5, .ref k6, .int 0, .int 0, .int 0, .int 0, .int (-1)]))] [] sz)) (va_Qi (fun (r : Int32) (_ : Unit) => r = 0) (fun (_ : Unit) (_ : State) => True) (va_A [] sz)) 0 0 (va_A [] sz) := by
  refine Met.ofW (cc := prog_1_method_14_code) (maxL := 2) (ret := (some .int)) (by decide) rfl ?_
  intro p e s m args below meth c s₁ B hml hv
  obtain ⟨rfl, hsz, hP, hK, hD0, hT⟩ := hv
  have hx := B.exec
  have hb := B.bytes
  have hr := B.returns
  have hts0 := atoms_spec (ws := (.code y_FG_count prog_1_method_14_code 2 (some .int) :: zz_W)) B.pre
  have hts : ∀ w ∈ zz_W, w.before _ s = true := fun w h => hts0 w (List.mem_cons_of_mem _ h)
  have hown : s.vm.findClass R_FG = some m.cls := findClass_of_methodNamed B.named
  have hlocks := B.notSynchronized
  subst hsz
  generalize hAe : va_A [] s.heap.size = A at ⊢
  have hA : ∀ q : Nat, s.heap.size ≤ q → A q := fun q h => by rw [← hAe]; exact Or.inr h
  have hS : va_S A s.heap s.heap [] := va_S.rf
  have hl := lv_entry ([.ref x0, .int 9]) (n := 2) (Nat.le_of_ble_eq_true rfl)
  rw [lg_entry_eq]
  generalize (lg_sl ([.ref x0, .int 9]) ++ List.replicate (2 - (lg_sl ([.ref x0, .int 9])).length) Slot.unset).toArray = ls at hl ⊢
  have hl : lv_has ls 2 [(0, .ref x0), (1, .int 9)] := hl
  refine lv_iload_n hx hb d_FG_count_0 rfl (lv_at hl 1 rfl) ?_
  refine lv_tableIn (tgt := 133) (off := 132) hx hb d_FG_count_1 (by decide) (by decide) (by decide) (by decide) ?_
  refine lv_aload_n hx hb d_FG_count_133 rfl (lv_at hl 0 rfl) ?_
  refine va_get (D := (dC, dI)) (ci := 0) (v := .ref xr) (C := R_FG) (T := F_FG) (N := 7) hx hb hts i_FG hown hK hP 0 rfl rfl 5 (by decide) (hts _ mw_328) (fun _ h9 => h9) rfl d_FG_count_134 ?_
  have hPc := hP.sub (ws' := [(xr, .inr (8, [.ref xp, .ref xf, .ref xe, .ref r1, .ref r2, .ref r3, .int 0, .int 0, .long 0, .int 0, .int 0, .int 0])), (xe, .inr (3, [.ref xm, .ref e1, .ref e2, .int 0, .int 0]))]) [4, 3] rfl
  have hKc := hK.sub (tys' := []) [] rfl
  have hDc : va_D (fun _ => True) [(xr, .inr (8, [.ref xp, .ref xf, .ref xe, .ref r1, .ref r2, .ref r3, .int 0, .int 0, .long 0, .int 0, .int 0, .int 0])), (xe, .inr (3, [.ref xm, .ref e1, .ref e2, .int 0, .int 0]))] := (hD0.sub (ws' := [(xr, .inr (8, [.ref xp, .ref xf, .ref xe, .ref r1, .ref r2, .ref r3, .int 0, .int 0, .long 0, .int 0, .int 0, .int 0])), (xe, .inr (3, [.ref xm, .ref e1, .ref e2, .int 0, .int 0]))]) [4, 3] (by decide) rfl)
  refine va_calli (va_runV (As := []) (rest := []) ⟨hx, hb, hml, hown, hts⟩ (Ru_strays l dC dI s.heap.size xr xp xf xe xm r1 r2 r3 e1 e2) (zz_cV 0 hts mw_372 mw_375 mw_9 mw_373 mw_374 rfl rfl hd_Ru_strays ⟨Nat.le_of_ble_eq_true rfl, Nat.le_of_ble_eq_true rfl⟩) ⟨zz_blind, va_recv hKc hPc (ci := 8) (q0 := 0) rfl rfl, fun U hU hW => ⟨rfl, zz_pre hPc hKc hDc hT U hU hW⟩⟩ rfl rfl hl.1 rfl (lv_room (Nat.le_of_ble_eq_true rfl)) d_FG_count_137 ⟨(Nat.le_of_ble_eq_true rfl), (Nat.le_of_ble_eq_true rfl)⟩) hS (fun q _ h => zz_Af hS hA h) (fun q h => zz_Af hS hA h) (fun rr1 u t H1 locs ht hvm hw hB hz1 hk1 hS => ?_)
  have hP := zz_keep hP hk1
  generalize H1 = H at hP hS ⊢
  obtain rfl := hw
  refine W.widen (k := 0) (n := 0) (by omega) (by omega) ?_
  exact W.iret (v := 0) hx hb hr (fun t ht hW => ⟨⟨0, (), rfl, rfl, trivial⟩, hS.F ht⟩) hS.2.2 d_FG_count_140
set_option maxHeartbeats 4000000 in
set_option maxRecDepth 100000 in
theorem FG_count_out (l : Launch) (dC : Nat → ClassId) (dI : Nat → Nat → Nat) (sz : Nat) (x0 : Nat) (xp : Nat) (xm : Nat) (xe : Nat) (xf : Nat) (xc : Nat) (xr : Nat) (p1 : Nat) (p2 : Nat) (p3 : Nat) (p4 : Nat) (p5 : Nat) (m1 : Nat) (m2 : Nat) (m3 : Nat) (m4 : Nat) (m5 : Nat) (m6 : Nat) (m7 : Nat) (e1 : Nat) (e2 : Nat) (r1 : Nat) (r2 : Nat) (r3 : Nat) (k1 : Nat) (k2 : Nat) (k3 : Nat) (k4 : Nat) (k5 : Nat) (k6 : Nat) (p0 : Int32) (hn : (p0.toInt < 0 ∨ 9 < p0.toInt)) : Met l y_FG_count (.code y_FG_count prog_1_method_14_code 2 (some .int) :: zz_W) ({ frames := 0, cells := 0, slots := 0, locals := 0 }) (va_Pc [.ref x0, .int p0] (zz_B dC dI [(x0, .inr (0, [.ref xp, .ref xm, .ref xe, .ref xf, .ref xc, .ref xr, .int 0])), (xp, .inr (1, [.ref p1, .ref p2, .ref p3, .ref p4, .ref p5, .int 0])), (xm, .inr (2, [.ref m1, .ref m2, .ref m3, .ref m4, .ref m5, .ref m6, .ref m7, .int 0])), (xe, .inr (3, [.ref xm, .ref e1, .ref e2, .int 0, .int 0])), (xr, .inr (8, [.ref xp, .ref xf, .ref xe, .ref r1, .ref r2, .ref r3, .int 0, .int 0, .long 0, .int 0, .int 0, .int 0])), (xc, .inr (5, [.ref xp, .ref xm, .ref xf, .ref k1, .ref k2, .ref k3, .ref k4, .ref k5, .ref k6, .int 0, .int 0, .int 0, .int 0, .int (-1)]))] [] sz)) (va_Qi (fun (r : Int32) (_ : Unit) => r = (-1)) (fun (_ : Unit) (_ : State) => True) (va_A [] sz)) 0 0 (va_A [] sz) := by
  refine Met.ofW (cc := prog_1_method_14_code) (maxL := 2) (ret := (some .int)) (by decide) rfl ?_
  intro p e s m args below meth c s₁ B hml hv
  obtain ⟨rfl, hsz, hP, hK, hD0, hT⟩ := hv
  have hx := B.exec
  have hb := B.bytes
  have hr := B.returns
  have hts0 := atoms_spec (ws := (.code y_FG_count prog_1_method_14_code 2 (some .int) :: zz_W)) B.pre
  have hts : ∀ w ∈ zz_W, w.before _ s = true := fun w h => hts0 w (List.mem_cons_of_mem _ h)
  have hown : s.vm.findClass R_FG = some m.cls := findClass_of_methodNamed B.named
  have hlocks := B.notSynchronized
  subst hsz
  generalize hAe : va_A [] s.heap.size = A at ⊢
  have hA : ∀ q : Nat, s.heap.size ≤ q → A q := fun q h => by rw [← hAe]; exact Or.inr h
  have hS : va_S A s.heap s.heap [] := va_S.rf
  have hl := lv_entry ([.ref x0, .int p0]) (n := 2) (Nat.le_of_ble_eq_true rfl)
  rw [lg_entry_eq]
  generalize (lg_sl ([.ref x0, .int p0]) ++ List.replicate (2 - (lg_sl ([.ref x0, .int p0])).length) Slot.unset).toArray = ls at hl ⊢
  have hl : lv_has ls 2 [(0, .ref x0), (1, .int p0)] := hl
  refine lv_iload_n hx hb d_FG_count_0 rfl (lv_at hl 1 rfl) ?_
  refine lv_tableOut (tgt := 141) hx hb d_FG_count_1 hn (by decide) ?_
  refine lv_iconst (v := (-1)) hx hb d_FG_count_141 (by decide) ?_
  refine W.widen (k := 0) (n := 0) (by omega) (by omega) ?_
  exact W.iret (v := (-1)) hx hb hr (fun t ht hW => ⟨⟨(-1), (), rfl, rfl, trivial⟩, hS.F ht⟩) hS.2.2 d_FG_count_142
