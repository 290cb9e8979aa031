set_option maxHeartbeats 4000000 in
set_option maxRecDepth 100000 in
theorem Ma_append (l : Launch) (dC : Nat → ClassId) (dI : Nat → Nat → Nat) (sz : Nat) (xm : Nat) (m1 : Nat) (m2 : Nat) (m3 : Nat) (m4 : Nat) (m5 : Nat) (m6 : Nat) (m7 : Nat) (c1 : ClassId) (c2 : ClassId) (c5 : ClassId) (p0 : Int32) (p1 : Int32) (p2 : Int32) : Met l y_Ma_append (.code y_Ma_append prog_5_method_2_code 4 (some .int) :: zz_W) ({ frames := 0, cells := 0, slots := 0, locals := 0 }) (va_Pc [.ref xm, .int p0, .int p1, .int p2] (zz_B dC dI [(xm, .inr (2, [.ref m1, .ref m2, .ref m3, .ref m4, .ref m5, .ref m6, .ref m7, .int 0])), (m1, .inl (c1, 4, .inl (fun _ => 0))), (m2, .inl (c2, 4, .inl (fun _ => 0))), (m5, .inl (c5, 4, .inl (fun _ => 0)))] [(c1, .int), (c2, .int), (c5, .int)] sz)) (va_Qi (fun (r : Int32) (_ : Unit) => r = 0) (fun (_ : Unit) (t : State) => va_P (dC, dI) classes [] t.heap ∧ va_K (dC, dI) classes [] t ∧ va_D (va_A [(xm, .inr (2, [.ref m1, .ref m2, .ref m3, .ref m4, .ref m5, .ref m6, .ref m7, .int 0])), (m1, .inl (c1, 4, .inl (fun _ => 0))), (m2, .inl (c2, 4, .inl (fun _ => 0))), (m5, .inl (c5, 4, .inl (fun _ => 0)))] sz) []) (va_A [(xm, .inr (2, [.ref m1, .ref m2, .ref m3, .ref m4, .ref m5, .ref m6, .ref m7, .int 0])), (m1, .inl (c1, 4, .inl (fun _ => 0))), (m2, .inl (c2, 4, .inl (fun _ => 0))), (m5, .inl (c5, 4, .inl (fun _ => 0)))] sz)) 0 0 (va_A [(xm, .inr (2, [.ref m1, .ref m2, .ref m3, .ref m4, .ref m5, .ref m6, .ref m7, .int 0])), (m1, .inl (c1, 4, .inl (fun _ => 0))), (m2, .inl (c2, 4, .inl (fun _ => 0))), (m5, .inl (c5, 4, .inl (fun _ => 0)))] sz) := by
  refine Met.ofW (cc := prog_5_method_2_code) (maxL := 4) (ret := (some .int)) (by decide) rfl ?_
  intro p e s m args below meth c s₁ B hml hv
  obtain ⟨rfl, hsz, hP, hK, hD0, hT⟩ := hv
  have hx := B.exec
  have hb := B.bytes
  have hr := B.returns
  have hts0 := atoms_spec (ws := (.code y_Ma_append prog_5_method_2_code 4 (some .int) :: zz_W)) B.pre
  have hts : ∀ w ∈ zz_W, w.before _ s = true := fun w h => hts0 w (List.mem_cons_of_mem _ h)
  have hown : s.vm.findClass R_Ma = some m.cls := findClass_of_methodNamed B.named
  have hlocks := B.notSynchronized
  subst hsz
  have hD := hD0.self (sz := s.heap.size)
  generalize hAe : va_A [(xm, .inr (2, [.ref m1, .ref m2, .ref m3, .ref m4, .ref m5, .ref m6, .ref m7, .int 0])), (m1, .inl (c1, 4, .inl (fun _ => 0))), (m2, .inl (c2, 4, .inl (fun _ => 0))), (m5, .inl (c5, 4, .inl (fun _ => 0)))] s.heap.size = A at hD ⊢
  have hA : ∀ q : Nat, s.heap.size ≤ q → A q := fun q h => by rw [← hAe]; exact Or.inr h
  have hS : va_S A s.heap s.heap [] := va_S.rf
  have hl := lv_entry ([.ref xm, .int p0, .int p1, .int p2]) (n := 4) (Nat.le_of_ble_eq_true rfl)
  rw [lg_entry_eq]
  generalize (lg_sl ([.ref xm, .int p0, .int p1, .int p2]) ++ List.replicate (4 - (lg_sl ([.ref xm, .int p0, .int p1, .int p2])).length) Slot.unset).toArray = ls at hl ⊢
  have hl : lv_has ls 4 [(0, .ref xm), (1, .int p0), (2, .int p1), (3, .int p2)] := hl
  refine lv_aload_n hx hb d_Ma_append_0 rfl (lv_at hl 0 rfl) ?_
  refine va_get (D := (dC, dI)) (ci := 2) (v := .ref m1) (C := R_Ma) (T := F_Ma) (N := 8) hx hb hts i_Ma hown hK hP 0 rfl rfl 0 (by decide) (hts _ mw_80) (fun _ h9 => h9) rfl d_Ma_append_1 ?_
  refine lv_aload_n hx hb d_Ma_append_4 rfl (lv_at hl 0 rfl) ?_
  refine va_get (D := (dC, dI)) (ci := 2) (v := .int 0) (C := R_Ma) (T := F_Ma) (N := 8) hx hb hts i_Ma hown hK hP 0 rfl rfl 7 (by decide) (hts _ mw_96) (fun _ h9 => h9) rfl d_Ma_append_5 ?_
  refine lv_iload_n hx hb d_Ma_append_8 rfl (lv_at hl 1 rfl) ?_
  refine va_iast hx hb hK hP hD hS 1 0 rfl rfl (by unfold vp_in; decide) d_Ma_append_9 (fun H locs hP hD hS => ?_)
  have hP : va_P (dC, dI) classes [(xm, .inr (2, [.ref m1, .ref m2, .ref m3, .ref m4, .ref m5, .ref m6, .ref m7, .int 0])), (m1, .inl (c1, 4, .inl (upd (fun _ => 0) (0 : Int32).toNatClampNeg p0))), (m2, .inl (c2, 4, .inl (fun _ => 0))), (m5, .inl (c5, 4, .inl (fun _ => 0)))] H := hP
  have hD : va_D A [(xm, .inr (2, [.ref m1, .ref m2, .ref m3, .ref m4, .ref m5, .ref m6, .ref m7, .int 0])), (m1, .inl (c1, 4, .inl (upd (fun _ => 0) (0 : Int32).toNatClampNeg p0))), (m2, .inl (c2, 4, .inl (fun _ => 0))), (m5, .inl (c5, 4, .inl (fun _ => 0)))] := hD
  obtain ⟨f1, ef1⟩ : ∃ f : Nat → Int32, f = upd (fun _ => 0) (0 : Int32).toNatClampNeg p0 := ⟨_, rfl⟩
  rw [← ef1] at hP hD
  refine lv_aload_n hx hb d_Ma_append_10 rfl (lv_at hl 0 rfl) ?_
  refine va_get (D := (dC, dI)) (ci := 2) (v := .ref m2) (C := R_Ma) (T := F_Ma) (N := 8) hx hb hts i_Ma hown hK hP 0 rfl rfl 1 (by decide) (hts _ mw_84) (fun _ h9 => h9) rfl d_Ma_append_11 ?_
  refine lv_aload_n hx hb d_Ma_append_14 rfl (lv_at hl 0 rfl) ?_
  refine va_get (D := (dC, dI)) (ci := 2) (v := .int 0) (C := R_Ma) (T := F_Ma) (N := 8) hx hb hts i_Ma hown hK hP 0 rfl rfl 7 (by decide) (hts _ mw_96) (fun _ h9 => h9) rfl d_Ma_append_15 ?_
  refine lv_iload_n hx hb d_Ma_append_18 rfl (lv_at hl 2 rfl) ?_
  refine va_iast hx hb hK hP hD hS 2 1 rfl rfl (by unfold vp_in; decide) d_Ma_append_19 (fun H locs hP hD hS => ?_)
  have hP : va_P (dC, dI) classes [(xm, .inr (2, [.ref m1, .ref m2, .ref m3, .ref m4, .ref m5, .ref m6, .ref m7, .int 0])), (m1, .inl (c1, 4, .inl f1)), (m2, .inl (c2, 4, .inl (upd (fun _ => 0) (0 : Int32).toNatClampNeg p1))), (m5, .inl (c5, 4, .inl (fun _ => 0)))] H := hP
  have hD : va_D A [(xm, .inr (2, [.ref m1, .ref m2, .ref m3, .ref m4, .ref m5, .ref m6, .ref m7, .int 0])), (m1, .inl (c1, 4, .inl f1)), (m2, .inl (c2, 4, .inl (upd (fun _ => 0) (0 : Int32).toNatClampNeg p1))), (m5, .inl (c5, 4, .inl (fun _ => 0)))] := hD
  obtain ⟨f2, ef2⟩ : ∃ f : Nat → Int32, f = upd (fun _ => 0) (0 : Int32).toNatClampNeg p1 := ⟨_, rfl⟩
  rw [← ef2] at hP hD
  refine lv_aload_n hx hb d_Ma_append_20 rfl (lv_at hl 0 rfl) ?_
  refine va_get (D := (dC, dI)) (ci := 2) (v := .ref m5) (C := R_Ma) (T := F_Ma) (N := 8) hx hb hts i_Ma hown hK hP 0 rfl rfl 4 (by decide) (hts _ mw_93) (fun _ h9 => h9) rfl d_Ma_append_21 ?_
  refine lv_aload_n hx hb d_Ma_append_24 rfl (lv_at hl 0 rfl) ?_
  refine va_get (D := (dC, dI)) (ci := 2) (v := .int 0) (C := R_Ma) (T := F_Ma) (N := 8) hx hb hts i_Ma hown hK hP 0 rfl rfl 7 (by decide) (hts _ mw_96) (fun _ h9 => h9) rfl d_Ma_append_25 ?_
  refine lv_iload_n hx hb d_Ma_append_28 rfl (lv_at hl 3 rfl) ?_
  refine va_iast hx hb hK hP hD hS 3 2 rfl rfl (by unfold vp_in; decide) d_Ma_append_29 (fun H locs hP hD hS => ?_)
  have hP : va_P (dC, dI) classes [(xm, .inr (2, [.ref m1, .ref m2, .ref m3, .ref m4, .ref m5, .ref m6, .ref m7, .int 0])), (m1, .inl (c1, 4, .inl f1)), (m2, .inl (c2, 4, .inl f2)), (m5, .inl (c5, 4, .inl (upd (fun _ => 0) (0 : Int32).toNatClampNeg p2)))] H := hP
  have hD : va_D A [(xm, .inr (2, [.ref m1, .ref m2, .ref m3, .ref m4, .ref m5, .ref m6, .ref m7, .int 0])), (m1, .inl (c1, 4, .inl f1)), (m2, .inl (c2, 4, .inl f2)), (m5, .inl (c5, 4, .inl (upd (fun _ => 0) (0 : Int32).toNatClampNeg p2)))] := hD
  obtain ⟨f3, ef3⟩ : ∃ f : Nat → Int32, f = upd (fun _ => 0) (0 : Int32).toNatClampNeg p2 := ⟨_, rfl⟩
  rw [← ef3] at hP hD
  refine lv_aload_n hx hb d_Ma_append_30 rfl (lv_at hl 0 rfl) ?_
  refine lv_dup hx hb d_Ma_append_31 rfl ?_
  refine va_get (D := (dC, dI)) (ci := 2) (v := .int 0) (C := R_Ma) (T := F_Ma) (N := 8) hx hb hts i_Ma hown hK hP 0 rfl rfl 7 (by decide) (hts _ mw_96) (fun _ h9 => h9) rfl d_Ma_append_32 ?_
  refine lv_iconst (v := 1) hx hb d_Ma_append_35 (by decide) ?_
  refine lv_iadd hx hb d_Ma_append_36 ?_
  refine lv_topi (fun z4 ez4 => ?_)
  obtain rfl : z4 = 1 := ez4.trans (by decide)
  refine va_put (D := (dC, dI)) (ci := 2) (v := .int 1) (ty := .int) (C := R_Ma) (T := F_Ma) (N := 8) hx hb hts i_Ma t_Ma t_Ma_ok n_Ma hown hK hP hD hS 0 rfl rfl 7 (by decide) (hts _ mw_96) (fun _ h9 => h9) rfl (by decide +kernel) rfl rfl (Nat.le_of_ble_eq_true rfl) d_Ma_append_37 (fun H locs hP hD hS => ?_)
  have hP : va_P (dC, dI) classes [(xm, .inr (2, [.ref m1, .ref m2, .ref m3, .ref m4, .ref m5, .ref m6, .ref m7, .int 1])), (m1, .inl (c1, 4, .inl f1)), (m2, .inl (c2, 4, .inl f2)), (m5, .inl (c5, 4, .inl f3))] H := hP
  have hD : va_D A [(xm, .inr (2, [.ref m1, .ref m2, .ref m3, .ref m4, .ref m5, .ref m6, .ref m7, .int 1])), (m1, .inl (c1, 4, .inl f1)), (m2, .inl (c2, 4, .inl f2)), (m5, .inl (c5, 4, .inl f3))] := hD
  refine lv_aload_n hx hb d_Ma_append_40 rfl (lv_at hl 0 rfl) ?_
  refine va_get (D := (dC, dI)) (ci := 2) (v := .int 1) (C := R_Ma) (T := F_Ma) (N := 8) hx hb hts i_Ma hown hK hP 0 rfl rfl 7 (by decide) (hts _ mw_96) (fun _ h9 => h9) rfl d_Ma_append_41 ?_
  refine lv_iconst (v := 1) hx hb d_Ma_append_44 (by decide) ?_
  refine lv_isub hx hb d_Ma_append_45 ?_
  refine lv_topi (fun z5 ez5 => ?_)
  obtain rfl : z5 = 0 := ez5.trans (by decide)
  have hP9 := hP.sub (ws' := []) [] rfl
  have hD9 := hD.sub (ws' := []) [] (by decide) rfl
  have hK9 := hK.sub (tys' := []) [] rfl
  refine W.widen (k := 0) (n := 0) (by omega) (by omega) ?_
  exact W.iret (v := 0) hx hb hr (fun t ht hW => ⟨⟨0, (), rfl, rfl, by rw [ht]; exact hP9, va_K.moved hW.alike hK9, hD9⟩, hS.F ht⟩) hS.2.2 d_Ma_append_46
set_option maxHeartbeats 4000000 in
set_option maxRecDepth 100000 in
theorem FG_map_ok (l : Launch) (dC : Nat → ClassId) (dI : Nat → Nat → Nat) (sz : Nat) (x0 : Nat) (xp : Nat) (xm : Nat) (xe : Nat) (xf : Nat) (xc : Nat) (xr : Nat) (m1 : Nat) (m2 : Nat) (m3 : Nat) (m4 : Nat) (m5 : Nat) (m6 : Nat) (m7 : Nat) (c1 : ClassId) (c2 : ClassId) (c5 : ClassId) (p0 : Int32) (p1 : Int32) (p2 : Int32) (h1 : ¬ p0 < 1) (h2 : ¬ 8 < p0) (h3 : ¬ p1 < 1) (h4 : ¬ 64 < p1) (h5 : ¬ p2 < 1) (h6 : ¬ 16 < p2) : Met l y_FG_map (.code y_FG_map prog_1_method_2_code 4 (some .int) :: zz_W) ({ frames := 1, cells := 0, slots := 0, locals := 23 }) (va_Pc [.ref x0, .int p0, .int p1, .int p2] (zz_B dC dI [(x0, .inr (0, [.ref xp, .ref xm, .ref xe, .ref xf, .ref xc, .ref xr, .int 0])), (xm, .inr (2, [.ref m1, .ref m2, .ref m3, .ref m4, .ref m5, .ref m6, .ref m7, .int 0])), (m1, .inl (c1, 4, .inl (fun _ => 0))), (m2, .inl (c2, 4, .inl (fun _ => 0))), (m5, .inl (c5, 4, .inl (fun _ => 0)))] [(c1, .int), (c2, .int), (c5, .int)] sz)) (va_Qi (fun (r : Int32) (_ : Unit) => r = 0) (fun (_ : Unit) (t : State) => va_P (dC, dI) classes [] t.heap ∧ va_K (dC, dI) classes [] t ∧ va_D (va_A [(x0, .inr (0, [.ref xp, .ref xm, .ref xe, .ref xf, .ref xc, .ref xr, .int 0])), (xm, .inr (2, [.ref m1, .ref m2, .ref m3, .ref m4, .ref m5, .ref m6, .ref m7, .int 0])), (m1, .inl (c1, 4, .inl (fun _ => 0))), (m2, .inl (c2, 4, .inl (fun _ => 0))), (m5, .inl (c5, 4, .inl (fun _ => 0)))] sz) []) (va_A [(x0, .inr (0, [.ref xp, .ref xm, .ref xe, .ref xf, .ref xc, .ref xr, .int 0])), (xm, .inr (2, [.ref m1, .ref m2, .ref m3, .ref m4, .ref m5, .ref m6, .ref m7, .int 0])), (m1, .inl (c1, 4, .inl (fun _ => 0))), (m2, .inl (c2, 4, .inl (fun _ => 0))), (m5, .inl (c5, 4, .inl (fun _ => 0)))] sz)) 0 0 (va_A [(x0, .inr (0, [.ref xp, .ref xm, .ref xe, .ref xf, .ref xc, .ref xr, .int 0])), (xm, .inr (2, [.ref m1, .ref m2, .ref m3, .ref m4, .ref m5, .ref m6, .ref m7, .int 0])), (m1, .inl (c1, 4, .inl (fun _ => 0))), (m2, .inl (c2, 4, .inl (fun _ => 0))), (m5, .inl (c5, 4, .inl (fun _ => 0)))] sz) := by
  refine Met.ofW (cc := prog_1_method_2_code) (maxL := 4) (ret := (some .int)) (by decide) rfl ?_
  intro p e s m args below meth c s₁ B hml hv
  obtain ⟨rfl, hsz, hP, hK, hD0, hT⟩ := hv
  have hx := B.exec
  have hb := B.bytes
  have hr := B.returns
  have hts0 := atoms_spec (ws := (.code y_FG_map prog_1_method_2_code 4 (some .int) :: zz_W)) B.pre
  have hts : ∀ w ∈ zz_W, w.before _ s = true := fun w h => hts0 w (List.mem_cons_of_mem _ h)
  have hown : s.vm.findClass R_FG = some m.cls := findClass_of_methodNamed B.named
  have hlocks := B.notSynchronized
  subst hsz
  have hD := hD0.self (sz := s.heap.size)
  generalize hAe : va_A [(x0, .inr (0, [.ref xp, .ref xm, .ref xe, .ref xf, .ref xc, .ref xr, .int 0])), (xm, .inr (2, [.ref m1, .ref m2, .ref m3, .ref m4, .ref m5, .ref m6, .ref m7, .int 0])), (m1, .inl (c1, 4, .inl (fun _ => 0))), (m2, .inl (c2, 4, .inl (fun _ => 0))), (m5, .inl (c5, 4, .inl (fun _ => 0)))] s.heap.size = A at hD ⊢
  have hA : ∀ q : Nat, s.heap.size ≤ q → A q := fun q h => by rw [← hAe]; exact Or.inr h
  have hS : va_S A s.heap s.heap [] := va_S.rf
  have hl := lv_entry ([.ref x0, .int p0, .int p1, .int p2]) (n := 4) (Nat.le_of_ble_eq_true rfl)
  rw [lg_entry_eq]
  generalize (lg_sl ([.ref x0, .int p0, .int p1, .int p2]) ++ List.replicate (4 - (lg_sl ([.ref x0, .int p0, .int p1, .int p2])).length) Slot.unset).toArray = ls at hl ⊢
  have hl : lv_has ls 4 [(0, .ref x0), (1, .int p0), (2, .int p1), (3, .int p2)] := hl
  refine lv_iload_n hx hb d_FG_map_0 rfl (lv_at hl 1 rfl) ?_
  refine lv_iconst (v := 1) hx hb d_FG_map_1 (by decide) ?_
  refine lv_bipush (v := 8) hx hb d_FG_map_2 (by decide) ?_
  have hPc := hP.sub (ws' := []) [] rfl
  have hKc := hK.sub (tys' := []) [] rfl
  have hDc : va_D (fun _ => True) [] := (hD.sub (ws' := []) [] (by decide) rfl).weaken (fun _ _ _ _ => trivial)
  refine va_calli (va_runS (As := [.int p0, .int 1, .int 8]) (rest := []) ⟨hx, hb, hml, hown, hts⟩ (FG_within l dC dI s.heap.size p0 1 8) (zz_cS 3 hts mw_385 mw_387 mw_1 mw_386 rfl rfl hd_FG_within ⟨Nat.le_of_ble_eq_true rfl, Nat.le_of_ble_eq_true rfl⟩) ⟨zz_blind, fun U hU hW => ⟨rfl, zz_pre hPc hKc hDc hT U hU hW⟩⟩ rfl rfl hl.1 rfl (lv_room (Nat.le_of_ble_eq_true rfl)) d_FG_map_4 ⟨(Nat.le_of_ble_eq_true rfl), (Nat.le_of_ble_eq_true rfl)⟩) hS (fun q _ h => zz_Af hS hA h) (fun q h => zz_Af hS hA h) (fun rr1 u t H1 locs ht hvm hw hB hz1 hk1 hS => ?_)
  have hP := zz_keep hP hk1
  generalize H1 = H at hP hS ⊢
  rcases hw with ⟨rfl, f2, f3⟩ | ⟨rfl, f4⟩
  · refine lv_if_eq (tgt := 30) hx hb d_FG_map_7 (by decide) (fun h => absurd h (by decide)) (fun _ => ?_)
    refine lv_iload_n hx hb d_FG_map_10 rfl (lv_at hl 2 rfl) ?_
    refine lv_iconst (v := 1) hx hb d_FG_map_11 (by decide) ?_
    refine lv_bipush (v := 64) hx hb d_FG_map_12 (by decide) ?_
    have hPc := hP.sub (ws' := []) [] rfl
    have hKc := hK.sub (tys' := []) [] rfl
    have hDc : va_D (fun _ => True) [] := (hD.sub (ws' := []) [] (by decide) rfl).weaken (fun _ _ _ _ => trivial)
    refine va_calli (va_runS (As := [.int p1, .int 1, .int 64]) (rest := []) ⟨hx, hb, hml, hown, hts⟩ (FG_within l dC dI H.size p1 1 64) (zz_cS 3 hts mw_385 mw_387 mw_1 mw_386 rfl rfl hd_FG_within ⟨Nat.le_of_ble_eq_true rfl, Nat.le_of_ble_eq_true rfl⟩) ⟨zz_blind, fun U hU hW => ⟨rfl, zz_pre hPc hKc hDc hT U hU hW⟩⟩ rfl rfl hl.1 rfl (lv_room (Nat.le_of_ble_eq_true rfl)) d_FG_map_14 ⟨(Nat.le_of_ble_eq_true rfl), (Nat.le_of_ble_eq_true rfl)⟩) hS (fun q _ h => zz_Af hS hA h) (fun q h => zz_Af hS hA h) (fun rr5 u t H1 locs ht hvm hw hB hz1 hk1 hS => ?_)
    have hP := zz_keep hP hk1
    generalize H1 = H at hP hS ⊢
    rcases hw with ⟨rfl, f6, f7⟩ | ⟨rfl, f8⟩
    · refine lv_if_eq (tgt := 30) hx hb d_FG_map_17 (by decide) (fun h => absurd h (by decide)) (fun _ => ?_)
      refine lv_iload_n hx hb d_FG_map_20 rfl (lv_at hl 3 rfl) ?_
      refine lv_iconst (v := 1) hx hb d_FG_map_21 (by decide) ?_
      refine lv_bipush (v := 16) hx hb d_FG_map_22 (by decide) ?_
      have hPc := hP.sub (ws' := []) [] rfl
      have hKc := hK.sub (tys' := []) [] rfl
      have hDc : va_D (fun _ => True) [] := (hD.sub (ws' := []) [] (by decide) rfl).weaken (fun _ _ _ _ => trivial)
      refine va_calli (va_runS (As := [.int p2, .int 1, .int 16]) (rest := []) ⟨hx, hb, hml, hown, hts⟩ (FG_within l dC dI H.size p2 1 16) (zz_cS 3 hts mw_385 mw_387 mw_1 mw_386 rfl rfl hd_FG_within ⟨Nat.le_of_ble_eq_true rfl, Nat.le_of_ble_eq_true rfl⟩) ⟨zz_blind, fun U hU hW => ⟨rfl, zz_pre hPc hKc hDc hT U hU hW⟩⟩ rfl rfl hl.1 rfl (lv_room (Nat.le_of_ble_eq_true rfl)) d_FG_map_24 ⟨(Nat.le_of_ble_eq_true rfl), (Nat.le_of_ble_eq_true rfl)⟩) hS (fun q _ h => zz_Af hS hA h) (fun q h => zz_Af hS hA h) (fun rr9 u t H1 locs ht hvm hw hB hz1 hk1 hS => ?_)
      have hP := zz_keep hP hk1
      generalize H1 = H at hP hS ⊢
      rcases hw with ⟨rfl, f10, f11⟩ | ⟨rfl, f12⟩
      · refine lv_if_ne (tgt := 40) hx hb d_FG_map_27 (by decide) (fun _ => ?_) (fun h => absurd h (by decide))
        refine lv_aload_n hx hb d_FG_map_40 rfl (lv_at hl 0 rfl) ?_
        refine va_get (D := (dC, dI)) (ci := 0) (v := .int 0) (C := R_FG) (T := F_FG) (N := 7) hx hb hts i_FG hown hK hP 0 rfl rfl 6 (by decide) (hts _ mw_329) (fun _ h9 => h9) rfl d_FG_map_41 ?_
        refine lv_if_ne (tgt := 58) hx hb d_FG_map_44 (by decide) (fun h => absurd h (by decide)) (fun _ => ?_)
        refine lv_aload_n hx hb d_FG_map_47 rfl (lv_at hl 0 rfl) ?_
        refine va_get (D := (dC, dI)) (ci := 0) (v := .ref xm) (C := R_FG) (T := F_FG) (N := 7) hx hb hts i_FG hown hK hP 0 rfl rfl 1 (by decide) (hts _ mw_324) (fun _ h9 => h9) rfl d_FG_map_48 ?_
        refine va_get (D := (dC, dI)) (ci := 2) (v := .int 0) (C := R_Ma) (T := F_Ma) (N := 8) hx hb hts i_Ma hown hK hP 1 rfl rfl 7 (by decide) (hts _ mw_97) (fun _ h9 => h9) rfl d_FG_map_51 ?_
        refine lv_iconst (v := 4) hx hb d_FG_map_54 (by decide) ?_
        refine lv_icmp_lt (tgt := 68) hx hb d_FG_map_55 (by decide) (fun _ => ?_) (fun h => absurd h (by decide))
        refine lv_aload_n hx hb d_FG_map_68 rfl (lv_at hl 0 rfl) ?_
        refine va_get (D := (dC, dI)) (ci := 0) (v := .ref xm) (C := R_FG) (T := F_FG) (N := 7) hx hb hts i_FG hown hK hP 0 rfl rfl 1 (by decide) (hts _ mw_324) (fun _ h9 => h9) rfl d_FG_map_69 ?_
        refine lv_iload_n hx hb d_FG_map_72 rfl (lv_at hl 1 rfl) ?_
        refine lv_iload_n hx hb d_FG_map_73 rfl (lv_at hl 2 rfl) ?_
        refine lv_iload_n hx hb d_FG_map_74 rfl (lv_at hl 3 rfl) ?_
        have hPc := hP.sub (ws' := [(xm, .inr (2, [.ref m1, .ref m2, .ref m3, .ref m4, .ref m5, .ref m6, .ref m7, .int 0])), (m1, .inl (c1, 4, .inl (fun _ => 0))), (m2, .inl (c2, 4, .inl (fun _ => 0))), (m5, .inl (c5, 4, .inl (fun _ => 0)))]) [1, 2, 3, 4] rfl
        have hKc := hK.sub (tys' := [(c1, .int), (c2, .int), (c5, .int)]) [0, 1, 2] rfl
        have hDc := hD.sub (ws' := [(xm, .inr (2, [.ref m1, .ref m2, .ref m3, .ref m4, .ref m5, .ref m6, .ref m7, .int 0])), (m1, .inl (c1, 4, .inl (fun _ => 0))), (m2, .inl (c2, 4, .inl (fun _ => 0))), (m5, .inl (c5, 4, .inl (fun _ => 0)))]) [1, 2, 3, 4] (by decide) rfl
        have hFc := va_free (wc := [(xm, .inr (2, [.ref m1, .ref m2, .ref m3, .ref m4, .ref m5, .ref m6, .ref m7, .int 0])), (m1, .inl (c1, 4, .inl (fun _ => 0))), (m2, .inl (c2, 4, .inl (fun _ => 0))), (m5, .inl (c5, 4, .inl (fun _ => 0)))]) hD hS hA [1, 2, 3, 4] rfl
        refine va_calli (va_runV (As := [.int p0, .int p1, .int p2]) (rest := []) ⟨hx, hb, hml, hown, hts⟩ (Ma_append l dC dI H.size xm m1 m2 m3 m4 m5 m6 m7 c1 c2 c5 p0 p1 p2) (zz_cV 3 hts mw_473 mw_476 mw_3 mw_474 mw_475 rfl rfl hd_Ma_append ⟨Nat.le_of_ble_eq_true rfl, Nat.le_of_ble_eq_true rfl⟩) ⟨zz_blind, va_recv hKc hPc (ci := 2) (q0 := 0) rfl rfl, fun U hU hW => ⟨rfl, zz_pre hPc hKc hDc hT U hU hW⟩⟩ rfl rfl hl.1 rfl (lv_room (Nat.le_of_ble_eq_true rfl)) d_FG_map_75 ⟨(Nat.le_of_ble_eq_true rfl), (Nat.le_of_ble_eq_true rfl)⟩) hS (fun q _ h => hFc q h) hFc (fun rr13 u t H1 locs ht hvm hw hB hz1 hk1 hS => ?_)
        obtain ⟨hP1, hK1, hD1⟩ := hB
        rw [ht] at hP1
        have hK1 := va_K.moved hvm.symm hK1
        obtain ⟨hP, hD⟩ := va_join (wr := [(x0, .inr (0, [.ref xp, .ref xm, .ref xe, .ref xf, .ref xc, .ref xr, .int 0]))]) (w1 := []) hP hD [1, 2, 3, 4] [0] rfl rfl (by decide) (by decide) hk1 hFc hP1 hD1
        have hK := (hK.sub (tys' := []) [] rfl).app hK1
        generalize H1 = H at hP hS ⊢
        have hP : va_P (dC, dI) classes [(x0, .inr (0, [.ref xp, .ref xm, .ref xe, .ref xf, .ref xc, .ref xr, .int 0]))] H := hP
        have hD : va_D A [(x0, .inr (0, [.ref xp, .ref xm, .ref xe, .ref xf, .ref xc, .ref xr, .int 0]))] := hD
        have hK : va_K (dC, dI) classes [] s := hK
        obtain rfl := hw
        have hP9 := hP.sub (ws' := []) [] rfl
        have hD9 := hD.sub (ws' := []) [] (by decide) rfl
        have hK9 := hK.sub (tys' := []) [] rfl
        refine W.widen (k := 0) (n := 0) (by omega) (by omega) ?_
        exact W.iret (v := 0) hx hb hr (fun t ht hW => ⟨⟨0, (), rfl, rfl, by rw [ht]; exact hP9, va_K.moved hW.alike hK9, hD9⟩, hS.F ht⟩) hS.2.2 d_FG_map_78
      · exact f12.elim (fun h => absurd h h5) (fun h => absurd h h6)
    · exact f8.elim (fun h => absurd h h3) (fun h => absurd h h4)
  · exact f4.elim (fun h => absurd h h1) (fun h => absurd h h2)
set_option maxHeartbeats 4000000 in
set_option maxRecDepth 100000 in
theorem FG_map_no (l : Launch) (hfl : l.flags = Jvm.pinnedFlags ++ [Jvm.noTraceFlag]) (dC : Nat → ClassId) (dI : Nat → Nat → Nat) (sz : Nat) (x0 : Nat) (xp : Nat) (xm : Nat) (xe : Nat) (xf : Nat) (xc : Nat) (xr : Nat) (p0 : Int32) (p1 : Int32) (p2 : Int32) (hn : ¬ (¬ p0 < 1 ∧ ¬ 8 < p0 ∧ ¬ p1 < 1 ∧ ¬ 64 < p1 ∧ ¬ p2 < 1 ∧ ¬ 16 < p2)) : th_Met l y_FG_map (.code y_FG_map prog_1_method_2_code 4 (some .int) :: zz_W) ({ frames := 6, cells := 1, slots := 6, locals := 82 }) (va_Pc [.ref x0, .int p0, .int p1, .int p2] (zz_BS dC dI [(x0, .inr (0, [.ref xp, .ref xm, .ref xe, .ref xf, .ref xc, .ref xr, .int 0]))] [] sz)) E_IAE 1 6 := by
  refine th_ofW (cc := prog_1_method_2_code) (maxL := 4) (ret := (some .int)) (by decide) rfl ?_
  intro p e s m args below meth c s₁ B hml hv
  obtain ⟨rfl, ⟨hsz, hP, hK, hD0, hT⟩, hZ⟩ := hv
  have hx := B.exec
  have hb := B.bytes
  have hr := B.returns
  have hts0 := atoms_spec (ws := (.code y_FG_map prog_1_method_2_code 4 (some .int) :: zz_W)) B.pre
  have hts : ∀ w ∈ zz_W, w.before _ s = true := fun w h => hts0 w (List.mem_cons_of_mem _ h)
  have hown : s.vm.findClass R_FG = some m.cls := findClass_of_methodNamed B.named
  have hlocks := B.notSynchronized
  have hex := B.noHandlers (hts0 _ List.mem_cons_self)
  subst hsz
  obtain ⟨A, hAe⟩ : ∃ A, A = va_A [] s.heap.size := ⟨_, rfl⟩
  have hA : ∀ q : Nat, s.heap.size ≤ q → A q := fun q h => by rw [hAe]; exact Or.inr h
  have hS : va_S (va_A [] s.heap.size) s.heap s.heap [] := va_S.rf
  subst hAe
  have hl := lv_entry ([.ref x0, .int p0, .int p1, .int p2]) (n := 4) (Nat.le_of_ble_eq_true rfl)
  rw [lg_entry_eq]
  generalize (lg_sl ([.ref x0, .int p0, .int p1, .int p2]) ++ List.replicate (4 - (lg_sl ([.ref x0, .int p0, .int p1, .int p2])).length) Slot.unset).toArray = ls at hl ⊢
  have hl : lv_has ls 4 [(0, .ref x0), (1, .int p0), (2, .int p1), (3, .int p2)] := hl
  refine lv_iload_n hx hb d_FG_map_0 rfl (lv_at hl 1 rfl) ?_
  refine lv_iconst (v := 1) hx hb d_FG_map_1 (by decide) ?_
  refine lv_bipush (v := 8) hx hb d_FG_map_2 (by decide) ?_
  have hPc := hP.sub (ws' := []) [] rfl
  have hKc := hK.sub (tys' := []) [] rfl
  have hDc : va_D (fun _ => True) [] := (hD0.sub (ws' := []) [] (by decide) rfl)
  refine va_calli (va_runS (As := [.int p0, .int 1, .int 8]) (rest := []) ⟨hx, hb, hml, hown, hts⟩ (FG_within l dC dI s.heap.size p0 1 8) (zz_cS 3 hts mw_385 mw_387 mw_1 mw_386 rfl rfl hd_FG_within ⟨Nat.le_of_ble_eq_true rfl, Nat.le_of_ble_eq_true rfl⟩) ⟨zz_blind, fun U hU hW => ⟨rfl, zz_pre hPc hKc hDc hT U hU hW⟩⟩ rfl rfl hl.1 rfl (lv_room (Nat.le_of_ble_eq_true rfl)) d_FG_map_4 ⟨(Nat.le_of_ble_eq_true rfl), (Nat.le_of_ble_eq_true rfl)⟩) hS (fun q _ h => zz_Af hS hA h) (fun q h => zz_Af hS hA h) (fun rr1 u t H1 locs ht hvm hw hB hz1 hk1 hS => ?_)
  have hP := zz_keep hP hk1
  generalize H1 = H at hP hS ⊢
  rcases hw with ⟨rfl, f2, f3⟩ | ⟨rfl, f4⟩
  · refine lv_if_eq (tgt := 30) hx hb d_FG_map_7 (by decide) (fun h => absurd h (by decide)) (fun _ => ?_)
    refine lv_iload_n hx hb d_FG_map_10 rfl (lv_at hl 2 rfl) ?_
    refine lv_iconst (v := 1) hx hb d_FG_map_11 (by decide) ?_
    refine lv_bipush (v := 64) hx hb d_FG_map_12 (by decide) ?_
    have hPc := hP.sub (ws' := []) [] rfl
    have hKc := hK.sub (tys' := []) [] rfl
    have hDc : va_D (fun _ => True) [] := (hD0.sub (ws' := []) [] (by decide) rfl)
    refine va_calli (va_runS (As := [.int p1, .int 1, .int 64]) (rest := []) ⟨hx, hb, hml, hown, hts⟩ (FG_within l dC dI H.size p1 1 64) (zz_cS 3 hts mw_385 mw_387 mw_1 mw_386 rfl rfl hd_FG_within ⟨Nat.le_of_ble_eq_true rfl, Nat.le_of_ble_eq_true rfl⟩) ⟨zz_blind, fun U hU hW => ⟨rfl, zz_pre hPc hKc hDc hT U hU hW⟩⟩ rfl rfl hl.1 rfl (lv_room (Nat.le_of_ble_eq_true rfl)) d_FG_map_14 ⟨(Nat.le_of_ble_eq_true rfl), (Nat.le_of_ble_eq_true rfl)⟩) hS (fun q _ h => zz_Af hS hA h) (fun q h => zz_Af hS hA h) (fun rr5 u t H1 locs ht hvm hw hB hz1 hk1 hS => ?_)
    have hP := zz_keep hP hk1
    generalize H1 = H at hP hS ⊢
    rcases hw with ⟨rfl, f6, f7⟩ | ⟨rfl, f8⟩
    · refine lv_if_eq (tgt := 30) hx hb d_FG_map_17 (by decide) (fun h => absurd h (by decide)) (fun _ => ?_)
      refine lv_iload_n hx hb d_FG_map_20 rfl (lv_at hl 3 rfl) ?_
      refine lv_iconst (v := 1) hx hb d_FG_map_21 (by decide) ?_
      refine lv_bipush (v := 16) hx hb d_FG_map_22 (by decide) ?_
      have hPc := hP.sub (ws' := []) [] rfl
      have hKc := hK.sub (tys' := []) [] rfl
      have hDc : va_D (fun _ => True) [] := (hD0.sub (ws' := []) [] (by decide) rfl)
      refine va_calli (va_runS (As := [.int p2, .int 1, .int 16]) (rest := []) ⟨hx, hb, hml, hown, hts⟩ (FG_within l dC dI H.size p2 1 16) (zz_cS 3 hts mw_385 mw_387 mw_1 mw_386 rfl rfl hd_FG_within ⟨Nat.le_of_ble_eq_true rfl, Nat.le_of_ble_eq_true rfl⟩) ⟨zz_blind, fun U hU hW => ⟨rfl, zz_pre hPc hKc hDc hT U hU hW⟩⟩ rfl rfl hl.1 rfl (lv_room (Nat.le_of_ble_eq_true rfl)) d_FG_map_24 ⟨(Nat.le_of_ble_eq_true rfl), (Nat.le_of_ble_eq_true rfl)⟩) hS (fun q _ h => zz_Af hS hA h) (fun q h => zz_Af hS hA h) (fun rr9 u t H1 locs ht hvm hw hB hz1 hk1 hS => ?_)
      have hP := zz_keep hP hk1
      generalize H1 = H at hP hS ⊢
      rcases hw with ⟨rfl, f10, f11⟩ | ⟨rfl, f12⟩
      · exact absurd ⟨f2, f3, f6, f7, f10, f11⟩ hn
      · refine lv_if_ne (tgt := 40) hx hb d_FG_map_27 (by decide) (fun h => absurd h (by decide)) (fun _ => ?_)
        obtain ⟨zq, hzq⟩ := hT.2.2.2 (67, "no such size of a map") (by decide +kernel)
        refine va_forget (fun q hq => zz_A0 (hS.2.2 q hq)) ?_
        exact th_throwNew (own := R_FG) (E := E_IAE) (tx := "no such size of a map") hx hb hfl hown (by decide) x_IAE_0 x_IAE_1 x_IAE_2 x_IAE_5 (zz_up hts hT hZ) (zz_own_IAE hts hT) (zz_S.st hZ) (hts _ mw_388) (hts _ mw_14) hzq (hl.1.trans hml.symm) d_FG_map_30 d_FG_map_33 d_FG_map_34 d_FG_map_36 d_FG_map_39 hex hS.1 (Nat.le_of_ble_eq_true rfl) (Nat.le_of_ble_eq_true rfl) (Nat.le_of_ble_eq_true rfl) (Nat.le_of_ble_eq_true rfl) hlocks
    · refine lv_if_eq (tgt := 30) hx hb d_FG_map_17 (by decide) (fun _ => ?_) (fun h => absurd h (by decide))
      obtain ⟨zq, hzq⟩ := hT.2.2.2 (67, "no such size of a map") (by decide +kernel)
      refine va_forget (fun q hq => zz_A0 (hS.2.2 q hq)) ?_
      exact th_throwNew (own := R_FG) (E := E_IAE) (tx := "no such size of a map") hx hb hfl hown (by decide) x_IAE_0 x_IAE_1 x_IAE_2 x_IAE_5 (zz_up hts hT hZ) (zz_own_IAE hts hT) (zz_S.st hZ) (hts _ mw_388) (hts _ mw_14) hzq (hl.1.trans hml.symm) d_FG_map_30 d_FG_map_33 d_FG_map_34 d_FG_map_36 d_FG_map_39 hex hS.1 (Nat.le_of_ble_eq_true rfl) (Nat.le_of_ble_eq_true rfl) (Nat.le_of_ble_eq_true rfl) (Nat.le_of_ble_eq_true rfl) hlocks
  · refine lv_if_eq (tgt := 30) hx hb d_FG_map_7 (by decide) (fun _ => ?_) (fun h => absurd h (by decide))
    obtain ⟨zq, hzq⟩ := hT.2.2.2 (67, "no such size of a map") (by decide +kernel)
    refine va_forget (fun q hq => zz_A0 (hS.2.2 q hq)) ?_
    exact th_throwNew (own := R_FG) (E := E_IAE) (tx := "no such size of a map") hx hb hfl hown (by decide) x_IAE_0 x_IAE_1 x_IAE_2 x_IAE_5 (zz_up hts hT hZ) (zz_own_IAE hts hT) (zz_S.st hZ) (hts _ mw_388) (hts _ mw_14) hzq (hl.1.trans hml.symm) d_FG_map_30 d_FG_map_33 d_FG_map_34 d_FG_map_36 d_FG_map_39 hex hS.1 (Nat.le_of_ble_eq_true rfl) (Nat.le_of_ble_eq_true rfl) (Nat.le_of_ble_eq_true rfl) (Nat.le_of_ble_eq_true rfl) hlocks
set_option maxHeartbeats 4000000 in
set_option maxRecDepth 100000 in
theorem Pr_append (l : Launch) (dC : Nat → ClassId) (dI : Nat → Nat → Nat) (sz : Nat) (xp : Nat) (p1 : Nat) (p2 : Nat) (p3 : Nat) (p4 : Nat) (p5 : Nat) (c1 : ClassId) (c2 : ClassId) (c3 : ClassId) (c4 : ClassId) (c5 : ClassId) (a0 : Int32) (a1 : Int32) (a2 : Int32) (a3 : Int32) (a4 : Int32) : Met l y_Pr_append (.code y_Pr_append prog_7_method_2_code 6 (some .int) :: zz_W) ({ frames := 0, cells := 0, slots := 0, locals := 0 }) (va_Pc [.ref xp, .int a0, .int a1, .int a2, .int a3, .int a4] (zz_B dC dI [(xp, .inr (1, [.ref p1, .ref p2, .ref p3, .ref p4, .ref p5, .int 0])), (p1, .inl (c1, 200, .inl (fun _ => 0))), (p2, .inl (c2, 200, .inl (fun _ => 0))), (p3, .inl (c3, 200, .inl (fun _ => 0))), (p4, .inl (c4, 200, .inl (fun _ => 0))), (p5, .inl (c5, 200, .inl (fun _ => 0)))] [(c1, .int), (c2, .int), (c3, .int), (c4, .int), (c5, .int)] sz)) (va_Qi (fun (r : Int32) (_ : Unit) => r = 0) (fun (_ : Unit) (t : State) => va_P (dC, dI) classes [] t.heap ∧ va_K (dC, dI) classes [] t ∧ va_D (va_A [(xp, .inr (1, [.ref p1, .ref p2, .ref p3, .ref p4, .ref p5, .int 0])), (p1, .inl (c1, 200, .inl (fun _ => 0))), (p2, .inl (c2, 200, .inl (fun _ => 0))), (p3, .inl (c3, 200, .inl (fun _ => 0))), (p4, .inl (c4, 200, .inl (fun _ => 0))), (p5, .inl (c5, 200, .inl (fun _ => 0)))] sz) []) (va_A [(xp, .inr (1, [.ref p1, .ref p2, .ref p3, .ref p4, .ref p5, .int 0])), (p1, .inl (c1, 200, .inl (fun _ => 0))), (p2, .inl (c2, 200, .inl (fun _ => 0))), (p3, .inl (c3, 200, .inl (fun _ => 0))), (p4, .inl (c4, 200, .inl (fun _ => 0))), (p5, .inl (c5, 200, .inl (fun _ => 0)))] sz)) 0 0 (va_A [(xp, .inr (1, [.ref p1, .ref p2, .ref p3, .ref p4, .ref p5, .int 0])), (p1, .inl (c1, 200, .inl (fun _ => 0))), (p2, .inl (c2, 200, .inl (fun _ => 0))), (p3, .inl (c3, 200, .inl (fun _ => 0))), (p4, .inl (c4, 200, .inl (fun _ => 0))), (p5, .inl (c5, 200, .inl (fun _ => 0)))] sz) := by
  refine Met.ofW (cc := prog_7_method_2_code) (maxL := 6) (ret := (some .int)) (by decide) rfl ?_
  intro p e s m args below meth c s₁ B hml hv
  obtain ⟨rfl, hsz, hP, hK, hD0, hT⟩ := hv
  have hx := B.exec
  have hb := B.bytes
  have hr := B.returns
  have hts0 := atoms_spec (ws := (.code y_Pr_append prog_7_method_2_code 6 (some .int) :: zz_W)) B.pre
  have hts : ∀ w ∈ zz_W, w.before _ s = true := fun w h => hts0 w (List.mem_cons_of_mem _ h)
  have hown : s.vm.findClass R_Pr = some m.cls := findClass_of_methodNamed B.named
  have hlocks := B.notSynchronized
  subst hsz
  have hD := hD0.self (sz := s.heap.size)
  generalize hAe : va_A [(xp, .inr (1, [.ref p1, .ref p2, .ref p3, .ref p4, .ref p5, .int 0])), (p1, .inl (c1, 200, .inl (fun _ => 0))), (p2, .inl (c2, 200, .inl (fun _ => 0))), (p3, .inl (c3, 200, .inl (fun _ => 0))), (p4, .inl (c4, 200, .inl (fun _ => 0))), (p5, .inl (c5, 200, .inl (fun _ => 0)))] s.heap.size = A at hD ⊢
  have hA : ∀ q : Nat, s.heap.size ≤ q → A q := fun q h => by rw [← hAe]; exact Or.inr h
  have hS : va_S A s.heap s.heap [] := va_S.rf
  have hl := lv_entry ([.ref xp, .int a0, .int a1, .int a2, .int a3, .int a4]) (n := 6) (Nat.le_of_ble_eq_true rfl)
  rw [lg_entry_eq]
  generalize (lg_sl ([.ref xp, .int a0, .int a1, .int a2, .int a3, .int a4]) ++ List.replicate (6 - (lg_sl ([.ref xp, .int a0, .int a1, .int a2, .int a3, .int a4])).length) Slot.unset).toArray = ls at hl ⊢
  have hl : lv_has ls 6 [(0, .ref xp), (1, .int a0), (2, .int a1), (3, .int a2), (4, .int a3), (5, .int a4)] := hl
  refine lv_aload_n hx hb d_Pr_append_0 rfl (lv_at hl 0 rfl) ?_
  refine va_get (D := (dC, dI)) (ci := 1) (v := .ref p1) (C := R_Pr) (T := F_Pr) (N := 6) hx hb hts i_Pr hown hK hP 0 rfl rfl 0 (by decide) (hts _ mw_41) (fun _ h9 => h9) rfl d_Pr_append_1 ?_
  refine lv_aload_n hx hb d_Pr_append_4 rfl (lv_at hl 0 rfl) ?_
  refine va_get (D := (dC, dI)) (ci := 1) (v := .int 0) (C := R_Pr) (T := F_Pr) (N := 6) hx hb hts i_Pr hown hK hP 0 rfl rfl 5 (by decide) (hts _ mw_56) (fun _ h9 => h9) rfl d_Pr_append_5 ?_
  refine lv_iload_n hx hb d_Pr_append_8 rfl (lv_at hl 1 rfl) ?_
  refine va_iast hx hb hK hP hD hS 1 0 rfl rfl (by unfold vp_in; decide) d_Pr_append_9 (fun H locs hP hD hS => ?_)
  have hP : va_P (dC, dI) classes [(xp, .inr (1, [.ref p1, .ref p2, .ref p3, .ref p4, .ref p5, .int 0])), (p1, .inl (c1, 200, .inl (upd (fun _ => 0) (0 : Int32).toNatClampNeg a0))), (p2, .inl (c2, 200, .inl (fun _ => 0))), (p3, .inl (c3, 200, .inl (fun _ => 0))), (p4, .inl (c4, 200, .inl (fun _ => 0))), (p5, .inl (c5, 200, .inl (fun _ => 0)))] H := hP
  have hD : va_D A [(xp, .inr (1, [.ref p1, .ref p2, .ref p3, .ref p4, .ref p5, .int 0])), (p1, .inl (c1, 200, .inl (upd (fun _ => 0) (0 : Int32).toNatClampNeg a0))), (p2, .inl (c2, 200, .inl (fun _ => 0))), (p3, .inl (c3, 200, .inl (fun _ => 0))), (p4, .inl (c4, 200, .inl (fun _ => 0))), (p5, .inl (c5, 200, .inl (fun _ => 0)))] := hD
  obtain ⟨f1, ef1⟩ : ∃ f : Nat → Int32, f = upd (fun _ => 0) (0 : Int32).toNatClampNeg a0 := ⟨_, rfl⟩
  rw [← ef1] at hP hD
  refine lv_aload_n hx hb d_Pr_append_10 rfl (lv_at hl 0 rfl) ?_
  refine va_get (D := (dC, dI)) (ci := 1) (v := .ref p2) (C := R_Pr) (T := F_Pr) (N := 6) hx hb hts i_Pr hown hK hP 0 rfl rfl 1 (by decide) (hts _ mw_44) (fun _ h9 => h9) rfl d_Pr_append_11 ?_
  refine lv_aload_n hx hb d_Pr_append_14 rfl (lv_at hl 0 rfl) ?_
  refine va_get (D := (dC, dI)) (ci := 1) (v := .int 0) (C := R_Pr) (T := F_Pr) (N := 6) hx hb hts i_Pr hown hK hP 0 rfl rfl 5 (by decide) (hts _ mw_56) (fun _ h9 => h9) rfl d_Pr_append_15 ?_
  refine lv_iload_n hx hb d_Pr_append_18 rfl (lv_at hl 2 rfl) ?_
  refine va_iast hx hb hK hP hD hS 2 1 rfl rfl (by unfold vp_in; decide) d_Pr_append_19 (fun H locs hP hD hS => ?_)
  have hP : va_P (dC, dI) classes [(xp, .inr (1, [.ref p1, .ref p2, .ref p3, .ref p4, .ref p5, .int 0])), (p1, .inl (c1, 200, .inl f1)), (p2, .inl (c2, 200, .inl (upd (fun _ => 0) (0 : Int32).toNatClampNeg a1))), (p3, .inl (c3, 200, .inl (fun _ => 0))), (p4, .inl (c4, 200, .inl (fun _ => 0))), (p5, .inl (c5, 200, .inl (fun _ => 0)))] H := hP
  have hD : va_D A [(xp, .inr (1, [.ref p1, .ref p2, .ref p3, .ref p4, .ref p5, .int 0])), (p1, .inl (c1, 200, .inl f1)), (p2, .inl (c2, 200, .inl (upd (fun _ => 0) (0 : Int32).toNatClampNeg a1))), (p3, .inl (c3, 200, .inl (fun _ => 0))), (p4, .inl (c4, 200, .inl (fun _ => 0))), (p5, .inl (c5, 200, .inl (fun _ => 0)))] := hD
  obtain ⟨f2, ef2⟩ : ∃ f : Nat → Int32, f = upd (fun _ => 0) (0 : Int32).toNatClampNeg a1 := ⟨_, rfl⟩
  rw [← ef2] at hP hD
  refine lv_aload_n hx hb d_Pr_append_20 rfl (lv_at hl 0 rfl) ?_
  refine va_get (D := (dC, dI)) (ci := 1) (v := .ref p3) (C := R_Pr) (T := F_Pr) (N := 6) hx hb hts i_Pr hown hK hP 0 rfl rfl 2 (by decide) (hts _ mw_47) (fun _ h9 => h9) rfl d_Pr_append_21 ?_
  refine lv_aload_n hx hb d_Pr_append_24 rfl (lv_at hl 0 rfl) ?_
  refine va_get (D := (dC, dI)) (ci := 1) (v := .int 0) (C := R_Pr) (T := F_Pr) (N := 6) hx hb hts i_Pr hown hK hP 0 rfl rfl 5 (by decide) (hts _ mw_56) (fun _ h9 => h9) rfl d_Pr_append_25 ?_
  refine lv_iload_n hx hb d_Pr_append_28 rfl (lv_at hl 3 rfl) ?_
  refine va_iast hx hb hK hP hD hS 3 2 rfl rfl (by unfold vp_in; decide) d_Pr_append_29 (fun H locs hP hD hS => ?_)
  have hP : va_P (dC, dI) classes [(xp, .inr (1, [.ref p1, .ref p2, .ref p3, .ref p4, .ref p5, .int 0])), (p1, .inl (c1, 200, .inl f1)), (p2, .inl (c2, 200, .inl f2)), (p3, .inl (c3, 200, .inl (upd (fun _ => 0) (0 : Int32).toNatClampNeg a2))), (p4, .inl (c4, 200, .inl (fun _ => 0))), (p5, .inl (c5, 200, .inl (fun _ => 0)))] H := hP
  have hD : va_D A [(xp, .inr (1, [.ref p1, .ref p2, .ref p3, .ref p4, .ref p5, .int 0])), (p1, .inl (c1, 200, .inl f1)), (p2, .inl (c2, 200, .inl f2)), (p3, .inl (c3, 200, .inl (upd (fun _ => 0) (0 : Int32).toNatClampNeg a2))), (p4, .inl (c4, 200, .inl (fun _ => 0))), (p5, .inl (c5, 200, .inl (fun _ => 0)))] := hD
  obtain ⟨f3, ef3⟩ : ∃ f : Nat → Int32, f = upd (fun _ => 0) (0 : Int32).toNatClampNeg a2 := ⟨_, rfl⟩
  rw [← ef3] at hP hD
  refine lv_aload_n hx hb d_Pr_append_30 rfl (lv_at hl 0 rfl) ?_
  refine va_get (D := (dC, dI)) (ci := 1) (v := .ref p4) (C := R_Pr) (T := F_Pr) (N := 6) hx hb hts i_Pr hown hK hP 0 rfl rfl 3 (by decide) (hts _ mw_50) (fun _ h9 => h9) rfl d_Pr_append_31 ?_
  refine lv_aload_n hx hb d_Pr_append_34 rfl (lv_at hl 0 rfl) ?_
  refine va_get (D := (dC, dI)) (ci := 1) (v := .int 0) (C := R_Pr) (T := F_Pr) (N := 6) hx hb hts i_Pr hown hK hP 0 rfl rfl 5 (by decide) (hts _ mw_56) (fun _ h9 => h9) rfl d_Pr_append_35 ?_
  refine lv_iload hx hb d_Pr_append_38 (lv_at hl 4 rfl) ?_
  refine va_iast hx hb hK hP hD hS 4 3 rfl rfl (by unfold vp_in; decide) d_Pr_append_40 (fun H locs hP hD hS => ?_)
  have hP : va_P (dC, dI) classes [(xp, .inr (1, [.ref p1, .ref p2, .ref p3, .ref p4, .ref p5, .int 0])), (p1, .inl (c1, 200, .inl f1)), (p2, .inl (c2, 200, .inl f2)), (p3, .inl (c3, 200, .inl f3)), (p4, .inl (c4, 200, .inl (upd (fun _ => 0) (0 : Int32).toNatClampNeg a3))), (p5, .inl (c5, 200, .inl (fun _ => 0)))] H := hP
  have hD : va_D A [(xp, .inr (1, [.ref p1, .ref p2, .ref p3, .ref p4, .ref p5, .int 0])), (p1, .inl (c1, 200, .inl f1)), (p2, .inl (c2, 200, .inl f2)), (p3, .inl (c3, 200, .inl f3)), (p4, .inl (c4, 200, .inl (upd (fun _ => 0) (0 : Int32).toNatClampNeg a3))), (p5, .inl (c5, 200, .inl (fun _ => 0)))] := hD
  obtain ⟨f4, ef4⟩ : ∃ f : Nat → Int32, f = upd (fun _ => 0) (0 : Int32).toNatClampNeg a3 := ⟨_, rfl⟩
  rw [← ef4] at hP hD
  refine lv_aload_n hx hb d_Pr_append_41 rfl (lv_at hl 0 rfl) ?_
  refine va_get (D := (dC, dI)) (ci := 1) (v := .ref p5) (C := R_Pr) (T := F_Pr) (N := 6) hx hb hts i_Pr hown hK hP 0 rfl rfl 4 (by decide) (hts _ mw_53) (fun _ h9 => h9) rfl d_Pr_append_42 ?_
  refine lv_aload_n hx hb d_Pr_append_45 rfl (lv_at hl 0 rfl) ?_
  refine va_get (D := (dC, dI)) (ci := 1) (v := .int 0) (C := R_Pr) (T := F_Pr) (N := 6) hx hb hts i_Pr hown hK hP 0 rfl rfl 5 (by decide) (hts _ mw_56) (fun _ h9 => h9) rfl d_Pr_append_46 ?_
  refine lv_iload hx hb d_Pr_append_49 (lv_at hl 5 rfl) ?_
  refine va_iast hx hb hK hP hD hS 5 4 rfl rfl (by unfold vp_in; decide) d_Pr_append_51 (fun H locs hP hD hS => ?_)
  have hP : va_P (dC, dI) classes [(xp, .inr (1, [.ref p1, .ref p2, .ref p3, .ref p4, .ref p5, .int 0])), (p1, .inl (c1, 200, .inl f1)), (p2, .inl (c2, 200, .inl f2)), (p3, .inl (c3, 200, .inl f3)), (p4, .inl (c4, 200, .inl f4)), (p5, .inl (c5, 200, .inl (upd (fun _ => 0) (0 : Int32).toNatClampNeg a4)))] H := hP
  have hD : va_D A [(xp, .inr (1, [.ref p1, .ref p2, .ref p3, .ref p4, .ref p5, .int 0])), (p1, .inl (c1, 200, .inl f1)), (p2, .inl (c2, 200, .inl f2)), (p3, .inl (c3, 200, .inl f3)), (p4, .inl (c4, 200, .inl f4)), (p5, .inl (c5, 200, .inl (upd (fun _ => 0) (0 : Int32).toNatClampNeg a4)))] := hD
  obtain ⟨f5, ef5⟩ : ∃ f : Nat → Int32, f = upd (fun _ => 0) (0 : Int32).toNatClampNeg a4 := ⟨_, rfl⟩
  rw [← ef5] at hP hD
  refine lv_aload_n hx hb d_Pr_append_52 rfl (lv_at hl 0 rfl) ?_
  refine lv_dup hx hb d_Pr_append_53 rfl ?_
  refine va_get (D := (dC, dI)) (ci := 1) (v := .int 0) (C := R_Pr) (T := F_Pr) (N := 6) hx hb hts i_Pr hown hK hP 0 rfl rfl 5 (by decide) (hts _ mw_56) (fun _ h9 => h9) rfl d_Pr_append_54 ?_
  refine lv_iconst (v := 1) hx hb d_Pr_append_57 (by decide) ?_
  refine lv_iadd hx hb d_Pr_append_58 ?_
  refine lv_topi (fun z6 ez6 => ?_)
  obtain rfl : z6 = 1 := ez6.trans (by decide)
  refine va_put (D := (dC, dI)) (ci := 1) (v := .int 1) (ty := .int) (C := R_Pr) (T := F_Pr) (N := 6) hx hb hts i_Pr t_Pr t_Pr_ok n_Pr hown hK hP hD hS 0 rfl rfl 5 (by decide) (hts _ mw_56) (fun _ h9 => h9) rfl (by decide +kernel) rfl rfl (Nat.le_of_ble_eq_true rfl) d_Pr_append_59 (fun H locs hP hD hS => ?_)
  have hP : va_P (dC, dI) classes [(xp, .inr (1, [.ref p1, .ref p2, .ref p3, .ref p4, .ref p5, .int 1])), (p1, .inl (c1, 200, .inl f1)), (p2, .inl (c2, 200, .inl f2)), (p3, .inl (c3, 200, .inl f3)), (p4, .inl (c4, 200, .inl f4)), (p5, .inl (c5, 200, .inl f5))] H := hP
  have hD : va_D A [(xp, .inr (1, [.ref p1, .ref p2, .ref p3, .ref p4, .ref p5, .int 1])), (p1, .inl (c1, 200, .inl f1)), (p2, .inl (c2, 200, .inl f2)), (p3, .inl (c3, 200, .inl f3)), (p4, .inl (c4, 200, .inl f4)), (p5, .inl (c5, 200, .inl f5))] := hD
  refine lv_aload_n hx hb d_Pr_append_62 rfl (lv_at hl 0 rfl) ?_
  refine va_get (D := (dC, dI)) (ci := 1) (v := .int 1) (C := R_Pr) (T := F_Pr) (N := 6) hx hb hts i_Pr hown hK hP 0 rfl rfl 5 (by decide) (hts _ mw_56) (fun _ h9 => h9) rfl d_Pr_append_63 ?_
  refine lv_iconst (v := 1) hx hb d_Pr_append_66 (by decide) ?_
  refine lv_isub hx hb d_Pr_append_67 ?_
  refine lv_topi (fun z7 ez7 => ?_)
  obtain rfl : z7 = 0 := ez7.trans (by decide)
  have hP9 := hP.sub (ws' := []) [] rfl
  have hD9 := hD.sub (ws' := []) [] (by decide) rfl
  have hK9 := hK.sub (tys' := []) [] rfl
  refine W.widen (k := 0) (n := 0) (by omega) (by omega) ?_
  exact W.iret (v := 0) hx hb hr (fun t ht hW => ⟨⟨0, (), rfl, rfl, by rw [ht]; exact hP9, va_K.moved hW.alike hK9, hD9⟩, hS.F ht⟩) hS.2.2 d_Pr_append_68
set_option maxHeartbeats 4000000 in
set_option maxRecDepth 100000 in
theorem FG_add (l : Launch) (dC : Nat → ClassId) (dI : Nat → Nat → Nat) (sz : Nat) (x0 : Nat) (xp : Nat) (xm : Nat) (xe : Nat) (xf : Nat) (xc : Nat) (xr : Nat) (p1 : Nat) (p2 : Nat) (p3 : Nat) (p4 : Nat) (p5 : Nat) (c1 : ClassId) (c2 : ClassId) (c3 : ClassId) (c4 : ClassId) (c5 : ClassId) (a0 : Int32) (a1 : Int32) (a2 : Int32) (a3 : Int32) (a4 : Int32) : Met l y_FG_add (.code y_FG_add prog_1_method_3_code 6 (some .int) :: zz_W) ({ frames := 1, cells := 0, slots := 0, locals := 25 }) (va_Pc [.ref x0, .int a0, .int a1, .int a2, .int a3, .int a4] (zz_B dC dI [(x0, .inr (0, [.ref xp, .ref xm, .ref xe, .ref xf, .ref xc, .ref xr, .int 0])), (xp, .inr (1, [.ref p1, .ref p2, .ref p3, .ref p4, .ref p5, .int 0])), (p1, .inl (c1, 200, .inl (fun _ => 0))), (p2, .inl (c2, 200, .inl (fun _ => 0))), (p3, .inl (c3, 200, .inl (fun _ => 0))), (p4, .inl (c4, 200, .inl (fun _ => 0))), (p5, .inl (c5, 200, .inl (fun _ => 0)))] [(c1, .int), (c2, .int), (c3, .int), (c4, .int), (c5, .int)] sz)) (va_Qi (fun (r : Int32) (_ : Unit) => r = 0) (fun (_ : Unit) (t : State) => va_P (dC, dI) classes [] t.heap ∧ va_K (dC, dI) classes [] t ∧ va_D (va_A [(x0, .inr (0, [.ref xp, .ref xm, .ref xe, .ref xf, .ref xc, .ref xr, .int 0])), (xp, .inr (1, [.ref p1, .ref p2, .ref p3, .ref p4, .ref p5, .int 0])), (p1, .inl (c1, 200, .inl (fun _ => 0))), (p2, .inl (c2, 200, .inl (fun _ => 0))), (p3, .inl (c3, 200, .inl (fun _ => 0))), (p4, .inl (c4, 200, .inl (fun _ => 0))), (p5, .inl (c5, 200, .inl (fun _ => 0)))] sz) []) (va_A [(x0, .inr (0, [.ref xp, .ref xm, .ref xe, .ref xf, .ref xc, .ref xr, .int 0])), (xp, .inr (1, [.ref p1, .ref p2, .ref p3, .ref p4, .ref p5, .int 0])), (p1, .inl (c1, 200, .inl (fun _ => 0))), (p2, .inl (c2, 200, .inl (fun _ => 0))), (p3, .inl (c3, 200, .inl (fun _ => 0))), (p4, .inl (c4, 200, .inl (fun _ => 0))), (p5, .inl (c5, 200, .inl (fun _ => 0)))] sz)) 0 0 (va_A [(x0, .inr (0, [.ref xp, .ref xm, .ref xe, .ref xf, .ref xc, .ref xr, .int 0])), (xp, .inr (1, [.ref p1, .ref p2, .ref p3, .ref p4, .ref p5, .int 0])), (p1, .inl (c1, 200, .inl (fun _ => 0))), (p2, .inl (c2, 200, .inl (fun _ => 0))), (p3, .inl (c3, 200, .inl (fun _ => 0))), (p4, .inl (c4, 200, .inl (fun _ => 0))), (p5, .inl (c5, 200, .inl (fun _ => 0)))] sz) := by
  refine Met.ofW (cc := prog_1_method_3_code) (maxL := 6) (ret := (some .int)) (by decide) rfl ?_
  intro p e s m args below meth c s₁ B hml hv
  obtain ⟨rfl, hsz, hP, hK, hD0, hT⟩ := hv
  have hx := B.exec
  have hb := B.bytes
  have hr := B.returns
  have hts0 := atoms_spec (ws := (.code y_FG_add prog_1_method_3_code 6 (some .int) :: zz_W)) B.pre
  have hts : ∀ w ∈ zz_W, w.before _ s = true := fun w h => hts0 w (List.mem_cons_of_mem _ h)
  have hown : s.vm.findClass R_FG = some m.cls := findClass_of_methodNamed B.named
  have hlocks := B.notSynchronized
  subst hsz
  have hD := hD0.self (sz := s.heap.size)
  generalize hAe : va_A [(x0, .inr (0, [.ref xp, .ref xm, .ref xe, .ref xf, .ref xc, .ref xr, .int 0])), (xp, .inr (1, [.ref p1, .ref p2, .ref p3, .ref p4, .ref p5, .int 0])), (p1, .inl (c1, 200, .inl (fun _ => 0))), (p2, .inl (c2, 200, .inl (fun _ => 0))), (p3, .inl (c3, 200, .inl (fun _ => 0))), (p4, .inl (c4, 200, .inl (fun _ => 0))), (p5, .inl (c5, 200, .inl (fun _ => 0)))] s.heap.size = A at hD ⊢
  have hA : ∀ q : Nat, s.heap.size ≤ q → A q := fun q h => by rw [← hAe]; exact Or.inr h
  have hS : va_S A s.heap s.heap [] := va_S.rf
  have hl := lv_entry ([.ref x0, .int a0, .int a1, .int a2, .int a3, .int a4]) (n := 6) (Nat.le_of_ble_eq_true rfl)
  rw [lg_entry_eq]
  generalize (lg_sl ([.ref x0, .int a0, .int a1, .int a2, .int a3, .int a4]) ++ List.replicate (6 - (lg_sl ([.ref x0, .int a0, .int a1, .int a2, .int a3, .int a4])).length) Slot.unset).toArray = ls at hl ⊢
  have hl : lv_has ls 6 [(0, .ref x0), (1, .int a0), (2, .int a1), (3, .int a2), (4, .int a3), (5, .int a4)] := hl
  refine lv_aload_n hx hb d_FG_add_0 rfl (lv_at hl 0 rfl) ?_
  refine va_get (D := (dC, dI)) (ci := 0) (v := .int 0) (C := R_FG) (T := F_FG) (N := 7) hx hb hts i_FG hown hK hP 0 rfl rfl 6 (by decide) (hts _ mw_329) (fun _ h9 => h9) rfl d_FG_add_1 ?_
  refine lv_if_ne (tgt := 20) hx hb d_FG_add_4 (by decide) (fun h => absurd h (by decide)) (fun _ => ?_)
  refine lv_aload_n hx hb d_FG_add_7 rfl (lv_at hl 0 rfl) ?_
  refine va_get (D := (dC, dI)) (ci := 0) (v := .ref xp) (C := R_FG) (T := F_FG) (N := 7) hx hb hts i_FG hown hK hP 0 rfl rfl 0 (by decide) (hts _ mw_323) (fun _ h9 => h9) rfl d_FG_add_8 ?_
  refine va_get (D := (dC, dI)) (ci := 1) (v := .int 0) (C := R_Pr) (T := F_Pr) (N := 6) hx hb hts i_Pr hown hK hP 1 rfl rfl 5 (by decide) (hts _ mw_57) (fun _ h9 => h9) rfl d_FG_add_11 ?_
  refine lv_sipush (v := 200) hx hb d_FG_add_14 (by decide) ?_
  refine lv_icmp_lt (tgt := 30) hx hb d_FG_add_17 (by decide) (fun _ => ?_) (fun h => absurd h (by decide))
  refine lv_aload_n hx hb d_FG_add_30 rfl (lv_at hl 0 rfl) ?_
  refine va_get (D := (dC, dI)) (ci := 0) (v := .ref xp) (C := R_FG) (T := F_FG) (N := 7) hx hb hts i_FG hown hK hP 0 rfl rfl 0 (by decide) (hts _ mw_323) (fun _ h9 => h9) rfl d_FG_add_31 ?_
  refine lv_iload_n hx hb d_FG_add_34 rfl (lv_at hl 1 rfl) ?_
  refine lv_iload_n hx hb d_FG_add_35 rfl (lv_at hl 2 rfl) ?_
  refine lv_iload_n hx hb d_FG_add_36 rfl (lv_at hl 3 rfl) ?_
  refine lv_iload hx hb d_FG_add_37 (lv_at hl 4 rfl) ?_
  refine lv_iload hx hb d_FG_add_39 (lv_at hl 5 rfl) ?_
  have hPc := hP.sub (ws' := [(xp, .inr (1, [.ref p1, .ref p2, .ref p3, .ref p4, .ref p5, .int 0])), (p1, .inl (c1, 200, .inl (fun _ => 0))), (p2, .inl (c2, 200, .inl (fun _ => 0))), (p3, .inl (c3, 200, .inl (fun _ => 0))), (p4, .inl (c4, 200, .inl (fun _ => 0))), (p5, .inl (c5, 200, .inl (fun _ => 0)))]) [1, 2, 3, 4, 5, 6] rfl
  have hKc := hK.sub (tys' := [(c1, .int), (c2, .int), (c3, .int), (c4, .int), (c5, .int)]) [0, 1, 2, 3, 4] rfl
  have hDc := hD.sub (ws' := [(xp, .inr (1, [.ref p1, .ref p2, .ref p3, .ref p4, .ref p5, .int 0])), (p1, .inl (c1, 200, .inl (fun _ => 0))), (p2, .inl (c2, 200, .inl (fun _ => 0))), (p3, .inl (c3, 200, .inl (fun _ => 0))), (p4, .inl (c4, 200, .inl (fun _ => 0))), (p5, .inl (c5, 200, .inl (fun _ => 0)))]) [1, 2, 3, 4, 5, 6] (by decide) rfl
  have hFc := va_free (wc := [(xp, .inr (1, [.ref p1, .ref p2, .ref p3, .ref p4, .ref p5, .int 0])), (p1, .inl (c1, 200, .inl (fun _ => 0))), (p2, .inl (c2, 200, .inl (fun _ => 0))), (p3, .inl (c3, 200, .inl (fun _ => 0))), (p4, .inl (c4, 200, .inl (fun _ => 0))), (p5, .inl (c5, 200, .inl (fun _ => 0)))]) hD hS hA [1, 2, 3, 4, 5, 6] rfl
  refine va_calli (va_runV (As := [.int a0, .int a1, .int a2, .int a3, .int a4]) (rest := []) ⟨hx, hb, hml, hown, hts⟩ (Pr_append l dC dI s.heap.size xp p1 p2 p3 p4 p5 c1 c2 c3 c4 c5 a0 a1 a2 a3 a4) (zz_cV 5 hts mw_485 mw_488 mw_2 mw_486 mw_487 rfl rfl hd_Pr_append ⟨Nat.le_of_ble_eq_true rfl, Nat.le_of_ble_eq_true rfl⟩) ⟨zz_blind, va_recv hKc hPc (ci := 1) (q0 := 0) rfl rfl, fun U hU hW => ⟨rfl, zz_pre hPc hKc hDc hT U hU hW⟩⟩ rfl rfl hl.1 rfl (lv_room (Nat.le_of_ble_eq_true rfl)) d_FG_add_41 ⟨(Nat.le_of_ble_eq_true rfl), (Nat.le_of_ble_eq_true rfl)⟩) hS (fun q _ h => hFc q h) hFc (fun rr1 u t H1 locs ht hvm hw hB hz1 hk1 hS => ?_)
  obtain ⟨hP1, hK1, hD1⟩ := hB
  rw [ht] at hP1
  have hK1 := va_K.moved hvm.symm hK1
  obtain ⟨hP, hD⟩ := va_join (wr := [(x0, .inr (0, [.ref xp, .ref xm, .ref xe, .ref xf, .ref xc, .ref xr, .int 0]))]) (w1 := []) hP hD [1, 2, 3, 4, 5, 6] [0] rfl rfl (by decide) (by decide) hk1 hFc hP1 hD1
  have hK := (hK.sub (tys' := []) [] rfl).app hK1
  generalize H1 = H at hP hS ⊢
  have hP : va_P (dC, dI) classes [(x0, .inr (0, [.ref xp, .ref xm, .ref xe, .ref xf, .ref xc, .ref xr, .int 0]))] H := hP
  have hD : va_D A [(x0, .inr (0, [.ref xp, .ref xm, .ref xe, .ref xf, .ref xc, .ref xr, .int 0]))] := hD
  have hK : va_K (dC, dI) classes [] s := hK
  obtain rfl := hw
  have hP9 := hP.sub (ws' := []) [] rfl
  have hD9 := hD.sub (ws' := []) [] (by decide) rfl
  have hK9 := hK.sub (tys' := []) [] rfl
  refine W.widen (k := 0) (n := 0) (by omega) (by omega) ?_
  exact W.iret (v := 0) hx hb hr (fun t ht hW => ⟨⟨0, (), rfl, rfl, by rw [ht]; exact hP9, va_K.moved hW.alike hK9, hD9⟩, hS.F ht⟩) hS.2.2 d_FG_add_44
set_option maxHeartbeats 4000000 in
set_option maxRecDepth 100000 in
theorem FG_check (l : Launch) (hfl : l.flags = Jvm.pinnedFlags ++ [Jvm.noTraceFlag]) (dC : Nat → ClassId) (dI : Nat → Nat → Nat) (sz : Nat) (x0 : Nat) (xp : Nat) (xm : Nat) (xe : Nat) (xf : Nat) (xc : Nat) (xr : Nat) (p1 : Nat) (p2 : Nat) (p3 : Nat) (p4 : Nat) (p5 : Nat) : th_Met l y_FG_check (.code y_FG_check prog_1_method_4_code 2 (some .int) :: zz_W) ({ frames := 6, cells := 1, slots := 6, locals := 82 }) (va_Pc [.ref x0] (zz_BS dC dI [(x0, .inr (0, [.ref xp, .ref xm, .ref xe, .ref xf, .ref xc, .ref xr, .int 0])), (xp, .inr (1, [.ref p1, .ref p2, .ref p3, .ref p4, .ref p5, .int 0]))] [] sz)) E_ISE 1 6 := by
  refine th_ofW (cc := prog_1_method_4_code) (maxL := 2) (ret := (some .int)) (by decide) rfl ?_
  intro p e s m args below meth c s₁ B hml hv
  obtain ⟨rfl, ⟨hsz, hP, hK, hD0, hT⟩, hZ⟩ := hv
  have hx := B.exec
  have hb := B.bytes
  have hr := B.returns
  have hts0 := atoms_spec (ws := (.code y_FG_check prog_1_method_4_code 2 (some .int) :: zz_W)) B.pre
  have hts : ∀ w ∈ zz_W, w.before _ s = true := fun w h => hts0 w (List.mem_cons_of_mem _ h)
  have hown : s.vm.findClass R_FG = some m.cls := findClass_of_methodNamed B.named
  have hlocks := B.notSynchronized
  have hex := B.noHandlers (hts0 _ List.mem_cons_self)
  subst hsz
  obtain ⟨A, hAe⟩ : ∃ A, A = va_A [] s.heap.size := ⟨_, rfl⟩
  have hA : ∀ q : Nat, s.heap.size ≤ q → A q := fun q h => by rw [hAe]; exact Or.inr h
  have hS : va_S (va_A [] s.heap.size) s.heap s.heap [] := va_S.rf
  subst hAe
  have hl := lv_entry ([.ref x0]) (n := 2) (Nat.le_of_ble_eq_true rfl)
  rw [lg_entry_eq]
  generalize (lg_sl ([.ref x0]) ++ List.replicate (2 - (lg_sl ([.ref x0])).length) Slot.unset).toArray = ls at hl ⊢
  have hl : lv_has ls 2 [(0, .ref x0)] := hl
  refine lv_aload_n hx hb d_FG_check_0 rfl (lv_at hl 0 rfl) ?_
  refine va_get (D := (dC, dI)) (ci := 0) (v := .int 0) (C := R_FG) (T := F_FG) (N := 7) hx hb hts i_FG hown hK hP 0 rfl rfl 6 (by decide) (hts _ mw_329) (fun _ h9 => h9) rfl d_FG_check_1 ?_
  refine lv_if_ne (tgt := 17) hx hb d_FG_check_4 (by decide) (fun h => absurd h (by decide)) (fun _ => ?_)
  refine lv_aload_n hx hb d_FG_check_7 rfl (lv_at hl 0 rfl) ?_
  refine va_get (D := (dC, dI)) (ci := 0) (v := .ref xp) (C := R_FG) (T := F_FG) (N := 7) hx hb hts i_FG hown hK hP 0 rfl rfl 0 (by decide) (hts _ mw_323) (fun _ h9 => h9) rfl d_FG_check_8 ?_
  refine va_get (D := (dC, dI)) (ci := 1) (v := .int 0) (C := R_Pr) (T := F_Pr) (N := 6) hx hb hts i_Pr hown hK hP 1 rfl rfl 5 (by decide) (hts _ mw_57) (fun _ h9 => h9) rfl d_FG_check_11 ?_
  refine lv_if_ne (tgt := 27) hx hb d_FG_check_14 (by decide) (fun h => absurd h (by decide)) (fun _ => ?_)
  obtain ⟨zq, hzq⟩ := hT.2.2.2 (91, "there is nothing to check") (by decide +kernel)
  refine va_forget (fun q hq => zz_A0 (hS.2.2 q hq)) ?_
  exact th_throwNew (own := R_FG) (E := E_ISE) (tx := "there is nothing to check") hx hb hfl hown (by decide) x_ISE_0 x_ISE_1 x_ISE_2 x_ISE_5 (zz_up hts hT hZ) (zz_own_ISE hts hT) (zz_S.st hZ) (hts _ mw_457) (hts _ mw_15) hzq (hl.1.trans hml.symm) d_FG_check_17 d_FG_check_20 d_FG_check_21 d_FG_check_23 d_FG_check_26 hex hS.1 (Nat.le_of_ble_eq_true rfl) (Nat.le_of_ble_eq_true rfl) (Nat.le_of_ble_eq_true rfl) (Nat.le_of_ble_eq_true rfl) hlocks
set_option maxHeartbeats 4000000 in
set_option maxRecDepth 100000 in
theorem Ar_fill_512_lp {p : Program} {e : Env} {s : State} {m : MethodId} {below : List Frame} {meth : Method} {c : Code} (l : Launch) (dC : Nat → ClassId) (dI : Nat → Nat → Nat) (h0 : Nat) (c1 : ClassId) (v : Int32) (hx : p.tables.exec = Jvm.exec) (hb : c.code = prog_27_method_109_code) (hr : meth.sig.returnType = none) (hml : c.maxLocals = 4) (hown : s.vm.findClass R_Ar = some m.cls) (hts : ∀ w ∈ zz_W, w.before ([.ref h0, .int v] : List Value).toArray s = true) (hT : zz_T s) (hlocks : meth.locks = false) {A : Nat → Prop} (hA : ∀ q : Nat, s.heap.size ≤ q → A q) :
    ∀ (n i : Nat), i ≤ 512 → 512 + 1 ≤ i + n → ∀ (fvlp0 : Nat → Int32) (H : Heap) (locs : List Loc) (ls : Array Slot), va_K (dC, dI) classes [(c1, .byte)] s → va_P (dC, dI) classes [(h0, .inl (c1, 512, .inl fvlp0))] H → va_D A [(h0, .inl (c1, 512, .inl fvlp0))] → va_S A s.heap H locs → lv_has ls 4 [(3, .int 512), (2, .int (nI i)), (0, .ref h0), (1, .int v)] → W p l e ({ frames := 0, cells := 0, slots := 0, locals := 0 }) s m ([.ref h0, .int v] : List Value).toArray below meth c H locs 0 0 (MQ below (va_Qv (fun (_ : Unit) => True) (fun (_ : Unit) (t : State) => va_P (dC, dI) classes [] t.heap ∧ va_K (dC, dI) classes [] t ∧ va_D A []) A) ([.ref h0, .int v] : List Value).toArray s 0 0 A) (F0 m 5 ls []) := by
  intro n
  induction n with
  | zero =>
    intro i h1 h2
    exact absurd h2 (by omega)
  | succ n ih =>
    intro i hi0 hn fvlp0 H locs ls hK hP hD hS hl
    rcases Nat.lt_or_ge i 512 with hi | hi
    · refine lv_iload_n hx hb d_Ar_fill_5 rfl (lv_at hl 1 rfl) ?_
      refine lv_iload_n hx hb d_Ar_fill_6 rfl (lv_at hl 0 rfl) ?_
      refine lv_icmp_ge (tgt := 20) hx hb d_Ar_fill_7 (by decide) (fun h => absurd h (nI_ge (b := 512) hi (by decide))) (fun _ => ?_)
      refine lv_aload_n hx hb d_Ar_fill_10 rfl (lv_at hl 2 rfl) ?_
      refine lv_iload_n hx hb d_Ar_fill_11 rfl (lv_at hl 1 rfl) ?_
      refine lv_iload_n hx hb d_Ar_fill_12 rfl (lv_at hl 3 rfl) ?_
      refine va_bast hx hb hK hP hD hS 0 0 rfl rfl (vp_in_nI (by omega) (by decide)) d_Ar_fill_13 (fun H locs hP hD hS => ?_)
      have hP : va_P (dC, dI) classes [(h0, .inl (c1, 512, .inl (upd fvlp0 (nI i : Int32).toNatClampNeg (vp_nar .byte v))))] H := hP
      have hD : va_D A [(h0, .inl (c1, 512, .inl (upd fvlp0 (nI i : Int32).toNatClampNeg (vp_nar .byte v))))] := hD
      obtain ⟨f101, ef101⟩ : ∃ f : Nat → Int32, f = upd fvlp0 (nI i : Int32).toNatClampNeg (vp_nar .byte v) := ⟨_, rfl⟩
      rw [← ef101] at hP hD
      refine lv_iinc (v := nI (i + 1)) (lv' := [(2, .int (nI (i + 1))), (3, .int 512), (0, .ref h0), (1, .int v)]) hx hb d_Ar_fill_14 hl (k := 1) rfl (nI_1 i) (by decide) rfl (fun ls hl => ?_)
      refine lv_goto (tgt := 5) hx hb d_Ar_fill_17 (by decide) ?_
      exact ih (i + 1) (by omega) (by omega) f101 _ _ ls hK hP hD hS (lv_sub hl [1, 0, 2, 3] rfl)
    · obtain rfl : i = 512 := by omega
      refine lv_iload_n hx hb d_Ar_fill_5 rfl (lv_at hl 1 rfl) ?_
      refine lv_iload_n hx hb d_Ar_fill_6 rfl (lv_at hl 0 rfl) ?_
      refine lv_icmp_ge (tgt := 20) hx hb d_Ar_fill_7 (by decide) (fun _ => ?_) (fun h => absurd (nI_le (a := 512) hi (by decide)) h)
      have hP9 := hP.sub (ws' := []) [] rfl
      have hD9 := hD.sub (ws' := []) [] (by decide) rfl
      have hK9 := hK.sub (tys' := []) [] rfl
      refine W.widen (k := 0) (n := 0) (by omega) (by omega) ?_
      exact W.vret hx hb hr (fun t ht hW => ⟨⟨(), rfl, trivial, by rw [ht]; exact hP9, va_K.moved hW.alike hK9, hD9⟩, hS.F ht⟩) hS.2.2 d_Ar_fill_20
set_option maxHeartbeats 4000000 in
set_option maxRecDepth 100000 in
theorem Ar_fill_512 (l : Launch) (dC : Nat → ClassId) (dI : Nat → Nat → Nat) (sz : Nat) (h0 : Nat) (c1 : ClassId) (v : Int32) : Met l y_Ar_fill (.code y_Ar_fill prog_27_method_109_code 4 none :: zz_W) ({ frames := 0, cells := 0, slots := 0, locals := 0 }) (va_Pc [.ref h0, .int v] (zz_B dC dI [(h0, .inl (c1, 512, .inl (fun _ => 0)))] [(c1, .byte)] sz)) (va_Qv (fun (_ : Unit) => True) (fun (_ : Unit) (t : State) => va_P (dC, dI) classes [] t.heap ∧ va_K (dC, dI) classes [] t ∧ va_D (va_A [(h0, .inl (c1, 512, .inl (fun _ => 0)))] sz) []) (va_A [(h0, .inl (c1, 512, .inl (fun _ => 0)))] sz)) 0 0 (va_A [(h0, .inl (c1, 512, .inl (fun _ => 0)))] sz) := by
  refine Met.ofW (cc := prog_27_method_109_code) (maxL := 4) (ret := none) (by decide) rfl ?_
  intro p e s m args below meth c s₁ B hml hv
  obtain ⟨rfl, hsz, hP, hK, hD0, hT⟩ := hv
  have hx := B.exec
  have hb := B.bytes
  have hr := B.returns
  have hts0 := atoms_spec (ws := (.code y_Ar_fill prog_27_method_109_code 4 none :: zz_W)) B.pre
  have hts : ∀ w ∈ zz_W, w.before _ s = true := fun w h => hts0 w (List.mem_cons_of_mem _ h)
  have hown : s.vm.findClass R_Ar = some m.cls := findClass_of_methodNamed B.named
  have hlocks := B.notSynchronized
  subst hsz
  have hD := hD0.self (sz := s.heap.size)
  generalize hAe : va_A [(h0, .inl (c1, 512, .inl (fun _ => 0)))] s.heap.size = A at hD ⊢
  have hA : ∀ q : Nat, s.heap.size ≤ q → A q := fun q h => by rw [← hAe]; exact Or.inr h
  have hS : va_S A s.heap s.heap [] := va_S.rf
  have hl := lv_entry ([.ref h0, .int v]) (n := 4) (Nat.le_of_ble_eq_true rfl)
  rw [lg_entry_eq]
  generalize (lg_sl ([.ref h0, .int v]) ++ List.replicate (4 - (lg_sl ([.ref h0, .int v])).length) Slot.unset).toArray = ls at hl ⊢
  have hl : lv_has ls 4 [(0, .ref h0), (1, .int v)] := hl
  refine lv_iconst (v := 0) hx hb d_Ar_fill_0 (by decide) ?_
  refine lv_istore_n (lv' := [(2, .int 0), (0, .ref h0), (1, .int v)]) hx hb d_Ar_fill_1 rfl hl (by decide) rfl (fun ls hl => ?_)
  refine lv_aload_n hx hb d_Ar_fill_2 rfl (lv_at hl 1 rfl) ?_
  refine va_alen (v := 512) hx hb hK hP 0 0 rfl rfl rfl d_Ar_fill_3 ?_
  refine lv_istore_n (lv' := [(3, .int 512), (2, .int 0), (0, .ref h0), (1, .int v)]) hx hb d_Ar_fill_4 rfl hl (by decide) rfl (fun ls hl => ?_)
  exact Ar_fill_512_lp l dC dI h0 c1 v hx hb hr hml hown hts hT hlocks hA (512 + 1) 0 (by omega) (by omega) (fun _ => 0) _ _ ls hK hP hD hS hl
set_option maxHeartbeats 4000000 in
set_option maxRecDepth 100000 in
theorem Ar_fill_4096_lp {p : Program} {e : Env} {s : State} {m : MethodId} {below : List Frame} {meth : Method} {c : Code} (l : Launch) (dC : Nat → ClassId) (dI : Nat → Nat → Nat) (h0 : Nat) (c1 : ClassId) (v : Int32) (hx : p.tables.exec = Jvm.exec) (hb : c.code = prog_27_method_109_code) (hr : meth.sig.returnType = none) (hml : c.maxLocals = 4) (hown : s.vm.findClass R_Ar = some m.cls) (hts : ∀ w ∈ zz_W, w.before ([.ref h0, .int v] : List Value).toArray s = true) (hT : zz_T s) (hlocks : meth.locks = false) {A : Nat → Prop} (hA : ∀ q : Nat, s.heap.size ≤ q → A q) :
    ∀ (n i : Nat), i ≤ 4096 → 4096 + 1 ≤ i + n → ∀ (fvlp0 : Nat → Int32) (H : Heap) (locs : List Loc) (ls : Array Slot), va_K (dC, dI) classes [(c1, .byte)] s → va_P (dC, dI) classes [(h0, .inl (c1, 4096, .inl fvlp0))] H → va_D A [(h0, .inl (c1, 4096, .inl fvlp0))] → va_S A s.heap H locs → lv_has ls 4 [(3, .int 4096), (2, .int (nI i)), (0, .ref h0), (1, .int v)] → W p l e ({ frames := 0, cells := 0, slots := 0, locals := 0 }) s m ([.ref h0, .int v] : List Value).toArray below meth c H locs 0 0 (MQ below (va_Qv (fun (_ : Unit) => True) (fun (_ : Unit) (t : State) => va_P (dC, dI) classes [] t.heap ∧ va_K (dC, dI) classes [] t ∧ va_D A []) A) ([.ref h0, .int v] : List Value).toArray s 0 0 A) (F0 m 5 ls []) := by
  intro n
  induction n with
  | zero =>
    intro i h1 h2
    exact absurd h2 (by omega)
  | succ n ih =>
    intro i hi0 hn fvlp0 H locs ls hK hP hD hS hl
    rcases Nat.lt_or_ge i 4096 with hi | hi
    · refine lv_iload_n hx hb d_Ar_fill_5 rfl (lv_at hl 1 rfl) ?_
      refine lv_iload_n hx hb d_Ar_fill_6 rfl (lv_at hl 0 rfl) ?_
      refine lv_icmp_ge (tgt := 20) hx hb d_Ar_fill_7 (by decide) (fun h => absurd h (nI_ge (b := 4096) hi (by decide))) (fun _ => ?_)
      refine lv_aload_n hx hb d_Ar_fill_10 rfl (lv_at hl 2 rfl) ?_
      refine lv_iload_n hx hb d_Ar_fill_11 rfl (lv_at hl 1 rfl) ?_
      refine lv_iload_n hx hb d_Ar_fill_12 rfl (lv_at hl 3 rfl) ?_
      refine va_bast hx hb hK hP hD hS 0 0 rfl rfl (vp_in_nI (by omega) (by decide)) d_Ar_fill_13 (fun H locs hP hD hS => ?_)
      have hP : va_P (dC, dI) classes [(h0, .inl (c1, 4096, .inl (upd fvlp0 (nI i : Int32).toNatClampNeg (vp_nar .byte v))))] H := hP
      have hD : va_D A [(h0, .inl (c1, 4096, .inl (upd fvlp0 (nI i : Int32).toNatClampNeg (vp_nar .byte v))))] := hD
      obtain ⟨f101, ef101⟩ : ∃ f : Nat → Int32, f = upd fvlp0 (nI i : Int32).toNatClampNeg (vp_nar .byte v) := ⟨_, rfl⟩
      rw [← ef101] at hP hD
      refine lv_iinc (v := nI (i + 1)) (lv' := [(2, .int (nI (i + 1))), (3, .int 4096), (0, .ref h0), (1, .int v)]) hx hb d_Ar_fill_14 hl (k := 1) rfl (nI_1 i) (by decide) rfl (fun ls hl => ?_)
      refine lv_goto (tgt := 5) hx hb d_Ar_fill_17 (by decide) ?_
      exact ih (i + 1) (by omega) (by omega) f101 _ _ ls hK hP hD hS (lv_sub hl [1, 0, 2, 3] rfl)
    · obtain rfl : i = 4096 := by omega
      refine lv_iload_n hx hb d_Ar_fill_5 rfl (lv_at hl 1 rfl) ?_
      refine lv_iload_n hx hb d_Ar_fill_6 rfl (lv_at hl 0 rfl) ?_
      refine lv_icmp_ge (tgt := 20) hx hb d_Ar_fill_7 (by decide) (fun _ => ?_) (fun h => absurd (nI_le (a := 4096) hi (by decide)) h)
      have hP9 := hP.sub (ws' := []) [] rfl
      have hD9 := hD.sub (ws' := []) [] (by decide) rfl
      have hK9 := hK.sub (tys' := []) [] rfl
      refine W.widen (k := 0) (n := 0) (by omega) (by omega) ?_
      exact W.vret hx hb hr (fun t ht hW => ⟨⟨(), rfl, trivial, by rw [ht]; exact hP9, va_K.moved hW.alike hK9, hD9⟩, hS.F ht⟩) hS.2.2 d_Ar_fill_20
set_option maxHeartbeats 4000000 in
set_option maxRecDepth 100000 in
theorem Ar_fill_4096 (l : Launch) (dC : Nat → ClassId) (dI : Nat → Nat → Nat) (sz : Nat) (h0 : Nat) (c1 : ClassId) (v : Int32) : Met l y_Ar_fill (.code y_Ar_fill prog_27_method_109_code 4 none :: zz_W) ({ frames := 0, cells := 0, slots := 0, locals := 0 }) (va_Pc [.ref h0, .int v] (zz_B dC dI [(h0, .inl (c1, 4096, .inl (fun _ => 0)))] [(c1, .byte)] sz)) (va_Qv (fun (_ : Unit) => True) (fun (_ : Unit) (t : State) => va_P (dC, dI) classes [] t.heap ∧ va_K (dC, dI) classes [] t ∧ va_D (va_A [(h0, .inl (c1, 4096, .inl (fun _ => 0)))] sz) []) (va_A [(h0, .inl (c1, 4096, .inl (fun _ => 0)))] sz)) 0 0 (va_A [(h0, .inl (c1, 4096, .inl (fun _ => 0)))] sz) := by
  refine Met.ofW (cc := prog_27_method_109_code) (maxL := 4) (ret := none) (by decide) rfl ?_
  intro p e s m args below meth c s₁ B hml hv
  obtain ⟨rfl, hsz, hP, hK, hD0, hT⟩ := hv
  have hx := B.exec
  have hb := B.bytes
  have hr := B.returns
  have hts0 := atoms_spec (ws := (.code y_Ar_fill prog_27_method_109_code 4 none :: zz_W)) B.pre
  have hts : ∀ w ∈ zz_W, w.before _ s = true := fun w h => hts0 w (List.mem_cons_of_mem _ h)
  have hown : s.vm.findClass R_Ar = some m.cls := findClass_of_methodNamed B.named
  have hlocks := B.notSynchronized
  subst hsz
  have hD := hD0.self (sz := s.heap.size)
  generalize hAe : va_A [(h0, .inl (c1, 4096, .inl (fun _ => 0)))] s.heap.size = A at hD ⊢
  have hA : ∀ q : Nat, s.heap.size ≤ q → A q := fun q h => by rw [← hAe]; exact Or.inr h
  have hS : va_S A s.heap s.heap [] := va_S.rf
  have hl := lv_entry ([.ref h0, .int v]) (n := 4) (Nat.le_of_ble_eq_true rfl)
  rw [lg_entry_eq]
  generalize (lg_sl ([.ref h0, .int v]) ++ List.replicate (4 - (lg_sl ([.ref h0, .int v])).length) Slot.unset).toArray = ls at hl ⊢
  have hl : lv_has ls 4 [(0, .ref h0), (1, .int v)] := hl
  refine lv_iconst (v := 0) hx hb d_Ar_fill_0 (by decide) ?_
  refine lv_istore_n (lv' := [(2, .int 0), (0, .ref h0), (1, .int v)]) hx hb d_Ar_fill_1 rfl hl (by decide) rfl (fun ls hl => ?_)
  refine lv_aload_n hx hb d_Ar_fill_2 rfl (lv_at hl 1 rfl) ?_
  refine va_alen (v := 4096) hx hb hK hP 0 0 rfl rfl rfl d_Ar_fill_3 ?_
  refine lv_istore_n (lv' := [(3, .int 4096), (2, .int 0), (0, .ref h0), (1, .int v)]) hx hb d_Ar_fill_4 rfl hl (by decide) rfl (fun ls hl => ?_)
  exact Ar_fill_4096_lp l dC dI h0 c1 v hx hb hr hml hown hts hT hlocks hA (4096 + 1) 0 (by omega) (by omega) (fun _ => 0) _ _ ls hK hP hD hS hl
set_option maxHeartbeats 4000000 in
set_option maxRecDepth 100000 in
theorem Ma_forget_lp {p : Program} {e : Env} {s : State} {m : MethodId} {below : List Frame} {meth : Method} {c : Code} (l : Launch) (dC : Nat → ClassId) (dI : Nat → Nat → Nat) (xm : Nat) (m1 : Nat) (m2 : Nat) (m3 : Nat) (m4 : Nat) (m5 : Nat) (m6 : Nat) (m7 : Nat) (c3 : ClassId) (c6 : ClassId) (c7 : ClassId) (hx : p.tables.exec = Jvm.exec) (hb : c.code = prog_5_method_3_code) (hr : meth.sig.returnType = none) (hml : c.maxLocals = 2) (hown : s.vm.findClass R_Ma = some m.cls) (hts : ∀ w ∈ zz_W, w.before ([.ref xm] : List Value).toArray s = true) (hT : zz_T s) (hlocks : meth.locks = false) {A : Nat → Prop} (hA : ∀ q : Nat, s.heap.size ≤ q → A q) :
    ∀ (n i : Nat), i ≤ 64 → 64 + 1 ≤ i + n → ∀ (fvlp0 : Nat → Int32) (H : Heap) (locs : List Loc) (ls : Array Slot), va_K (dC, dI) classes [(c6, .boolean)] s → va_P (dC, dI) classes [(xm, .inr (2, [.ref m1, .ref m2, .ref m3, .ref m4, .ref m5, .ref m6, .ref m7, .int 0])), (m6, .inl (c6, 64, .inl fvlp0))] H → va_D A [(xm, .inr (2, [.ref m1, .ref m2, .ref m3, .ref m4, .ref m5, .ref m6, .ref m7, .int 0])), (m6, .inl (c6, 64, .inl fvlp0))] → va_S A s.heap H locs → lv_has ls 2 [(1, .int (nI i)), (0, .ref xm)] → W p l e ({ frames := 1, cells := 0, slots := 0, locals := 40 }) s m ([.ref xm] : List Value).toArray below meth c H locs 0 0 (MQ below (va_Qv (fun (_ : Unit) => True) (fun (_ : Unit) (t : State) => va_P (dC, dI) classes [] t.heap ∧ va_K (dC, dI) classes [] t ∧ va_D A []) A) ([.ref xm] : List Value).toArray s 0 0 A) (F0 m 23 ls []) := by
  intro n
  induction n with
  | zero =>
    intro i h1 h2
    exact absurd h2 (by omega)
  | succ n ih =>
    intro i hi0 hn fvlp0 H locs ls hK hP hD hS hl
    rcases Nat.lt_or_ge i 64 with hi | hi
    · refine lv_iload_n hx hb d_Ma_forget_23 rfl (lv_at hl 0 rfl) ?_
      refine lv_aload_n hx hb d_Ma_forget_24 rfl (lv_at hl 1 rfl) ?_
      refine va_get (D := (dC, dI)) (ci := 2) (v := .ref m6) (C := R_Ma) (T := F_Ma) (N := 8) hx hb hts i_Ma hown hK hP 0 rfl rfl 5 (by decide) (hts _ mw_94) (fun _ h9 => h9) rfl d_Ma_forget_25 ?_
      refine va_alen (v := 64) hx hb hK hP 1 0 rfl rfl rfl d_Ma_forget_28 ?_
      refine lv_icmp_ge (tgt := 45) hx hb d_Ma_forget_29 (by decide) (fun h => absurd h (nI_ge (b := 64) hi (by decide))) (fun _ => ?_)
      refine lv_aload_n hx hb d_Ma_forget_32 rfl (lv_at hl 1 rfl) ?_
      refine va_get (D := (dC, dI)) (ci := 2) (v := .ref m6) (C := R_Ma) (T := F_Ma) (N := 8) hx hb hts i_Ma hown hK hP 0 rfl rfl 5 (by decide) (hts _ mw_94) (fun _ h9 => h9) rfl d_Ma_forget_33 ?_
      refine lv_iload_n hx hb d_Ma_forget_36 rfl (lv_at hl 0 rfl) ?_
      refine lv_iconst (v := 0) hx hb d_Ma_forget_37 (by decide) ?_
      refine va_zast hx hb hK hP hD hS 1 0 rfl rfl (vp_in_nI (by omega) (by decide)) d_Ma_forget_38 (fun H locs hP hD hS => ?_)
      have hP : va_P (dC, dI) classes [(xm, .inr (2, [.ref m1, .ref m2, .ref m3, .ref m4, .ref m5, .ref m6, .ref m7, .int 0])), (m6, .inl (c6, 64, .inl (upd fvlp0 (nI i : Int32).toNatClampNeg (vp_nar .boolean 0))))] H := hP
      have hD : va_D A [(xm, .inr (2, [.ref m1, .ref m2, .ref m3, .ref m4, .ref m5, .ref m6, .ref m7, .int 0])), (m6, .inl (c6, 64, .inl (upd fvlp0 (nI i : Int32).toNatClampNeg (vp_nar .boolean 0))))] := hD
      obtain ⟨f101, ef101⟩ : ∃ f : Nat → Int32, f = upd fvlp0 (nI i : Int32).toNatClampNeg (vp_nar .boolean 0) := ⟨_, rfl⟩
      rw [← ef101] at hP hD
      refine lv_iinc (v := nI (i + 1)) (lv' := [(1, .int (nI (i + 1))), (0, .ref xm)]) hx hb d_Ma_forget_39 hl (k := 0) rfl (nI_1 i) (by decide) rfl (fun ls hl => ?_)
      refine lv_goto (tgt := 23) hx hb d_Ma_forget_42 (by decide) ?_
      exact ih (i + 1) (by omega) (by omega) f101 _ _ ls hK hP hD hS (lv_sub hl [0, 1] rfl)
    · obtain rfl : i = 64 := by omega
      refine lv_iload_n hx hb d_Ma_forget_23 rfl (lv_at hl 0 rfl) ?_
      refine lv_aload_n hx hb d_Ma_forget_24 rfl (lv_at hl 1 rfl) ?_
      refine va_get (D := (dC, dI)) (ci := 2) (v := .ref m6) (C := R_Ma) (T := F_Ma) (N := 8) hx hb hts i_Ma hown hK hP 0 rfl rfl 5 (by decide) (hts _ mw_94) (fun _ h9 => h9) rfl d_Ma_forget_25 ?_
      refine va_alen (v := 64) hx hb hK hP 1 0 rfl rfl rfl d_Ma_forget_28 ?_
      refine lv_icmp_ge (tgt := 45) hx hb d_Ma_forget_29 (by decide) (fun _ => ?_) (fun h => absurd (nI_le (a := 64) hi (by decide)) h)
      have hP9 := hP.sub (ws' := []) [] rfl
      have hD9 := hD.sub (ws' := []) [] (by decide) rfl
      have hK9 := hK.sub (tys' := []) [] rfl
      refine W.widen (k := 0) (n := 0) (by omega) (by omega) ?_
      exact W.vret hx hb hr (fun t ht hW => ⟨⟨(), rfl, trivial, by rw [ht]; exact hP9, va_K.moved hW.alike hK9, hD9⟩, hS.F ht⟩) hS.2.2 d_Ma_forget_45
set_option maxHeartbeats 4000000 in
set_option maxRecDepth 100000 in
theorem Ma_forget (l : Launch) (dC : Nat → ClassId) (dI : Nat → Nat → Nat) (sz : Nat) (xm : Nat) (m1 : Nat) (m2 : Nat) (m3 : Nat) (m4 : Nat) (m5 : Nat) (m6 : Nat) (m7 : Nat) (c3 : ClassId) (c6 : ClassId) (c7 : ClassId) : Met l y_Ma_forget (.code y_Ma_forget prog_5_method_3_code 2 none :: zz_W) ({ frames := 1, cells := 0, slots := 0, locals := 40 }) (va_Pc [.ref xm] (zz_B dC dI [(xm, .inr (2, [.ref m1, .ref m2, .ref m3, .ref m4, .ref m5, .ref m6, .ref m7, .int 0])), (m3, .inl (c3, 4096, .inl (fun _ => 0))), (m6, .inl (c6, 64, .inl (fun _ => 0))), (m7, .inl (c7, 512, .inl (fun _ => 0)))] [(c3, .byte), (c6, .boolean), (c7, .byte)] sz)) (va_Qv (fun (_ : Unit) => True) (fun (_ : Unit) (t : State) => va_P (dC, dI) classes [] t.heap ∧ va_K (dC, dI) classes [] t ∧ va_D (va_A [(xm, .inr (2, [.ref m1, .ref m2, .ref m3, .ref m4, .ref m5, .ref m6, .ref m7, .int 0])), (m3, .inl (c3, 4096, .inl (fun _ => 0))), (m6, .inl (c6, 64, .inl (fun _ => 0))), (m7, .inl (c7, 512, .inl (fun _ => 0)))] sz) []) (va_A [(xm, .inr (2, [.ref m1, .ref m2, .ref m3, .ref m4, .ref m5, .ref m6, .ref m7, .int 0])), (m3, .inl (c3, 4096, .inl (fun _ => 0))), (m6, .inl (c6, 64, .inl (fun _ => 0))), (m7, .inl (c7, 512, .inl (fun _ => 0)))] sz)) 0 0 (va_A [(xm, .inr (2, [.ref m1, .ref m2, .ref m3, .ref m4, .ref m5, .ref m6, .ref m7, .int 0])), (m3, .inl (c3, 4096, .inl (fun _ => 0))), (m6, .inl (c6, 64, .inl (fun _ => 0))), (m7, .inl (c7, 512, .inl (fun _ => 0)))] sz) := by
  refine Met.ofW (cc := prog_5_method_3_code) (maxL := 2) (ret := none) (by decide) rfl ?_
  intro p e s m args below meth c s₁ B hml hv
  obtain ⟨rfl, hsz, hP, hK, hD0, hT⟩ := hv
  have hx := B.exec
  have hb := B.bytes
  have hr := B.returns
  have hts0 := atoms_spec (ws := (.code y_Ma_forget prog_5_method_3_code 2 none :: zz_W)) B.pre
  have hts : ∀ w ∈ zz_W, w.before _ s = true := fun w h => hts0 w (List.mem_cons_of_mem _ h)
  have hown : s.vm.findClass R_Ma = some m.cls := findClass_of_methodNamed B.named
  have hlocks := B.notSynchronized
  subst hsz
  have hD := hD0.self (sz := s.heap.size)
  generalize hAe : va_A [(xm, .inr (2, [.ref m1, .ref m2, .ref m3, .ref m4, .ref m5, .ref m6, .ref m7, .int 0])), (m3, .inl (c3, 4096, .inl (fun _ => 0))), (m6, .inl (c6, 64, .inl (fun _ => 0))), (m7, .inl (c7, 512, .inl (fun _ => 0)))] s.heap.size = A at hD ⊢
  have hA : ∀ q : Nat, s.heap.size ≤ q → A q := fun q h => by rw [← hAe]; exact Or.inr h
  have hS : va_S A s.heap s.heap [] := va_S.rf
  have hl := lv_entry ([.ref xm]) (n := 2) (Nat.le_of_ble_eq_true rfl)
  rw [lg_entry_eq]
  generalize (lg_sl ([.ref xm]) ++ List.replicate (2 - (lg_sl ([.ref xm])).length) Slot.unset).toArray = ls at hl ⊢
  have hl : lv_has ls 2 [(0, .ref xm)] := hl
  refine lv_aload_n hx hb d_Ma_forget_0 rfl (lv_at hl 0 rfl) ?_
  refine lv_iconst (v := 0) hx hb d_Ma_forget_1 (by decide) ?_
  refine va_put (D := (dC, dI)) (ci := 2) (v := .int 0) (ty := .int) (C := R_Ma) (T := F_Ma) (N := 8) hx hb hts i_Ma t_Ma t_Ma_ok n_Ma hown hK hP hD hS 0 rfl rfl 7 (by decide) (hts _ mw_96) (fun _ h9 => h9) rfl (by decide +kernel) rfl rfl (Nat.le_of_ble_eq_true rfl) d_Ma_forget_2 (fun H locs hP hD hS => ?_)
  have hP : va_P (dC, dI) classes [(xm, .inr (2, [.ref m1, .ref m2, .ref m3, .ref m4, .ref m5, .ref m6, .ref m7, .int 0])), (m3, .inl (c3, 4096, .inl (fun _ => 0))), (m6, .inl (c6, 64, .inl (fun _ => 0))), (m7, .inl (c7, 512, .inl (fun _ => 0)))] H := hP
  have hD : va_D A [(xm, .inr (2, [.ref m1, .ref m2, .ref m3, .ref m4, .ref m5, .ref m6, .ref m7, .int 0])), (m3, .inl (c3, 4096, .inl (fun _ => 0))), (m6, .inl (c6, 64, .inl (fun _ => 0))), (m7, .inl (c7, 512, .inl (fun _ => 0)))] := hD
  refine lv_aload_n hx hb d_Ma_forget_5 rfl (lv_at hl 0 rfl) ?_
  refine va_get (D := (dC, dI)) (ci := 2) (v := .ref m7) (C := R_Ma) (T := F_Ma) (N := 8) hx hb hts i_Ma hown hK hP 0 rfl rfl 6 (by decide) (hts _ mw_95) (fun _ h9 => h9) rfl d_Ma_forget_6 ?_
  refine lv_iconst (v := 0) hx hb d_Ma_forget_9 (by decide) ?_
  have hPc := hP.sub (ws' := [(m7, .inl (c7, 512, .inl (fun _ => 0)))]) [3] rfl
  have hKc := hK.sub (tys' := [(c7, .byte)]) [2] rfl
  have hDc := hD.sub (ws' := [(m7, .inl (c7, 512, .inl (fun _ => 0)))]) [3] (by decide) rfl
  have hFc := va_free (wc := [(m7, .inl (c7, 512, .inl (fun _ => 0)))]) hD hS hA [3] rfl
  refine va_callv (va_runS (As := [.ref m7, .int 0]) (rest := []) ⟨hx, hb, hml, hown, hts⟩ (Ar_fill_512 l dC dI H.size m7 c7 0) (zz_cS 2 hts mw_353 mw_355 mw_17 mw_354 rfl rfl hd_Ar_fill ⟨Nat.le_of_ble_eq_true rfl, Nat.le_of_ble_eq_true rfl⟩) ⟨zz_blind, fun U hU hW => ⟨rfl, zz_pre hPc hKc hDc hT U hU hW⟩⟩ rfl rfl hl.1 rfl (lv_room (Nat.le_of_ble_eq_true rfl)) d_Ma_forget_10 ⟨(Nat.le_of_ble_eq_true rfl), (Nat.le_of_ble_eq_true rfl)⟩) hS (fun q _ h => hFc q h) hFc (fun  u t H1 locs ht hvm hw hB hz1 hk1 hS => ?_)
  obtain ⟨hP1, hK1, hD1⟩ := hB
  rw [ht] at hP1
  have hK1 := va_K.moved hvm.symm hK1
  obtain ⟨hP, hD⟩ := va_join (wr := [(xm, .inr (2, [.ref m1, .ref m2, .ref m3, .ref m4, .ref m5, .ref m6, .ref m7, .int 0])), (m3, .inl (c3, 4096, .inl (fun _ => 0))), (m6, .inl (c6, 64, .inl (fun _ => 0)))]) (w1 := []) hP hD [3] [0, 1, 2] rfl rfl (by decide) (by decide) hk1 hFc hP1 hD1
  have hK := (hK.sub (tys' := [(c3, .byte), (c6, .boolean)]) [0, 1] rfl).app hK1
  generalize H1 = H at hP hS ⊢
  have hP : va_P (dC, dI) classes [(xm, .inr (2, [.ref m1, .ref m2, .ref m3, .ref m4, .ref m5, .ref m6, .ref m7, .int 0])), (m3, .inl (c3, 4096, .inl (fun _ => 0))), (m6, .inl (c6, 64, .inl (fun _ => 0)))] H := hP
  have hD : va_D A [(xm, .inr (2, [.ref m1, .ref m2, .ref m3, .ref m4, .ref m5, .ref m6, .ref m7, .int 0])), (m3, .inl (c3, 4096, .inl (fun _ => 0))), (m6, .inl (c6, 64, .inl (fun _ => 0)))] := hD
  have hK : va_K (dC, dI) classes [(c3, .byte), (c6, .boolean)] s := hK
  refine lv_aload_n hx hb d_Ma_forget_13 rfl (lv_at hl 0 rfl) ?_
  refine va_get (D := (dC, dI)) (ci := 2) (v := .ref m3) (C := R_Ma) (T := F_Ma) (N := 8) hx hb hts i_Ma hown hK hP 0 rfl rfl 2 (by decide) (hts _ mw_88) (fun _ h9 => h9) rfl d_Ma_forget_14 ?_
  refine lv_iconst (v := 0) hx hb d_Ma_forget_17 (by decide) ?_
  have hPc := hP.sub (ws' := [(m3, .inl (c3, 4096, .inl (fun _ => 0)))]) [1] rfl
  have hKc := hK.sub (tys' := [(c3, .byte)]) [0] rfl
  have hDc := hD.sub (ws' := [(m3, .inl (c3, 4096, .inl (fun _ => 0)))]) [1] (by decide) rfl
  have hFc := va_free (wc := [(m3, .inl (c3, 4096, .inl (fun _ => 0)))]) hD hS hA [1] rfl
  refine va_callv (va_runS (As := [.ref m3, .int 0]) (rest := []) ⟨hx, hb, hml, hown, hts⟩ (Ar_fill_4096 l dC dI H.size m3 c3 0) (zz_cS 2 hts mw_353 mw_355 mw_17 mw_354 rfl rfl hd_Ar_fill ⟨Nat.le_of_ble_eq_true rfl, Nat.le_of_ble_eq_true rfl⟩) ⟨zz_blind, fun U hU hW => ⟨rfl, zz_pre hPc hKc hDc hT U hU hW⟩⟩ rfl rfl hl.1 rfl (lv_room (Nat.le_of_ble_eq_true rfl)) d_Ma_forget_18 ⟨(Nat.le_of_ble_eq_true rfl), (Nat.le_of_ble_eq_true rfl)⟩) hS (fun q _ h => hFc q h) hFc (fun  u t H1 locs ht hvm hw hB hz1 hk1 hS => ?_)
  obtain ⟨hP1, hK1, hD1⟩ := hB
  rw [ht] at hP1
  have hK1 := va_K.moved hvm.symm hK1
  obtain ⟨hP, hD⟩ := va_join (wr := [(xm, .inr (2, [.ref m1, .ref m2, .ref m3, .ref m4, .ref m5, .ref m6, .ref m7, .int 0])), (m6, .inl (c6, 64, .inl (fun _ => 0)))]) (w1 := []) hP hD [1] [0, 2] rfl rfl (by decide) (by decide) hk1 hFc hP1 hD1
  have hK := (hK.sub (tys' := [(c6, .boolean)]) [1] rfl).app hK1
  generalize H1 = H at hP hS ⊢
  have hP : va_P (dC, dI) classes [(xm, .inr (2, [.ref m1, .ref m2, .ref m3, .ref m4, .ref m5, .ref m6, .ref m7, .int 0])), (m6, .inl (c6, 64, .inl (fun _ => 0)))] H := hP
  have hD : va_D A [(xm, .inr (2, [.ref m1, .ref m2, .ref m3, .ref m4, .ref m5, .ref m6, .ref m7, .int 0])), (m6, .inl (c6, 64, .inl (fun _ => 0)))] := hD
  have hK : va_K (dC, dI) classes [(c6, .boolean)] s := hK
  refine lv_iconst (v := 0) hx hb d_Ma_forget_21 (by decide) ?_
  refine lv_istore_n (lv' := [(1, .int 0), (0, .ref xm)]) hx hb d_Ma_forget_22 rfl hl (by decide) rfl (fun ls hl => ?_)
  exact Ma_forget_lp l dC dI xm m1 m2 m3 m4 m5 m6 m7 c3 c6 c7 hx hb hr hml hown hts hT hlocks hA (64 + 1) 0 (by omega) (by omega) (fun _ => 0) _ _ ls hK hP hD hS hl
set_option maxHeartbeats 4000000 in
set_option maxRecDepth 100000 in
theorem Ch_forget (l : Launch) (dC : Nat → ClassId) (dI : Nat → Nat → Nat) (sz : Nat) (xc : Nat) (xp : Nat) (xm : Nat) (xf : Nat) (k1 : Nat) (k2 : Nat) (k3 : Nat) (k4 : Nat) (k5 : Nat) (k6 : Nat) : Met l y_Ch_forget (.code y_Ch_forget prog_3_method_2_code 1 none :: zz_W) ({ frames := 0, cells := 0, slots := 0, locals := 0 }) (va_Pc [.ref xc] (zz_B dC dI [(xc, .inr (5, [.ref xp, .ref xm, .ref xf, .ref k1, .ref k2, .ref k3, .ref k4, .ref k5, .ref k6, .int 0, .int 0, .int 0, .int 0, .int (-1)]))] [] sz)) (va_Qv (fun (_ : Unit) => True) (fun (_ : Unit) (t : State) => va_P (dC, dI) classes [] t.heap ∧ va_K (dC, dI) classes [] t ∧ va_D (va_A [(xc, .inr (5, [.ref xp, .ref xm, .ref xf, .ref k1, .ref k2, .ref k3, .ref k4, .ref k5, .ref k6, .int 0, .int 0, .int 0, .int 0, .int (-1)]))] sz) []) (va_A [(xc, .inr (5, [.ref xp, .ref xm, .ref xf, .ref k1, .ref k2, .ref k3, .ref k4, .ref k5, .ref k6, .int 0, .int 0, .int 0, .int 0, .int (-1)]))] sz)) 0 0 (va_A [(xc, .inr (5, [.ref xp, .ref xm, .ref xf, .ref k1, .ref k2, .ref k3, .ref k4, .ref k5, .ref k6, .int 0, .int 0, .int 0, .int 0, .int (-1)]))] sz) := by
  refine Met.ofW (cc := prog_3_method_2_code) (maxL := 1) (ret := none) (by decide) rfl ?_
  intro p e s m args below meth c s₁ B hml hv
  obtain ⟨rfl, hsz, hP, hK, hD0, hT⟩ := hv
  have hx := B.exec
  have hb := B.bytes
  have hr := B.returns
  have hts0 := atoms_spec (ws := (.code y_Ch_forget prog_3_method_2_code 1 none :: zz_W)) B.pre
  have hts : ∀ w ∈ zz_W, w.before _ s = true := fun w h => hts0 w (List.mem_cons_of_mem _ h)
  have hown : s.vm.findClass R_Ch = some m.cls := findClass_of_methodNamed B.named
  have hlocks := B.notSynchronized
  subst hsz
  have hD := hD0.self (sz := s.heap.size)
  generalize hAe : va_A [(xc, .inr (5, [.ref xp, .ref xm, .ref xf, .ref k1, .ref k2, .ref k3, .ref k4, .ref k5, .ref k6, .int 0, .int 0, .int 0, .int 0, .int (-1)]))] s.heap.size = A at hD ⊢
  have hA : ∀ q : Nat, s.heap.size ≤ q → A q := fun q h => by rw [← hAe]; exact Or.inr h
  have hS : va_S A s.heap s.heap [] := va_S.rf
  have hl := lv_entry ([.ref xc]) (n := 1) (Nat.le_of_ble_eq_true rfl)
  rw [lg_entry_eq]
  generalize (lg_sl ([.ref xc]) ++ List.replicate (1 - (lg_sl ([.ref xc])).length) Slot.unset).toArray = ls at hl ⊢
  have hl : lv_has ls 1 [(0, .ref xc)] := hl
  refine lv_aload_n hx hb d_Ch_forget_0 rfl (lv_at hl 0 rfl) ?_
  refine lv_iconst (v := 0) hx hb d_Ch_forget_1 (by decide) ?_
  refine va_put (D := (dC, dI)) (ci := 5) (v := .int 0) (ty := .int) (C := R_Ch) (T := F_Ch) (N := 14) hx hb hts i_Ch t_Ch t_Ch_ok n_Ch hown hK hP hD hS 0 rfl rfl 11 (by decide) (hts _ mw_241) (fun _ h9 => h9) rfl (by decide +kernel) rfl rfl (Nat.le_of_ble_eq_true rfl) d_Ch_forget_2 (fun H locs hP hD hS => ?_)
  have hP : va_P (dC, dI) classes [(xc, .inr (5, [.ref xp, .ref xm, .ref xf, .ref k1, .ref k2, .ref k3, .ref k4, .ref k5, .ref k6, .int 0, .int 0, .int 0, .int 0, .int (-1)]))] H := hP
  have hD : va_D A [(xc, .inr (5, [.ref xp, .ref xm, .ref xf, .ref k1, .ref k2, .ref k3, .ref k4, .ref k5, .ref k6, .int 0, .int 0, .int 0, .int 0, .int (-1)]))] := hD
  refine lv_aload_n hx hb d_Ch_forget_5 rfl (lv_at hl 0 rfl) ?_
  refine lv_iconst (v := 0) hx hb d_Ch_forget_6 (by decide) ?_
  refine va_put (D := (dC, dI)) (ci := 5) (v := .int 0) (ty := .int) (C := R_Ch) (T := F_Ch) (N := 14) hx hb hts i_Ch t_Ch t_Ch_ok n_Ch hown hK hP hD hS 0 rfl rfl 12 (by decide) (hts _ mw_243) (fun _ h9 => h9) rfl (by decide +kernel) rfl rfl (Nat.le_of_ble_eq_true rfl) d_Ch_forget_7 (fun H locs hP hD hS => ?_)
  have hP : va_P (dC, dI) classes [(xc, .inr (5, [.ref xp, .ref xm, .ref xf, .ref k1, .ref k2, .ref k3, .ref k4, .ref k5, .ref k6, .int 0, .int 0, .int 0, .int 0, .int (-1)]))] H := hP
  have hD : va_D A [(xc, .inr (5, [.ref xp, .ref xm, .ref xf, .ref k1, .ref k2, .ref k3, .ref k4, .ref k5, .ref k6, .int 0, .int 0, .int 0, .int 0, .int (-1)]))] := hD
  refine lv_aload_n hx hb d_Ch_forget_10 rfl (lv_at hl 0 rfl) ?_
  refine lv_iconst (v := (-1)) hx hb d_Ch_forget_11 (by decide) ?_
  refine va_put (D := (dC, dI)) (ci := 5) (v := .int (-1)) (ty := .int) (C := R_Ch) (T := F_Ch) (N := 14) hx hb hts i_Ch t_Ch t_Ch_ok n_Ch hown hK hP hD hS 0 rfl rfl 13 (by decide) (hts _ mw_245) (fun _ h9 => h9) rfl (by decide +kernel) rfl rfl (Nat.le_of_ble_eq_true rfl) d_Ch_forget_12 (fun H locs hP hD hS => ?_)
  have hP : va_P (dC, dI) classes [(xc, .inr (5, [.ref xp, .ref xm, .ref xf, .ref k1, .ref k2, .ref k3, .ref k4, .ref k5, .ref k6, .int 0, .int 0, .int 0, .int 0, .int (-1)]))] H := hP
  have hD : va_D A [(xc, .inr (5, [.ref xp, .ref xm, .ref xf, .ref k1, .ref k2, .ref k3, .ref k4, .ref k5, .ref k6, .int 0, .int 0, .int 0, .int 0, .int (-1)]))] := hD
  have hP9 := hP.sub (ws' := []) [] rfl
  have hD9 := hD.sub (ws' := []) [] (by decide) rfl
  have hK9 := hK.sub (tys' := []) [] rfl
  refine W.widen (k := 0) (n := 0) (by omega) (by omega) ?_
  exact W.vret hx hb hr (fun t ht hW => ⟨⟨(), rfl, trivial, by rw [ht]; exact hP9, va_K.moved hW.alike hK9, hD9⟩, hS.F ht⟩) hS.2.2 d_Ch_forget_15
set_option maxHeartbeats 4000000 in
set_option maxRecDepth 100000 in
theorem Ru_forget (l : Launch) (dC : Nat → ClassId) (dI : Nat → Nat → Nat) (sz : Nat) (xr : Nat) (xp : Nat) (xf : Nat) (xe : Nat) (xm : Nat) (r1 : Nat) (r2 : Nat) (r3 : Nat) (e1 : Nat) (e2 : Nat) : Met l y_Ru_forget (.code y_Ru_forget prog_10_method_2_code 1 none :: zz_W) ({ frames := 0, cells := 0, slots := 0, locals := 0 }) (va_Pc [.ref xr] (zz_B dC dI [(xr, .inr (8, [.ref xp, .ref xf, .ref xe, .ref r1, .ref r2, .ref r3, .int 0, .int 0, .long 0, .int 0, .int 0, .int 0])), (xe, .inr (3, [.ref xm, .ref e1, .ref e2, .int 0, .int 0]))] [] sz)) (va_Qv (fun (_ : Unit) => True) (fun (_ : Unit) (t : State) => va_P (dC, dI) classes [] t.heap ∧ va_K (dC, dI) classes [] t ∧ va_D (va_A [(xr, .inr (8, [.ref xp, .ref xf, .ref xe, .ref r1, .ref r2, .ref r3, .int 0, .int 0, .long 0, .int 0, .int 0, .int 0])), (xe, .inr (3, [.ref xm, .ref e1, .ref e2, .int 0, .int 0]))] sz) []) (va_A [(xr, .inr (8, [.ref xp, .ref xf, .ref xe, .ref r1, .ref r2, .ref r3, .int 0, .int 0, .long 0, .int 0, .int 0, .int 0])), (xe, .inr (3, [.ref xm, .ref e1, .ref e2, .int 0, .int 0]))] sz)) 0 0 (va_A [(xr, .inr (8, [.ref xp, .ref xf, .ref xe, .ref r1, .ref r2, .ref r3, .int 0, .int 0, .long 0, .int 0, .int 0, .int 0])), (xe, .inr (3, [.ref xm, .ref e1, .ref e2, .int 0, .int 0]))] sz) := by
  refine Met.ofW (cc := prog_10_method_2_code) (maxL := 1) (ret := none) (by decide) rfl ?_
  intro p e s m args below meth c s₁ B hml hv
  obtain ⟨rfl, hsz, hP, hK, hD0, hT⟩ := hv
  have hx := B.exec
  have hb := B.bytes
  have hr := B.returns
  have hts0 := atoms_spec (ws := (.code y_Ru_forget prog_10_method_2_code 1 none :: zz_W)) B.pre
  have hts : ∀ w ∈ zz_W, w.before _ s = true := fun w h => hts0 w (List.mem_cons_of_mem _ h)
  have hown : s.vm.findClass R_Ru = some m.cls := findClass_of_methodNamed B.named
  have hlocks := B.notSynchronized
  subst hsz
  have hD := hD0.self (sz := s.heap.size)
  generalize hAe : va_A [(xr, .inr (8, [.ref xp, .ref xf, .ref xe, .ref r1, .ref r2, .ref r3, .int 0, .int 0, .long 0, .int 0, .int 0, .int 0])), (xe, .inr (3, [.ref xm, .ref e1, .ref e2, .int 0, .int 0]))] s.heap.size = A at hD ⊢
  have hA : ∀ q : Nat, s.heap.size ≤ q → A q := fun q h => by rw [← hAe]; exact Or.inr h
  have hS : va_S A s.heap s.heap [] := va_S.rf
  have hl := lv_entry ([.ref xr]) (n := 1) (Nat.le_of_ble_eq_true rfl)
  rw [lg_entry_eq]
  generalize (lg_sl ([.ref xr]) ++ List.replicate (1 - (lg_sl ([.ref xr])).length) Slot.unset).toArray = ls at hl ⊢
  have hl : lv_has ls 1 [(0, .ref xr)] := hl
  refine lv_aload_n hx hb d_Ru_forget_0 rfl (lv_at hl 0 rfl) ?_
  refine lv_iconst (v := 0) hx hb d_Ru_forget_1 (by decide) ?_
  refine va_put (D := (dC, dI)) (ci := 8) (v := .int 0) (ty := .int) (C := R_Ru) (T := F_Ru) (N := 12) hx hb hts i_Ru t_Ru t_Ru_ok n_Ru hown hK hP hD hS 0 rfl rfl 6 (by decide) (hts _ mw_289) (fun _ h9 => h9) rfl (by decide +kernel) rfl rfl (Nat.le_of_ble_eq_true rfl) d_Ru_forget_2 (fun H locs hP hD hS => ?_)
  have hP : va_P (dC, dI) classes [(xr, .inr (8, [.ref xp, .ref xf, .ref xe, .ref r1, .ref r2, .ref r3, .int 0, .int 0, .long 0, .int 0, .int 0, .int 0])), (xe, .inr (3, [.ref xm, .ref e1, .ref e2, .int 0, .int 0]))] H := hP
  have hD : va_D A [(xr, .inr (8, [.ref xp, .ref xf, .ref xe, .ref r1, .ref r2, .ref r3, .int 0, .int 0, .long 0, .int 0, .int 0, .int 0])), (xe, .inr (3, [.ref xm, .ref e1, .ref e2, .int 0, .int 0]))] := hD
  refine lv_aload_n hx hb d_Ru_forget_5 rfl (lv_at hl 0 rfl) ?_
  refine lv_iconst (v := 0) hx hb d_Ru_forget_6 (by decide) ?_
  refine va_put (D := (dC, dI)) (ci := 8) (v := .int 0) (ty := .int) (C := R_Ru) (T := F_Ru) (N := 12) hx hb hts i_Ru t_Ru t_Ru_ok n_Ru hown hK hP hD hS 0 rfl rfl 7 (by decide) (hts _ mw_291) (fun _ h9 => h9) rfl (by decide +kernel) rfl rfl (Nat.le_of_ble_eq_true rfl) d_Ru_forget_7 (fun H locs hP hD hS => ?_)
  have hP : va_P (dC, dI) classes [(xr, .inr (8, [.ref xp, .ref xf, .ref xe, .ref r1, .ref r2, .ref r3, .int 0, .int 0, .long 0, .int 0, .int 0, .int 0])), (xe, .inr (3, [.ref xm, .ref e1, .ref e2, .int 0, .int 0]))] H := hP
  have hD : va_D A [(xr, .inr (8, [.ref xp, .ref xf, .ref xe, .ref r1, .ref r2, .ref r3, .int 0, .int 0, .long 0, .int 0, .int 0, .int 0])), (xe, .inr (3, [.ref xm, .ref e1, .ref e2, .int 0, .int 0]))] := hD
  refine lv_aload_n hx hb d_Ru_forget_10 rfl (lv_at hl 0 rfl) ?_
  refine lv_iconst (v := 0) hx hb d_Ru_forget_11 (by decide) ?_
  refine va_put (D := (dC, dI)) (ci := 8) (v := .int 0) (ty := .int) (C := R_Ru) (T := F_Ru) (N := 12) hx hb hts i_Ru t_Ru t_Ru_ok n_Ru hown hK hP hD hS 0 rfl rfl 11 (by decide) (hts _ mw_297) (fun _ h9 => h9) rfl (by decide +kernel) rfl rfl (Nat.le_of_ble_eq_true rfl) d_Ru_forget_12 (fun H locs hP hD hS => ?_)
  have hP : va_P (dC, dI) classes [(xr, .inr (8, [.ref xp, .ref xf, .ref xe, .ref r1, .ref r2, .ref r3, .int 0, .int 0, .long 0, .int 0, .int 0, .int 0])), (xe, .inr (3, [.ref xm, .ref e1, .ref e2, .int 0, .int 0]))] H := hP
  have hD : va_D A [(xr, .inr (8, [.ref xp, .ref xf, .ref xe, .ref r1, .ref r2, .ref r3, .int 0, .int 0, .long 0, .int 0, .int 0, .int 0])), (xe, .inr (3, [.ref xm, .ref e1, .ref e2, .int 0, .int 0]))] := hD
  refine lv_aload_n hx hb d_Ru_forget_15 rfl (lv_at hl 0 rfl) ?_
  refine va_get (D := (dC, dI)) (ci := 8) (v := .ref xe) (C := R_Ru) (T := F_Ru) (N := 12) hx hb hts i_Ru hown hK hP 0 rfl rfl 2 (by decide) (hts _ mw_284) (fun _ h9 => h9) rfl d_Ru_forget_16 ?_
  refine lv_iconst (v := 0) hx hb d_Ru_forget_19 (by decide) ?_
  refine va_put (D := (dC, dI)) (ci := 3) (v := .int 0) (ty := .int) (C := R_Me) (T := F_Me) (N := 5) hx hb hts i_Me t_Me t_Me_ok n_Me hown hK hP hD hS 1 rfl rfl 4 (by decide) (hts _ mw_133) (fun _ h9 => h9) rfl (by decide +kernel) rfl rfl (Nat.le_of_ble_eq_true rfl) d_Ru_forget_20 (fun H locs hP hD hS => ?_)
  have hP : va_P (dC, dI) classes [(xr, .inr (8, [.ref xp, .ref xf, .ref xe, .ref r1, .ref r2, .ref r3, .int 0, .int 0, .long 0, .int 0, .int 0, .int 0])), (xe, .inr (3, [.ref xm, .ref e1, .ref e2, .int 0, .int 0]))] H := hP
  have hD : va_D A [(xr, .inr (8, [.ref xp, .ref xf, .ref xe, .ref r1, .ref r2, .ref r3, .int 0, .int 0, .long 0, .int 0, .int 0, .int 0])), (xe, .inr (3, [.ref xm, .ref e1, .ref e2, .int 0, .int 0]))] := hD
  have hP9 := hP.sub (ws' := []) [] rfl
  have hD9 := hD.sub (ws' := []) [] (by decide) rfl
  have hK9 := hK.sub (tys' := []) [] rfl
  refine W.widen (k := 0) (n := 0) (by omega) (by omega) ?_
  exact W.vret hx hb hr (fun t ht hW => ⟨⟨(), rfl, trivial, by rw [ht]; exact hP9, va_K.moved hW.alike hK9, hD9⟩, hS.F ht⟩) hS.2.2 d_Ru_forget_23
set_option maxHeartbeats 4000000 in
set_option maxRecDepth 100000 in
theorem FG_clear (l : Launch) (dC : Nat → ClassId) (dI : Nat → Nat → Nat) (sz : Nat) (x0 : Nat) (xp : Nat) (xm : Nat) (xe : Nat) (xf : Nat) (xc : Nat) (xr : Nat) (p1 : Nat) (p2 : Nat) (p3 : Nat) (p4 : Nat) (p5 : Nat) (m1 : Nat) (m2 : Nat) (m3 : Nat) (m4 : Nat) (m5 : Nat) (m6 : Nat) (m7 : Nat) (k1 : Nat) (k2 : Nat) (k3 : Nat) (k4 : Nat) (k5 : Nat) (k6 : Nat) (r1 : Nat) (r2 : Nat) (r3 : Nat) (e1 : Nat) (e2 : Nat) (c3 : ClassId) (c6 : ClassId) (c7 : ClassId) : Met l y_FG_clear (.code y_FG_clear prog_1_method_5_code 1 none :: zz_W) ({ frames := 2, cells := 0, slots := 0, locals := 61 }) (va_Pc [.ref x0] (zz_B dC dI [(x0, .inr (0, [.ref xp, .ref xm, .ref xe, .ref xf, .ref xc, .ref xr, .int 0])), (xp, .inr (1, [.ref p1, .ref p2, .ref p3, .ref p4, .ref p5, .int 0])), (xm, .inr (2, [.ref m1, .ref m2, .ref m3, .ref m4, .ref m5, .ref m6, .ref m7, .int 0])), (m3, .inl (c3, 4096, .inl (fun _ => 0))), (m6, .inl (c6, 64, .inl (fun _ => 0))), (m7, .inl (c7, 512, .inl (fun _ => 0))), (xc, .inr (5, [.ref xp, .ref xm, .ref xf, .ref k1, .ref k2, .ref k3, .ref k4, .ref k5, .ref k6, .int 0, .int 0, .int 0, .int 0, .int (-1)])), (xr, .inr (8, [.ref xp, .ref xf, .ref xe, .ref r1, .ref r2, .ref r3, .int 0, .int 0, .long 0, .int 0, .int 0, .int 0])), (xe, .inr (3, [.ref xm, .ref e1, .ref e2, .int 0, .int 0]))] [(c3, .byte), (c6, .boolean), (c7, .byte)] sz)) (va_Qv (fun (_ : Unit) => True) (fun (_ : Unit) (t : State) => va_P (dC, dI) classes [] t.heap ∧ va_K (dC, dI) classes [] t ∧ va_D (va_A [(x0, .inr (0, [.ref xp, .ref xm, .ref xe, .ref xf, .ref xc, .ref xr, .int 0])), (xp, .inr (1, [.ref p1, .ref p2, .ref p3, .ref p4, .ref p5, .int 0])), (xm, .inr (2, [.ref m1, .ref m2, .ref m3, .ref m4, .ref m5, .ref m6, .ref m7, .int 0])), (m3, .inl (c3, 4096, .inl (fun _ => 0))), (m6, .inl (c6, 64, .inl (fun _ => 0))), (m7, .inl (c7, 512, .inl (fun _ => 0))), (xc, .inr (5, [.ref xp, .ref xm, .ref xf, .ref k1, .ref k2, .ref k3, .ref k4, .ref k5, .ref k6, .int 0, .int 0, .int 0, .int 0, .int (-1)])), (xr, .inr (8, [.ref xp, .ref xf, .ref xe, .ref r1, .ref r2, .ref r3, .int 0, .int 0, .long 0, .int 0, .int 0, .int 0])), (xe, .inr (3, [.ref xm, .ref e1, .ref e2, .int 0, .int 0]))] sz) []) (va_A [(x0, .inr (0, [.ref xp, .ref xm, .ref xe, .ref xf, .ref xc, .ref xr, .int 0])), (xp, .inr (1, [.ref p1, .ref p2, .ref p3, .ref p4, .ref p5, .int 0])), (xm, .inr (2, [.ref m1, .ref m2, .ref m3, .ref m4, .ref m5, .ref m6, .ref m7, .int 0])), (m3, .inl (c3, 4096, .inl (fun _ => 0))), (m6, .inl (c6, 64, .inl (fun _ => 0))), (m7, .inl (c7, 512, .inl (fun _ => 0))), (xc, .inr (5, [.ref xp, .ref xm, .ref xf, .ref k1, .ref k2, .ref k3, .ref k4, .ref k5, .ref k6, .int 0, .int 0, .int 0, .int 0, .int (-1)])), (xr, .inr (8, [.ref xp, .ref xf, .ref xe, .ref r1, .ref r2, .ref r3, .int 0, .int 0, .long 0, .int 0, .int 0, .int 0])), (xe, .inr (3, [.ref xm, .ref e1, .ref e2, .int 0, .int 0]))] sz)) 0 0 (va_A [(x0, .inr (0, [.ref xp, .ref xm, .ref xe, .ref xf, .ref xc, .ref xr, .int 0])), (xp, .inr (1, [.ref p1, .ref p2, .ref p3, .ref p4, .ref p5, .int 0])), (xm, .inr (2, [.ref m1, .ref m2, .ref m3, .ref m4, .ref m5, .ref m6, .ref m7, .int 0])), (m3, .inl (c3, 4096, .inl (fun _ => 0))), (m6, .inl (c6, 64, .inl (fun _ => 0))), (m7, .inl (c7, 512, .inl (fun _ => 0))), (xc, .inr (5, [.ref xp, .ref xm, .ref xf, .ref k1, .ref k2, .ref k3, .ref k4, .ref k5, .ref k6, .int 0, .int 0, .int 0, .int 0, .int (-1)])), (xr, .inr (8, [.ref xp, .ref xf, .ref xe, .ref r1, .ref r2, .ref r3, .int 0, .int 0, .long 0, .int 0, .int 0, .int 0])), (xe, .inr (3, [.ref xm, .ref e1, .ref e2, .int 0, .int 0]))] sz) := by
  refine Met.ofW (cc := prog_1_method_5_code) (maxL := 1) (ret := none) (by decide) rfl ?_
  intro p e s m args below meth c s₁ B hml hv
  obtain ⟨rfl, hsz, hP, hK, hD0, hT⟩ := hv
  have hx := B.exec
  have hb := B.bytes
  have hr := B.returns
  have hts0 := atoms_spec (ws := (.code y_FG_clear prog_1_method_5_code 1 none :: zz_W)) B.pre
  have hts : ∀ w ∈ zz_W, w.before _ s = true := fun w h => hts0 w (List.mem_cons_of_mem _ h)
  have hown : s.vm.findClass R_FG = some m.cls := findClass_of_methodNamed B.named
  have hlocks := B.notSynchronized
  subst hsz
  have hD := hD0.self (sz := s.heap.size)
  generalize hAe : va_A [(x0, .inr (0, [.ref xp, .ref xm, .ref xe, .ref xf, .ref xc, .ref xr, .int 0])), (xp, .inr (1, [.ref p1, .ref p2, .ref p3, .ref p4, .ref p5, .int 0])), (xm, .inr (2, [.ref m1, .ref m2, .ref m3, .ref m4, .ref m5, .ref m6, .ref m7, .int 0])), (m3, .inl (c3, 4096, .inl (fun _ => 0))), (m6, .inl (c6, 64, .inl (fun _ => 0))), (m7, .inl (c7, 512, .inl (fun _ => 0))), (xc, .inr (5, [.ref xp, .ref xm, .ref xf, .ref k1, .ref k2, .ref k3, .ref k4, .ref k5, .ref k6, .int 0, .int 0, .int 0, .int 0, .int (-1)])), (xr, .inr (8, [.ref xp, .ref xf, .ref xe, .ref r1, .ref r2, .ref r3, .int 0, .int 0, .long 0, .int 0, .int 0, .int 0])), (xe, .inr (3, [.ref xm, .ref e1, .ref e2, .int 0, .int 0]))] s.heap.size = A at hD ⊢
  have hA : ∀ q : Nat, s.heap.size ≤ q → A q := fun q h => by rw [← hAe]; exact Or.inr h
  have hS : va_S A s.heap s.heap [] := va_S.rf
  have hl := lv_entry ([.ref x0]) (n := 1) (Nat.le_of_ble_eq_true rfl)
  rw [lg_entry_eq]
  generalize (lg_sl ([.ref x0]) ++ List.replicate (1 - (lg_sl ([.ref x0])).length) Slot.unset).toArray = ls at hl ⊢
  have hl : lv_has ls 1 [(0, .ref x0)] := hl
  refine lv_aload_n hx hb d_FG_clear_0 rfl (lv_at hl 0 rfl) ?_
  refine va_get (D := (dC, dI)) (ci := 0) (v := .ref xp) (C := R_FG) (T := F_FG) (N := 7) hx hb hts i_FG hown hK hP 0 rfl rfl 0 (by decide) (hts _ mw_323) (fun _ h9 => h9) rfl d_FG_clear_1 ?_
  refine lv_iconst (v := 0) hx hb d_FG_clear_4 (by decide) ?_
  refine va_put (D := (dC, dI)) (ci := 1) (v := .int 0) (ty := .int) (C := R_Pr) (T := F_Pr) (N := 6) hx hb hts i_Pr t_Pr t_Pr_ok n_Pr hown hK hP hD hS 1 rfl rfl 5 (by decide) (hts _ mw_57) (fun _ h9 => h9) rfl (by decide +kernel) rfl rfl (Nat.le_of_ble_eq_true rfl) d_FG_clear_5 (fun H locs hP hD hS => ?_)
  have hP : va_P (dC, dI) classes [(x0, .inr (0, [.ref xp, .ref xm, .ref xe, .ref xf, .ref xc, .ref xr, .int 0])), (xp, .inr (1, [.ref p1, .ref p2, .ref p3, .ref p4, .ref p5, .int 0])), (xm, .inr (2, [.ref m1, .ref m2, .ref m3, .ref m4, .ref m5, .ref m6, .ref m7, .int 0])), (m3, .inl (c3, 4096, .inl (fun _ => 0))), (m6, .inl (c6, 64, .inl (fun _ => 0))), (m7, .inl (c7, 512, .inl (fun _ => 0))), (xc, .inr (5, [.ref xp, .ref xm, .ref xf, .ref k1, .ref k2, .ref k3, .ref k4, .ref k5, .ref k6, .int 0, .int 0, .int 0, .int 0, .int (-1)])), (xr, .inr (8, [.ref xp, .ref xf, .ref xe, .ref r1, .ref r2, .ref r3, .int 0, .int 0, .long 0, .int 0, .int 0, .int 0])), (xe, .inr (3, [.ref xm, .ref e1, .ref e2, .int 0, .int 0]))] H := hP
  have hD : va_D A [(x0, .inr (0, [.ref xp, .ref xm, .ref xe, .ref xf, .ref xc, .ref xr, .int 0])), (xp, .inr (1, [.ref p1, .ref p2, .ref p3, .ref p4, .ref p5, .int 0])), (xm, .inr (2, [.ref m1, .ref m2, .ref m3, .ref m4, .ref m5, .ref m6, .ref m7, .int 0])), (m3, .inl (c3, 4096, .inl (fun _ => 0))), (m6, .inl (c6, 64, .inl (fun _ => 0))), (m7, .inl (c7, 512, .inl (fun _ => 0))), (xc, .inr (5, [.ref xp, .ref xm, .ref xf, .ref k1, .ref k2, .ref k3, .ref k4, .ref k5, .ref k6, .int 0, .int 0, .int 0, .int 0, .int (-1)])), (xr, .inr (8, [.ref xp, .ref xf, .ref xe, .ref r1, .ref r2, .ref r3, .int 0, .int 0, .long 0, .int 0, .int 0, .int 0])), (xe, .inr (3, [.ref xm, .ref e1, .ref e2, .int 0, .int 0]))] := hD
  refine lv_aload_n hx hb d_FG_clear_8 rfl (lv_at hl 0 rfl) ?_
  refine va_get (D := (dC, dI)) (ci := 0) (v := .ref xm) (C := R_FG) (T := F_FG) (N := 7) hx hb hts i_FG hown hK hP 0 rfl rfl 1 (by decide) (hts _ mw_324) (fun _ h9 => h9) rfl d_FG_clear_9 ?_
  have hPc := hP.sub (ws' := [(xm, .inr (2, [.ref m1, .ref m2, .ref m3, .ref m4, .ref m5, .ref m6, .ref m7, .int 0])), (m3, .inl (c3, 4096, .inl (fun _ => 0))), (m6, .inl (c6, 64, .inl (fun _ => 0))), (m7, .inl (c7, 512, .inl (fun _ => 0)))]) [2, 3, 4, 5] rfl
  have hKc := hK.sub (tys' := [(c3, .byte), (c6, .boolean), (c7, .byte)]) [0, 1, 2] rfl
  have hDc := hD.sub (ws' := [(xm, .inr (2, [.ref m1, .ref m2, .ref m3, .ref m4, .ref m5, .ref m6, .ref m7, .int 0])), (m3, .inl (c3, 4096, .inl (fun _ => 0))), (m6, .inl (c6, 64, .inl (fun _ => 0))), (m7, .inl (c7, 512, .inl (fun _ => 0)))]) [2, 3, 4, 5] (by decide) rfl
  have hFc := va_free (wc := [(xm, .inr (2, [.ref m1, .ref m2, .ref m3, .ref m4, .ref m5, .ref m6, .ref m7, .int 0])), (m3, .inl (c3, 4096, .inl (fun _ => 0))), (m6, .inl (c6, 64, .inl (fun _ => 0))), (m7, .inl (c7, 512, .inl (fun _ => 0)))]) hD hS hA [2, 3, 4, 5] rfl
  refine va_callv (va_runV (As := []) (rest := []) ⟨hx, hb, hml, hown, hts⟩ (Ma_forget l dC dI H.size xm m1 m2 m3 m4 m5 m6 m7 c3 c6 c7) (zz_cV 0 hts mw_349 mw_352 mw_3 mw_350 mw_351 rfl rfl hd_Ma_forget ⟨Nat.le_of_ble_eq_true rfl, Nat.le_of_ble_eq_true rfl⟩) ⟨zz_blind, va_recv hKc hPc (ci := 2) (q0 := 0) rfl rfl, fun U hU hW => ⟨rfl, zz_pre hPc hKc hDc hT U hU hW⟩⟩ rfl rfl hl.1 rfl (lv_room (Nat.le_of_ble_eq_true rfl)) d_FG_clear_12 ⟨(Nat.le_of_ble_eq_true rfl), (Nat.le_of_ble_eq_true rfl)⟩) hS (fun q _ h => hFc q h) hFc (fun  u t H1 locs ht hvm hw hB hz1 hk1 hS => ?_)
  obtain ⟨hP1, hK1, hD1⟩ := hB
  rw [ht] at hP1
  have hK1 := va_K.moved hvm.symm hK1
  obtain ⟨hP, hD⟩ := va_join (wr := [(x0, .inr (0, [.ref xp, .ref xm, .ref xe, .ref xf, .ref xc, .ref xr, .int 0])), (xp, .inr (1, [.ref p1, .ref p2, .ref p3, .ref p4, .ref p5, .int 0])), (xc, .inr (5, [.ref xp, .ref xm, .ref xf, .ref k1, .ref k2, .ref k3, .ref k4, .ref k5, .ref k6, .int 0, .int 0, .int 0, .int 0, .int (-1)])), (xr, .inr (8, [.ref xp, .ref xf, .ref xe, .ref r1, .ref r2, .ref r3, .int 0, .int 0, .long 0, .int 0, .int 0, .int 0])), (xe, .inr (3, [.ref xm, .ref e1, .ref e2, .int 0, .int 0]))]) (w1 := []) hP hD [2, 3, 4, 5] [0, 1, 6, 7, 8] rfl rfl (by decide) (by decide) hk1 hFc hP1 hD1
  have hK := (hK.sub (tys' := []) [] rfl).app hK1
  generalize H1 = H at hP hS ⊢
  have hP : va_P (dC, dI) classes [(x0, .inr (0, [.ref xp, .ref xm, .ref xe, .ref xf, .ref xc, .ref xr, .int 0])), (xp, .inr (1, [.ref p1, .ref p2, .ref p3, .ref p4, .ref p5, .int 0])), (xc, .inr (5, [.ref xp, .ref xm, .ref xf, .ref k1, .ref k2, .ref k3, .ref k4, .ref k5, .ref k6, .int 0, .int 0, .int 0, .int 0, .int (-1)])), (xr, .inr (8, [.ref xp, .ref xf, .ref xe, .ref r1, .ref r2, .ref r3, .int 0, .int 0, .long 0, .int 0, .int 0, .int 0])), (xe, .inr (3, [.ref xm, .ref e1, .ref e2, .int 0, .int 0]))] H := hP
  have hD : va_D A [(x0, .inr (0, [.ref xp, .ref xm, .ref xe, .ref xf, .ref xc, .ref xr, .int 0])), (xp, .inr (1, [.ref p1, .ref p2, .ref p3, .ref p4, .ref p5, .int 0])), (xc, .inr (5, [.ref xp, .ref xm, .ref xf, .ref k1, .ref k2, .ref k3, .ref k4, .ref k5, .ref k6, .int 0, .int 0, .int 0, .int 0, .int (-1)])), (xr, .inr (8, [.ref xp, .ref xf, .ref xe, .ref r1, .ref r2, .ref r3, .int 0, .int 0, .long 0, .int 0, .int 0, .int 0])), (xe, .inr (3, [.ref xm, .ref e1, .ref e2, .int 0, .int 0]))] := hD
  have hK : va_K (dC, dI) classes [] s := hK
  refine lv_aload_n hx hb d_FG_clear_15 rfl (lv_at hl 0 rfl) ?_
  refine va_get (D := (dC, dI)) (ci := 0) (v := .ref xc) (C := R_FG) (T := F_FG) (N := 7) hx hb hts i_FG hown hK hP 0 rfl rfl 4 (by decide) (hts _ mw_327) (fun _ h9 => h9) rfl d_FG_clear_16 ?_
  have hPc := hP.sub (ws' := [(xc, .inr (5, [.ref xp, .ref xm, .ref xf, .ref k1, .ref k2, .ref k3, .ref k4, .ref k5, .ref k6, .int 0, .int 0, .int 0, .int 0, .int (-1)]))]) [2] rfl
  have hKc := hK.sub (tys' := []) [] rfl
  have hDc := hD.sub (ws' := [(xc, .inr (5, [.ref xp, .ref xm, .ref xf, .ref k1, .ref k2, .ref k3, .ref k4, .ref k5, .ref k6, .int 0, .int 0, .int 0, .int 0, .int (-1)]))]) [2] (by decide) rfl
  have hFc := va_free (wc := [(xc, .inr (5, [.ref xp, .ref xm, .ref xf, .ref k1, .ref k2, .ref k3, .ref k4, .ref k5, .ref k6, .int 0, .int 0, .int 0, .int 0, .int (-1)]))]) hD hS hA [2] rfl
  refine va_callv (va_runV (As := []) (rest := []) ⟨hx, hb, hml, hown, hts⟩ (Ch_forget l dC dI H.size xc xp xm xf k1 k2 k3 k4 k5 k6) (zz_cV 0 hts mw_356 mw_359 mw_6 mw_357 mw_358 rfl rfl hd_Ch_forget ⟨Nat.le_of_ble_eq_true rfl, Nat.le_of_ble_eq_true rfl⟩) ⟨zz_blind, va_recv hKc hPc (ci := 5) (q0 := 0) rfl rfl, fun U hU hW => ⟨rfl, zz_pre hPc hKc hDc hT U hU hW⟩⟩ rfl rfl hl.1 rfl (lv_room (Nat.le_of_ble_eq_true rfl)) d_FG_clear_19 ⟨(Nat.le_of_ble_eq_true rfl), (Nat.le_of_ble_eq_true rfl)⟩) hS (fun q _ h => hFc q h) hFc (fun  u t H1 locs ht hvm hw hB hz1 hk1 hS => ?_)
  obtain ⟨hP1, hK1, hD1⟩ := hB
  rw [ht] at hP1
  have hK1 := va_K.moved hvm.symm hK1
  obtain ⟨hP, hD⟩ := va_join (wr := [(x0, .inr (0, [.ref xp, .ref xm, .ref xe, .ref xf, .ref xc, .ref xr, .int 0])), (xp, .inr (1, [.ref p1, .ref p2, .ref p3, .ref p4, .ref p5, .int 0])), (xr, .inr (8, [.ref xp, .ref xf, .ref xe, .ref r1, .ref r2, .ref r3, .int 0, .int 0, .long 0, .int 0, .int 0, .int 0])), (xe, .inr (3, [.ref xm, .ref e1, .ref e2, .int 0, .int 0]))]) (w1 := []) hP hD [2] [0, 1, 3, 4] rfl rfl (by decide) (by decide) hk1 hFc hP1 hD1
  have hK := (hK.sub (tys' := []) [] rfl).app hK1
  generalize H1 = H at hP hS ⊢
  have hP : va_P (dC, dI) classes [(x0, .inr (0, [.ref xp, .ref xm, .ref xe, .ref xf, .ref xc, .ref xr, .int 0])), (xp, .inr (1, [.ref p1, .ref p2, .ref p3, .ref p4, .ref p5, .int 0])), (xr, .inr (8, [.ref xp, .ref xf, .ref xe, .ref r1, .ref r2, .ref r3, .int 0, .int 0, .long 0, .int 0, .int 0, .int 0])), (xe, .inr (3, [.ref xm, .ref e1, .ref e2, .int 0, .int 0]))] H := hP
  have hD : va_D A [(x0, .inr (0, [.ref xp, .ref xm, .ref xe, .ref xf, .ref xc, .ref xr, .int 0])), (xp, .inr (1, [.ref p1, .ref p2, .ref p3, .ref p4, .ref p5, .int 0])), (xr, .inr (8, [.ref xp, .ref xf, .ref xe, .ref r1, .ref r2, .ref r3, .int 0, .int 0, .long 0, .int 0, .int 0, .int 0])), (xe, .inr (3, [.ref xm, .ref e1, .ref e2, .int 0, .int 0]))] := hD
  have hK : va_K (dC, dI) classes [] s := hK
  refine lv_aload_n hx hb d_FG_clear_22 rfl (lv_at hl 0 rfl) ?_
  refine va_get (D := (dC, dI)) (ci := 0) (v := .ref xr) (C := R_FG) (T := F_FG) (N := 7) hx hb hts i_FG hown hK hP 0 rfl rfl 5 (by decide) (hts _ mw_328) (fun _ h9 => h9) rfl d_FG_clear_23 ?_
  have hPc := hP.sub (ws' := [(xr, .inr (8, [.ref xp, .ref xf, .ref xe, .ref r1, .ref r2, .ref r3, .int 0, .int 0, .long 0, .int 0, .int 0, .int 0])), (xe, .inr (3, [.ref xm, .ref e1, .ref e2, .int 0, .int 0]))]) [2, 3] rfl
  have hKc := hK.sub (tys' := []) [] rfl
  have hDc := hD.sub (ws' := [(xr, .inr (8, [.ref xp, .ref xf, .ref xe, .ref r1, .ref r2, .ref r3, .int 0, .int 0, .long 0, .int 0, .int 0, .int 0])), (xe, .inr (3, [.ref xm, .ref e1, .ref e2, .int 0, .int 0]))]) [2, 3] (by decide) rfl
  have hFc := va_free (wc := [(xr, .inr (8, [.ref xp, .ref xf, .ref xe, .ref r1, .ref r2, .ref r3, .int 0, .int 0, .long 0, .int 0, .int 0, .int 0])), (xe, .inr (3, [.ref xm, .ref e1, .ref e2, .int 0, .int 0]))]) hD hS hA [2, 3] rfl
  refine va_callv (va_runV (As := []) (rest := []) ⟨hx, hb, hml, hown, hts⟩ (Ru_forget l dC dI H.size xr xp xf xe xm r1 r2 r3 e1 e2) (zz_cV 0 hts mw_360 mw_363 mw_9 mw_361 mw_362 rfl rfl hd_Ru_forget ⟨Nat.le_of_ble_eq_true rfl, Nat.le_of_ble_eq_true rfl⟩) ⟨zz_blind, va_recv hKc hPc (ci := 8) (q0 := 0) rfl rfl, fun U hU hW => ⟨rfl, zz_pre hPc hKc hDc hT U hU hW⟩⟩ rfl rfl hl.1 rfl (lv_room (Nat.le_of_ble_eq_true rfl)) d_FG_clear_26 ⟨(Nat.le_of_ble_eq_true rfl), (Nat.le_of_ble_eq_true rfl)⟩) hS (fun q _ h => hFc q h) hFc (fun  u t H1 locs ht hvm hw hB hz1 hk1 hS => ?_)
  obtain ⟨hP1, hK1, hD1⟩ := hB
  rw [ht] at hP1
  have hK1 := va_K.moved hvm.symm hK1
  obtain ⟨hP, hD⟩ := va_join (wr := [(x0, .inr (0, [.ref xp, .ref xm, .ref xe, .ref xf, .ref xc, .ref xr, .int 0])), (xp, .inr (1, [.ref p1, .ref p2, .ref p3, .ref p4, .ref p5, .int 0]))]) (w1 := []) hP hD [2, 3] [0, 1] rfl rfl (by decide) (by decide) hk1 hFc hP1 hD1
  have hK := (hK.sub (tys' := []) [] rfl).app hK1
  generalize H1 = H at hP hS ⊢
  have hP : va_P (dC, dI) classes [(x0, .inr (0, [.ref xp, .ref xm, .ref xe, .ref xf, .ref xc, .ref xr, .int 0])), (xp, .inr (1, [.ref p1, .ref p2, .ref p3, .ref p4, .ref p5, .int 0]))] H := hP
  have hD : va_D A [(x0, .inr (0, [.ref xp, .ref xm, .ref xe, .ref xf, .ref xc, .ref xr, .int 0])), (xp, .inr (1, [.ref p1, .ref p2, .ref p3, .ref p4, .ref p5, .int 0]))] := hD
  have hK : va_K (dC, dI) classes [] s := hK
  refine lv_aload_n hx hb d_FG_clear_29 rfl (lv_at hl 0 rfl) ?_
  refine lv_iconst (v := 0) hx hb d_FG_clear_30 (by decide) ?_
  refine va_put (D := (dC, dI)) (ci := 0) (v := .int 0) (ty := .boolean) (C := R_FG) (T := F_FG) (N := 7) hx hb hts i_FG t_FG t_FG_ok n_FG hown hK hP hD hS 0 rfl rfl 6 (by decide) (hts _ mw_329) (fun _ h9 => h9) rfl (by decide +kernel) rfl rfl (Nat.le_of_ble_eq_true rfl) d_FG_clear_31 (fun H locs hP hD hS => ?_)
  have hP : va_P (dC, dI) classes [(x0, .inr (0, [.ref xp, .ref xm, .ref xe, .ref xf, .ref xc, .ref xr, .int 0])), (xp, .inr (1, [.ref p1, .ref p2, .ref p3, .ref p4, .ref p5, .int 0]))] H := hP
  have hD : va_D A [(x0, .inr (0, [.ref xp, .ref xm, .ref xe, .ref xf, .ref xc, .ref xr, .int 0])), (xp, .inr (1, [.ref p1, .ref p2, .ref p3, .ref p4, .ref p5, .int 0]))] := hD
  have hP9 := hP.sub (ws' := []) [] rfl
  have hD9 := hD.sub (ws' := []) [] (by decide) rfl
  have hK9 := hK.sub (tys' := []) [] rfl
  refine W.widen (k := 0) (n := 0) (by omega) (by omega) ?_
  exact W.vret hx hb hr (fun t ht hW => ⟨⟨(), rfl, trivial, by rw [ht]; exact hP9, va_K.moved hW.alike hK9, hD9⟩, hS.F ht⟩) hS.2.2 d_FG_clear_34
