set_option maxHeartbeats 4000000 in
set_option maxRecDepth 100000 in
theorem La_map_ok (l : Launch) (dC : Nat → ClassId) (dI : Nat → Nat → Nat) (sz : Nat) (x0 : Nat) (xp : Nat) (xm : Nat) (xe : Nat) (xf : Nat) (xc : Nat) (xr : Nat) (m1 : Nat) (m2 : Nat) (m3 : Nat) (m4 : Nat) (m5 : Nat) (m6 : Nat) (m7 : Nat) (c1 : ClassId) (c2 : ClassId) (c5 : ClassId) (p0 : Int32) (p1 : Int32) (p2 : Int32) (o : Nat) (co : ClassId) (h1 : ¬ p0 < 1) (h2 : ¬ 8 < p0) (h3 : ¬ p1 < 1) (h4 : ¬ 64 < p1) (h5 : ¬ p2 < 1) (h6 : ¬ 16 < p2) : Met l y_La_map (.codeWith y_La_map method_3_code 6 (some .int) [(0, 12, 15, 13), (0, 12, 19, 15)] :: zz_W) ({ frames := 2, cells := 0, slots := 0, locals := 46 }) (va_Pc [.ref x0, .int p0, .int p1, .int p2, .ref o] (zz_B dC dI [(x0, .inr (0, [.ref xp, .ref xm, .ref xe, .ref xf, .ref xc, .ref xr, .int 0])), (xm, .inr (2, [.ref m1, .ref m2, .ref m3, .ref m4, .ref m5, .ref m6, .ref m7, .int 0])), (m1, .inl (c1, 4, .inl (fun _ => 0))), (m2, .inl (c2, 4, .inl (fun _ => 0))), (m5, .inl (c5, 4, .inl (fun _ => 0))), (o, .inl (co, 1, .inr (.inl (fun _ => 0))))] [(c1, .int), (c2, .int), (c5, .int), (co, .long)] sz)) (va_Qi (fun (r : Int32) (_ : Unit) => r = 0) (fun (_ : Unit) (t : State) => va_P (dC, dI) classes [(o, .inl (co, 1, .inr (.inl (vp_updL (fun _ => 0) (0 : Int32).toNatClampNeg 0))))] t.heap ∧ va_K (dC, dI) classes [(co, .long)] t ∧ va_D (va_A [(x0, .inr (0, [.ref xp, .ref xm, .ref xe, .ref xf, .ref xc, .ref xr, .int 0])), (xm, .inr (2, [.ref m1, .ref m2, .ref m3, .ref m4, .ref m5, .ref m6, .ref m7, .int 0])), (m1, .inl (c1, 4, .inl (fun _ => 0))), (m2, .inl (c2, 4, .inl (fun _ => 0))), (m5, .inl (c5, 4, .inl (fun _ => 0))), (o, .inl (co, 1, .inr (.inl (fun _ => 0))))] sz) [(o, .inl (co, 1, .inr (.inl (vp_updL (fun _ => 0) (0 : Int32).toNatClampNeg 0))))]) (va_A [(x0, .inr (0, [.ref xp, .ref xm, .ref xe, .ref xf, .ref xc, .ref xr, .int 0])), (xm, .inr (2, [.ref m1, .ref m2, .ref m3, .ref m4, .ref m5, .ref m6, .ref m7, .int 0])), (m1, .inl (c1, 4, .inl (fun _ => 0))), (m2, .inl (c2, 4, .inl (fun _ => 0))), (m5, .inl (c5, 4, .inl (fun _ => 0))), (o, .inl (co, 1, .inr (.inl (fun _ => 0))))] sz)) 0 0 (va_A [(x0, .inr (0, [.ref xp, .ref xm, .ref xe, .ref xf, .ref xc, .ref xr, .int 0])), (xm, .inr (2, [.ref m1, .ref m2, .ref m3, .ref m4, .ref m5, .ref m6, .ref m7, .int 0])), (m1, .inl (c1, 4, .inl (fun _ => 0))), (m2, .inl (c2, 4, .inl (fun _ => 0))), (m5, .inl (c5, 4, .inl (fun _ => 0))), (o, .inl (co, 1, .inr (.inl (fun _ => 0))))] sz) := by
  refine th_ofWith (cc := method_3_code) (maxL := 6) (ret := (some .int)) (by decide) rfl ?_
  intro p e s m args below meth c s₁ B hml htab hv
  obtain ⟨rfl, hsz, hP, hK, hD0, hT⟩ := hv
  have hx := B.exec
  have hb := B.bytes
  have hr := B.returns
  have hts0 := atoms_spec (ws := (.codeWith y_La_map method_3_code 6 (some .int) [(0, 12, 15, 13), (0, 12, 19, 15)] :: zz_W)) B.pre
  have hts : ∀ w ∈ zz_W, w.before _ s = true := fun w h => hts0 w (List.mem_cons_of_mem _ h)
  have hown : s.vm.findClass R_La = some m.cls := findClass_of_methodNamed B.named
  have hlocks := B.notSynchronized
  subst hsz
  have hD := hD0.self (sz := s.heap.size)
  generalize hAe : va_A [(x0, .inr (0, [.ref xp, .ref xm, .ref xe, .ref xf, .ref xc, .ref xr, .int 0])), (xm, .inr (2, [.ref m1, .ref m2, .ref m3, .ref m4, .ref m5, .ref m6, .ref m7, .int 0])), (m1, .inl (c1, 4, .inl (fun _ => 0))), (m2, .inl (c2, 4, .inl (fun _ => 0))), (m5, .inl (c5, 4, .inl (fun _ => 0))), (o, .inl (co, 1, .inr (.inl (fun _ => 0))))] s.heap.size = A at hD ⊢
  have hA : ∀ q : Nat, s.heap.size ≤ q → A q := fun q h => by rw [← hAe]; exact Or.inr h
  have hS : va_S A s.heap s.heap [] := va_S.rf
  have hl := lv_entry ([.ref x0, .int p0, .int p1, .int p2, .ref o]) (n := 6) (Nat.le_of_ble_eq_true rfl)
  rw [lg_entry_eq]
  generalize (lg_sl ([.ref x0, .int p0, .int p1, .int p2, .ref o]) ++ List.replicate (6 - (lg_sl ([.ref x0, .int p0, .int p1, .int p2, .ref o])).length) Slot.unset).toArray = ls at hl ⊢
  have hl : lv_has ls 6 [(0, .ref x0), (1, .int p0), (2, .int p1), (3, .int p2), (4, .ref o)] := hl
  refine lv_aload hx hb d_La_map_0 (lv_at hl 4 rfl) ?_
  refine lv_iconst (v := 0) hx hb d_La_map_2 (by decide) ?_
  refine lv_aload_n hx hb d_La_map_3 rfl (lv_at hl 0 rfl) ?_
  refine lv_iload_n hx hb d_La_map_4 rfl (lv_at hl 1 rfl) ?_
  refine lv_iload_n hx hb d_La_map_5 rfl (lv_at hl 2 rfl) ?_
  refine lv_iload_n hx hb d_La_map_6 rfl (lv_at hl 3 rfl) ?_
  have hPc := hP.sub (ws' := [(x0, .inr (0, [.ref xp, .ref xm, .ref xe, .ref xf, .ref xc, .ref xr, .int 0])), (xm, .inr (2, [.ref m1, .ref m2, .ref m3, .ref m4, .ref m5, .ref m6, .ref m7, .int 0])), (m1, .inl (c1, 4, .inl (fun _ => 0))), (m2, .inl (c2, 4, .inl (fun _ => 0))), (m5, .inl (c5, 4, .inl (fun _ => 0)))]) [0, 1, 2, 3, 4] rfl
  have hKc := hK.sub (tys' := [(c1, .int), (c2, .int), (c5, .int)]) [0, 1, 2] rfl
  have hDc := hD.sub (ws' := [(x0, .inr (0, [.ref xp, .ref xm, .ref xe, .ref xf, .ref xc, .ref xr, .int 0])), (xm, .inr (2, [.ref m1, .ref m2, .ref m3, .ref m4, .ref m5, .ref m6, .ref m7, .int 0])), (m1, .inl (c1, 4, .inl (fun _ => 0))), (m2, .inl (c2, 4, .inl (fun _ => 0))), (m5, .inl (c5, 4, .inl (fun _ => 0)))]) [0, 1, 2, 3, 4] (by decide) rfl
  have hFc := va_free (wc := [(x0, .inr (0, [.ref xp, .ref xm, .ref xe, .ref xf, .ref xc, .ref xr, .int 0])), (xm, .inr (2, [.ref m1, .ref m2, .ref m3, .ref m4, .ref m5, .ref m6, .ref m7, .int 0])), (m1, .inl (c1, 4, .inl (fun _ => 0))), (m2, .inl (c2, 4, .inl (fun _ => 0))), (m5, .inl (c5, 4, .inl (fun _ => 0)))]) hD hS hA [0, 1, 2, 3, 4] rfl
  refine va_calli (va_runV (As := [.int p0, .int p1, .int p2]) (rest := [.int 0, .ref o]) ⟨hx, hb, hml, hown, hts⟩ (FG_map_ok l dC dI s.heap.size x0 xp xm xe xf xc xr m1 m2 m3 m4 m5 m6 m7 c1 c2 c5 p0 p1 p2 h1 h2 h3 h4 h5 h6) (zz_cV 3 hts mw_381 mw_384 mw_1 mw_382 mw_383 rfl rfl hd_FG_map ⟨Nat.le_of_ble_eq_true rfl, Nat.le_of_ble_eq_true rfl⟩) ⟨zz_blind, va_recv hKc hPc (ci := 0) (q0 := 0) rfl rfl, fun U hU hW => ⟨rfl, zz_pre hPc hKc hDc hT U hU hW⟩⟩ rfl rfl hl.1 rfl (lv_room (Nat.le_of_ble_eq_true rfl)) d_La_map_7 ⟨(Nat.le_of_ble_eq_true rfl), (Nat.le_of_ble_eq_true rfl)⟩) hS (fun q _ h => hFc q h) hFc (fun rr1 u t H1 locs ht hvm hw hB hz1 hk1 hS => ?_)
  obtain ⟨hP1, hK1, hD1⟩ := hB
  rw [ht] at hP1
  have hK1 := va_K.moved hvm.symm hK1
  obtain ⟨hP, hD⟩ := va_join (wr := [(o, .inl (co, 1, .inr (.inl (fun _ => 0))))]) (w1 := []) hP hD [0, 1, 2, 3, 4] [5] rfl rfl (by decide) (by decide) hk1 hFc hP1 hD1
  have hK := (hK.sub (tys' := [(co, .long)]) [3] rfl).app hK1
  generalize H1 = H at hP hS ⊢
  have hP : va_P (dC, dI) classes [(o, .inl (co, 1, .inr (.inl (fun _ => 0))))] H := hP
  have hD : va_D A [(o, .inl (co, 1, .inr (.inl (fun _ => 0))))] := hD
  have hK : va_K (dC, dI) classes [(co, .long)] s := hK
  obtain rfl := hw
  refine lv_i2l (v := 0) hx hb d_La_map_10 (by decide) ?_
  refine va_last hx hb hK hP hD hS 0 0 rfl rfl (by unfold vp_in; decide) d_La_map_11 (fun H locs hP hD hS => ?_)
  have hP : va_P (dC, dI) classes [(o, .inl (co, 1, .inr (.inl (vp_updL (fun _ => 0) (0 : Int32).toNatClampNeg 0))))] H := hP
  have hD : va_D A [(o, .inl (co, 1, .inr (.inl (vp_updL (fun _ => 0) (0 : Int32).toNatClampNeg 0))))] := hD
  refine lv_goto (tgt := 23) hx hb d_La_map_12 (by decide) ?_
  refine lv_iconst (v := 0) hx hb d_La_map_23 (by decide) ?_
  have hP9 := hP.sub (ws' := [(o, .inl (co, 1, .inr (.inl (vp_updL (fun _ => 0) (0 : Int32).toNatClampNeg 0))))]) [0] rfl
  have hD9 := hD.sub (ws' := [(o, .inl (co, 1, .inr (.inl (vp_updL (fun _ => 0) (0 : Int32).toNatClampNeg 0))))]) [0] (by decide) rfl
  have hK9 := hK.sub (tys' := [(co, .long)]) [0] rfl
  refine W.widen (k := 0) (n := 0) (by omega) (by omega) ?_
  exact W.iret (v := 0) hx hb hr (fun t ht hW => ⟨⟨0, (), rfl, rfl, by rw [ht]; exact hP9, va_K.moved hW.alike hK9, hD9⟩, hS.F ht⟩) hS.2.2 d_La_map_24
set_option maxHeartbeats 4000000 in
set_option maxRecDepth 100000 in
theorem La_map_no (l : Launch) (hfl : l.flags = Jvm.pinnedFlags ++ [Jvm.noTraceFlag]) (dC : Nat → ClassId) (dI : Nat → Nat → Nat) (sz : Nat) (x0 : Nat) (xp : Nat) (xm : Nat) (xe : Nat) (xf : Nat) (xc : Nat) (xr : Nat) (p0 : Int32) (p1 : Int32) (p2 : Int32) (o : Nat) (co : ClassId) (hn : ¬ (¬ p0 < 1 ∧ ¬ 8 < p0 ∧ ¬ p1 < 1 ∧ ¬ 64 < p1 ∧ ¬ p2 < 1 ∧ ¬ 16 < p2)) : Met l y_La_map (.codeWith y_La_map method_3_code 6 (some .int) [(0, 12, 15, 13), (0, 12, 19, 15)] :: zz_W) ({ frames := 7, cells := 1, slots := 6, locals := 105 }) (va_Pc [.ref x0, .int p0, .int p1, .int p2, .ref o] (zz_BS dC dI [(x0, .inr (0, [.ref xp, .ref xm, .ref xe, .ref xf, .ref xc, .ref xr, .int 0])), (o, .inl (co, 1, .inr (.inl (fun _ => 0))))] [(co, .long)] sz)) (va_Qi (fun (r : Int32) (_ : Unit) => r = 1) (fun (_ : Unit) (t : State) => va_P (dC, dI) classes [(o, .inl (co, 1, .inr (.inl (fun _ => 0))))] t.heap ∧ va_K (dC, dI) classes [(co, .long)] t ∧ va_D (va_A [(x0, .inr (0, [.ref xp, .ref xm, .ref xe, .ref xf, .ref xc, .ref xr, .int 0])), (o, .inl (co, 1, .inr (.inl (fun _ => 0))))] sz) [(o, .inl (co, 1, .inr (.inl (fun _ => 0))))]) (va_A [(x0, .inr (0, [.ref xp, .ref xm, .ref xe, .ref xf, .ref xc, .ref xr, .int 0])), (o, .inl (co, 1, .inr (.inl (fun _ => 0))))] sz)) 1 6 (va_A [(x0, .inr (0, [.ref xp, .ref xm, .ref xe, .ref xf, .ref xc, .ref xr, .int 0])), (o, .inl (co, 1, .inr (.inl (fun _ => 0))))] sz) := by
  refine th_ofWith (cc := method_3_code) (maxL := 6) (ret := (some .int)) (by decide) rfl ?_
  intro p e s m args below meth c s₁ B hml htab hv
  obtain ⟨rfl, ⟨hsz, hP, hK, hD0, hT⟩, hZ⟩ := hv
  have hx := B.exec
  have hb := B.bytes
  have hr := B.returns
  have hts0 := atoms_spec (ws := (.codeWith y_La_map method_3_code 6 (some .int) [(0, 12, 15, 13), (0, 12, 19, 15)] :: zz_W)) B.pre
  have hts : ∀ w ∈ zz_W, w.before _ s = true := fun w h => hts0 w (List.mem_cons_of_mem _ h)
  have hown : s.vm.findClass R_La = some m.cls := findClass_of_methodNamed B.named
  have hlocks := B.notSynchronized
  subst hsz
  have hD := hD0.self (sz := s.heap.size)
  generalize hAe : va_A [(x0, .inr (0, [.ref xp, .ref xm, .ref xe, .ref xf, .ref xc, .ref xr, .int 0])), (o, .inl (co, 1, .inr (.inl (fun _ => 0))))] s.heap.size = A at hD ⊢
  have hA : ∀ q : Nat, s.heap.size ≤ q → A q := fun q h => by rw [← hAe]; exact Or.inr h
  have hS : va_S A s.heap s.heap [] := va_S.rf
  have hl := lv_entry ([.ref x0, .int p0, .int p1, .int p2, .ref o]) (n := 6) (Nat.le_of_ble_eq_true rfl)
  rw [lg_entry_eq]
  generalize (lg_sl ([.ref x0, .int p0, .int p1, .int p2, .ref o]) ++ List.replicate (6 - (lg_sl ([.ref x0, .int p0, .int p1, .int p2, .ref o])).length) Slot.unset).toArray = ls at hl ⊢
  have hl : lv_has ls 6 [(0, .ref x0), (1, .int p0), (2, .int p1), (3, .int p2), (4, .ref o)] := hl
  refine lv_aload hx hb d_La_map_0 (lv_at hl 4 rfl) ?_
  refine lv_iconst (v := 0) hx hb d_La_map_2 (by decide) ?_
  refine lv_aload_n hx hb d_La_map_3 rfl (lv_at hl 0 rfl) ?_
  refine lv_iload_n hx hb d_La_map_4 rfl (lv_at hl 1 rfl) ?_
  refine lv_iload_n hx hb d_La_map_5 rfl (lv_at hl 2 rfl) ?_
  refine lv_iload_n hx hb d_La_map_6 rfl (lv_at hl 3 rfl) ?_
  have hPc := hP.sub (ws' := [(x0, .inr (0, [.ref xp, .ref xm, .ref xe, .ref xf, .ref xc, .ref xr, .int 0]))]) [0] rfl
  have hKc := hK.sub (tys' := []) [] rfl
  have hDc : va_D (fun _ => True) [(x0, .inr (0, [.ref xp, .ref xm, .ref xe, .ref xf, .ref xc, .ref xr, .int 0]))] := (hD.sub (ws' := [(x0, .inr (0, [.ref xp, .ref xm, .ref xe, .ref xf, .ref xc, .ref xr, .int 0]))]) [0] (by decide) rfl).weaken (fun _ _ _ _ => trivial)
  refine th_callV (E := E_IAE) (As := [.int p0, .int p1, .int p2]) (rest := [.int 0, .ref o]) (hpc := 15) ⟨hx, hb, hml, hown, hts⟩ (FG_map_no l hfl dC dI s.heap.size x0 xp xm xe xf xc xr p0 p1 p2 hn) (zz_cV 3 hts mw_381 mw_384 mw_1 mw_382 mw_383 rfl rfl hd_FG_map ⟨Nat.le_of_ble_eq_true rfl, Nat.le_of_ble_eq_true rfl⟩) ⟨zz_blindS, va_recv hKc hPc (ci := 0) (q0 := 0) rfl rfl, fun U hU hW => ⟨rfl, zz_preS hPc hKc hDc hT hZ (fun q hq => rfl) U hU hW⟩⟩ rfl hl.1 rfl (Nat.le_of_ble_eq_true rfl) d_La_map_7 ⟨(Nat.le_of_ble_eq_true rfl), (Nat.le_of_ble_eq_true rfl)⟩ (th_first htab (by decide) (by decide) rfl (hts _ mw_379) (va_Nw.use rfl (hT.1 _ mn_390))) (fun xq H1 hz0 hz1 hk1 => ?_)
  have hP := zz_keep2 hP hk1
  have hS := zz_Sg hS hz1 hk1
  generalize H1 = H at hP hS ⊢
  have hP : va_P (dC, dI) classes [(x0, .inr (0, [.ref xp, .ref xm, .ref xe, .ref xf, .ref xc, .ref xr, .int 0])), (o, .inl (co, 1, .inr (.inl (fun _ => 0))))] H := hP
  have hD : va_D A [(x0, .inr (0, [.ref xp, .ref xm, .ref xe, .ref xf, .ref xc, .ref xr, .int 0])), (o, .inl (co, 1, .inr (.inl (fun _ => 0))))] := hD
  refine W.widen (k := 1) (n := 6) (by omega) (by omega) ?_
  refine lv_astore (lv' := [(5, .ref xq), (0, .ref x0), (1, .int p0), (2, .int p1), (3, .int p2), (4, .ref o)]) hx hb d_La_map_15 hl (by decide) rfl (fun ls hl => ?_)
  refine lv_iconst (v := 1) hx hb d_La_map_17 (by decide) ?_
  have hP9 := hP.sub (ws' := [(o, .inl (co, 1, .inr (.inl (fun _ => 0))))]) [1] rfl
  have hD9 := hD.sub (ws' := [(o, .inl (co, 1, .inr (.inl (fun _ => 0))))]) [1] (by decide) rfl
  have hK9 := hK.sub (tys' := [(co, .long)]) [0] rfl
  refine W.widen (k := 1) (n := 6) (by omega) (by omega) ?_
  exact W.iret (v := 1) hx hb hr (fun t ht hW => ⟨⟨1, (), rfl, rfl, by rw [ht]; exact hP9, va_K.moved hW.alike hK9, hD9⟩, hS.F ht⟩) hS.2.2 d_La_map_18
set_option maxHeartbeats 4000000 in
set_option maxRecDepth 100000 in
theorem La_add (l : Launch) (dC : Nat → ClassId) (dI : Nat → Nat → Nat) (sz : Nat) (x0 : Nat) (xp : Nat) (xm : Nat) (xe : Nat) (xf : Nat) (xc : Nat) (xr : Nat) (p1 : Nat) (p2 : Nat) (p3 : Nat) (p4 : Nat) (p5 : Nat) (c1 : ClassId) (c2 : ClassId) (c3 : ClassId) (c4 : ClassId) (c5 : ClassId) (a0 : Int32) (a1 : Int32) (a2 : Int32) (a3 : Int32) (a4 : Int32) (o : Nat) (co : ClassId) : Met l y_La_add (.codeWith y_La_add method_4_code 8 (some .int) [(0, 16, 19, 15)] :: zz_W) ({ frames := 2, cells := 0, slots := 0, locals := 50 }) (va_Pc [.ref x0, .int a0, .int a1, .int a2, .int a3, .int a4, .ref o] (zz_B dC dI [(x0, .inr (0, [.ref xp, .ref xm, .ref xe, .ref xf, .ref xc, .ref xr, .int 0])), (xp, .inr (1, [.ref p1, .ref p2, .ref p3, .ref p4, .ref p5, .int 0])), (p1, .inl (c1, 200, .inl (fun _ => 0))), (p2, .inl (c2, 200, .inl (fun _ => 0))), (p3, .inl (c3, 200, .inl (fun _ => 0))), (p4, .inl (c4, 200, .inl (fun _ => 0))), (p5, .inl (c5, 200, .inl (fun _ => 0))), (o, .inl (co, 1, .inr (.inl (fun _ => 0))))] [(c1, .int), (c2, .int), (c3, .int), (c4, .int), (c5, .int), (co, .long)] sz)) (va_Qi (fun (r : Int32) (_ : Unit) => r = 0) (fun (_ : Unit) (t : State) => va_P (dC, dI) classes [(o, .inl (co, 1, .inr (.inl (vp_updL (fun _ => 0) (0 : Int32).toNatClampNeg 0))))] t.heap ∧ va_K (dC, dI) classes [(co, .long)] t ∧ va_D (va_A [(x0, .inr (0, [.ref xp, .ref xm, .ref xe, .ref xf, .ref xc, .ref xr, .int 0])), (xp, .inr (1, [.ref p1, .ref p2, .ref p3, .ref p4, .ref p5, .int 0])), (p1, .inl (c1, 200, .inl (fun _ => 0))), (p2, .inl (c2, 200, .inl (fun _ => 0))), (p3, .inl (c3, 200, .inl (fun _ => 0))), (p4, .inl (c4, 200, .inl (fun _ => 0))), (p5, .inl (c5, 200, .inl (fun _ => 0))), (o, .inl (co, 1, .inr (.inl (fun _ => 0))))] sz) [(o, .inl (co, 1, .inr (.inl (vp_updL (fun _ => 0) (0 : Int32).toNatClampNeg 0))))]) (va_A [(x0, .inr (0, [.ref xp, .ref xm, .ref xe, .ref xf, .ref xc, .ref xr, .int 0])), (xp, .inr (1, [.ref p1, .ref p2, .ref p3, .ref p4, .ref p5, .int 0])), (p1, .inl (c1, 200, .inl (fun _ => 0))), (p2, .inl (c2, 200, .inl (fun _ => 0))), (p3, .inl (c3, 200, .inl (fun _ => 0))), (p4, .inl (c4, 200, .inl (fun _ => 0))), (p5, .inl (c5, 200, .inl (fun _ => 0))), (o, .inl (co, 1, .inr (.inl (fun _ => 0))))] sz)) 0 0 (va_A [(x0, .inr (0, [.ref xp, .ref xm, .ref xe, .ref xf, .ref xc, .ref xr, .int 0])), (xp, .inr (1, [.ref p1, .ref p2, .ref p3, .ref p4, .ref p5, .int 0])), (p1, .inl (c1, 200, .inl (fun _ => 0))), (p2, .inl (c2, 200, .inl (fun _ => 0))), (p3, .inl (c3, 200, .inl (fun _ => 0))), (p4, .inl (c4, 200, .inl (fun _ => 0))), (p5, .inl (c5, 200, .inl (fun _ => 0))), (o, .inl (co, 1, .inr (.inl (fun _ => 0))))] sz) := by
  refine th_ofWith (cc := method_4_code) (maxL := 8) (ret := (some .int)) (by decide) rfl ?_
  intro p e s m args below meth c s₁ B hml htab hv
  obtain ⟨rfl, hsz, hP, hK, hD0, hT⟩ := hv
  have hx := B.exec
  have hb := B.bytes
  have hr := B.returns
  have hts0 := atoms_spec (ws := (.codeWith y_La_add method_4_code 8 (some .int) [(0, 16, 19, 15)] :: zz_W)) B.pre
  have hts : ∀ w ∈ zz_W, w.before _ s = true := fun w h => hts0 w (List.mem_cons_of_mem _ h)
  have hown : s.vm.findClass R_La = some m.cls := findClass_of_methodNamed B.named
  have hlocks := B.notSynchronized
  subst hsz
  have hD := hD0.self (sz := s.heap.size)
  generalize hAe : va_A [(x0, .inr (0, [.ref xp, .ref xm, .ref xe, .ref xf, .ref xc, .ref xr, .int 0])), (xp, .inr (1, [.ref p1, .ref p2, .ref p3, .ref p4, .ref p5, .int 0])), (p1, .inl (c1, 200, .inl (fun _ => 0))), (p2, .inl (c2, 200, .inl (fun _ => 0))), (p3, .inl (c3, 200, .inl (fun _ => 0))), (p4, .inl (c4, 200, .inl (fun _ => 0))), (p5, .inl (c5, 200, .inl (fun _ => 0))), (o, .inl (co, 1, .inr (.inl (fun _ => 0))))] s.heap.size = A at hD ⊢
  have hA : ∀ q : Nat, s.heap.size ≤ q → A q := fun q h => by rw [← hAe]; exact Or.inr h
  have hS : va_S A s.heap s.heap [] := va_S.rf
  have hl := lv_entry ([.ref x0, .int a0, .int a1, .int a2, .int a3, .int a4, .ref o]) (n := 8) (Nat.le_of_ble_eq_true rfl)
  rw [lg_entry_eq]
  generalize (lg_sl ([.ref x0, .int a0, .int a1, .int a2, .int a3, .int a4, .ref o]) ++ List.replicate (8 - (lg_sl ([.ref x0, .int a0, .int a1, .int a2, .int a3, .int a4, .ref o])).length) Slot.unset).toArray = ls at hl ⊢
  have hl : lv_has ls 8 [(0, .ref x0), (1, .int a0), (2, .int a1), (3, .int a2), (4, .int a3), (5, .int a4), (6, .ref o)] := hl
  refine lv_aload hx hb d_La_add_0 (lv_at hl 6 rfl) ?_
  refine lv_iconst (v := 0) hx hb d_La_add_2 (by decide) ?_
  refine lv_aload_n hx hb d_La_add_3 rfl (lv_at hl 0 rfl) ?_
  refine lv_iload_n hx hb d_La_add_4 rfl (lv_at hl 1 rfl) ?_
  refine lv_iload_n hx hb d_La_add_5 rfl (lv_at hl 2 rfl) ?_
  refine lv_iload_n hx hb d_La_add_6 rfl (lv_at hl 3 rfl) ?_
  refine lv_iload hx hb d_La_add_7 (lv_at hl 4 rfl) ?_
  refine lv_iload hx hb d_La_add_9 (lv_at hl 5 rfl) ?_
  have hPc := hP.sub (ws' := [(x0, .inr (0, [.ref xp, .ref xm, .ref xe, .ref xf, .ref xc, .ref xr, .int 0])), (xp, .inr (1, [.ref p1, .ref p2, .ref p3, .ref p4, .ref p5, .int 0])), (p1, .inl (c1, 200, .inl (fun _ => 0))), (p2, .inl (c2, 200, .inl (fun _ => 0))), (p3, .inl (c3, 200, .inl (fun _ => 0))), (p4, .inl (c4, 200, .inl (fun _ => 0))), (p5, .inl (c5, 200, .inl (fun _ => 0)))]) [0, 1, 2, 3, 4, 5, 6] rfl
  have hKc := hK.sub (tys' := [(c1, .int), (c2, .int), (c3, .int), (c4, .int), (c5, .int)]) [0, 1, 2, 3, 4] rfl
  have hDc := hD.sub (ws' := [(x0, .inr (0, [.ref xp, .ref xm, .ref xe, .ref xf, .ref xc, .ref xr, .int 0])), (xp, .inr (1, [.ref p1, .ref p2, .ref p3, .ref p4, .ref p5, .int 0])), (p1, .inl (c1, 200, .inl (fun _ => 0))), (p2, .inl (c2, 200, .inl (fun _ => 0))), (p3, .inl (c3, 200, .inl (fun _ => 0))), (p4, .inl (c4, 200, .inl (fun _ => 0))), (p5, .inl (c5, 200, .inl (fun _ => 0)))]) [0, 1, 2, 3, 4, 5, 6] (by decide) rfl
  have hFc := va_free (wc := [(x0, .inr (0, [.ref xp, .ref xm, .ref xe, .ref xf, .ref xc, .ref xr, .int 0])), (xp, .inr (1, [.ref p1, .ref p2, .ref p3, .ref p4, .ref p5, .int 0])), (p1, .inl (c1, 200, .inl (fun _ => 0))), (p2, .inl (c2, 200, .inl (fun _ => 0))), (p3, .inl (c3, 200, .inl (fun _ => 0))), (p4, .inl (c4, 200, .inl (fun _ => 0))), (p5, .inl (c5, 200, .inl (fun _ => 0)))]) hD hS hA [0, 1, 2, 3, 4, 5, 6] rfl
  refine va_calli (va_runV (As := [.int a0, .int a1, .int a2, .int a3, .int a4]) (rest := [.int 0, .ref o]) ⟨hx, hb, hml, hown, hts⟩ (FG_add l dC dI s.heap.size x0 xp xm xe xf xc xr p1 p2 p3 p4 p5 c1 c2 c3 c4 c5 a0 a1 a2 a3 a4) (zz_cV 5 hts mw_480 mw_483 mw_1 mw_481 mw_482 rfl rfl hd_FG_add ⟨Nat.le_of_ble_eq_true rfl, Nat.le_of_ble_eq_true rfl⟩) ⟨zz_blind, va_recv hKc hPc (ci := 0) (q0 := 0) rfl rfl, fun U hU hW => ⟨rfl, zz_pre hPc hKc hDc hT U hU hW⟩⟩ rfl rfl hl.1 rfl (lv_room (Nat.le_of_ble_eq_true rfl)) d_La_add_11 ⟨(Nat.le_of_ble_eq_true rfl), (Nat.le_of_ble_eq_true rfl)⟩) hS (fun q _ h => hFc q h) hFc (fun rr1 u t H1 locs ht hvm hw hB hz1 hk1 hS => ?_)
  obtain ⟨hP1, hK1, hD1⟩ := hB
  rw [ht] at hP1
  have hK1 := va_K.moved hvm.symm hK1
  obtain ⟨hP, hD⟩ := va_join (wr := [(o, .inl (co, 1, .inr (.inl (fun _ => 0))))]) (w1 := []) hP hD [0, 1, 2, 3, 4, 5, 6] [7] rfl rfl (by decide) (by decide) hk1 hFc hP1 hD1
  have hK := (hK.sub (tys' := [(co, .long)]) [5] rfl).app hK1
  generalize H1 = H at hP hS ⊢
  have hP : va_P (dC, dI) classes [(o, .inl (co, 1, .inr (.inl (fun _ => 0))))] H := hP
  have hD : va_D A [(o, .inl (co, 1, .inr (.inl (fun _ => 0))))] := hD
  have hK : va_K (dC, dI) classes [(co, .long)] s := hK
  obtain rfl := hw
  refine lv_i2l (v := 0) hx hb d_La_add_14 (by decide) ?_
  refine va_last hx hb hK hP hD hS 0 0 rfl rfl (by unfold vp_in; decide) d_La_add_15 (fun H locs hP hD hS => ?_)
  have hP : va_P (dC, dI) classes [(o, .inl (co, 1, .inr (.inl (vp_updL (fun _ => 0) (0 : Int32).toNatClampNeg 0))))] H := hP
  have hD : va_D A [(o, .inl (co, 1, .inr (.inl (vp_updL (fun _ => 0) (0 : Int32).toNatClampNeg 0))))] := hD
  refine lv_goto (tgt := 23) hx hb d_La_add_16 (by decide) ?_
  refine lv_iconst (v := 0) hx hb d_La_add_23 (by decide) ?_
  have hP9 := hP.sub (ws' := [(o, .inl (co, 1, .inr (.inl (vp_updL (fun _ => 0) (0 : Int32).toNatClampNeg 0))))]) [0] rfl
  have hD9 := hD.sub (ws' := [(o, .inl (co, 1, .inr (.inl (vp_updL (fun _ => 0) (0 : Int32).toNatClampNeg 0))))]) [0] (by decide) rfl
  have hK9 := hK.sub (tys' := [(co, .long)]) [0] rfl
  refine W.widen (k := 0) (n := 0) (by omega) (by omega) ?_
  exact W.iret (v := 0) hx hb hr (fun t ht hW => ⟨⟨0, (), rfl, rfl, by rw [ht]; exact hP9, va_K.moved hW.alike hK9, hD9⟩, hS.F ht⟩) hS.2.2 d_La_add_24
set_option maxHeartbeats 4000000 in
set_option maxRecDepth 100000 in
theorem La_check (l : Launch) (hfl : l.flags = Jvm.pinnedFlags ++ [Jvm.noTraceFlag]) (dC : Nat → ClassId) (dI : Nat → Nat → Nat) (sz : Nat) (x0 : Nat) (xp : Nat) (xm : Nat) (xe : Nat) (xf : Nat) (xc : Nat) (xr : Nat) (p1 : Nat) (p2 : Nat) (p3 : Nat) (p4 : Nat) (p5 : Nat) (o : Nat) (co : ClassId) : Met l y_La_check (.codeWith y_La_check method_5_code 3 (some .int) [(0, 8, 11, 15)] :: zz_W) ({ frames := 7, cells := 1, slots := 6, locals := 103 }) (va_Pc [.ref x0, .ref o] (zz_BS dC dI [(x0, .inr (0, [.ref xp, .ref xm, .ref xe, .ref xf, .ref xc, .ref xr, .int 0])), (xp, .inr (1, [.ref p1, .ref p2, .ref p3, .ref p4, .ref p5, .int 0])), (o, .inl (co, 1, .inr (.inl (fun _ => 0))))] [(co, .long)] sz)) (va_Qi (fun (r : Int32) (_ : Unit) => r = 1) (fun (_ : Unit) (t : State) => va_P (dC, dI) classes [(o, .inl (co, 1, .inr (.inl (fun _ => 0))))] t.heap ∧ va_K (dC, dI) classes [(co, .long)] t ∧ va_D (va_A [(x0, .inr (0, [.ref xp, .ref xm, .ref xe, .ref xf, .ref xc, .ref xr, .int 0])), (xp, .inr (1, [.ref p1, .ref p2, .ref p3, .ref p4, .ref p5, .int 0])), (o, .inl (co, 1, .inr (.inl (fun _ => 0))))] sz) [(o, .inl (co, 1, .inr (.inl (fun _ => 0))))]) (va_A [(x0, .inr (0, [.ref xp, .ref xm, .ref xe, .ref xf, .ref xc, .ref xr, .int 0])), (xp, .inr (1, [.ref p1, .ref p2, .ref p3, .ref p4, .ref p5, .int 0])), (o, .inl (co, 1, .inr (.inl (fun _ => 0))))] sz)) 1 6 (va_A [(x0, .inr (0, [.ref xp, .ref xm, .ref xe, .ref xf, .ref xc, .ref xr, .int 0])), (xp, .inr (1, [.ref p1, .ref p2, .ref p3, .ref p4, .ref p5, .int 0])), (o, .inl (co, 1, .inr (.inl (fun _ => 0))))] sz) := by
  refine th_ofWith (cc := method_5_code) (maxL := 3) (ret := (some .int)) (by decide) rfl ?_
  intro p e s m args below meth c s₁ B hml htab hv
  obtain ⟨rfl, ⟨hsz, hP, hK, hD0, hT⟩, hZ⟩ := hv
  have hx := B.exec
  have hb := B.bytes
  have hr := B.returns
  have hts0 := atoms_spec (ws := (.codeWith y_La_check method_5_code 3 (some .int) [(0, 8, 11, 15)] :: zz_W)) B.pre
  have hts : ∀ w ∈ zz_W, w.before _ s = true := fun w h => hts0 w (List.mem_cons_of_mem _ h)
  have hown : s.vm.findClass R_La = some m.cls := findClass_of_methodNamed B.named
  have hlocks := B.notSynchronized
  subst hsz
  have hD := hD0.self (sz := s.heap.size)
  generalize hAe : va_A [(x0, .inr (0, [.ref xp, .ref xm, .ref xe, .ref xf, .ref xc, .ref xr, .int 0])), (xp, .inr (1, [.ref p1, .ref p2, .ref p3, .ref p4, .ref p5, .int 0])), (o, .inl (co, 1, .inr (.inl (fun _ => 0))))] s.heap.size = A at hD ⊢
  have hA : ∀ q : Nat, s.heap.size ≤ q → A q := fun q h => by rw [← hAe]; exact Or.inr h
  have hS : va_S A s.heap s.heap [] := va_S.rf
  have hl := lv_entry ([.ref x0, .ref o]) (n := 3) (Nat.le_of_ble_eq_true rfl)
  rw [lg_entry_eq]
  generalize (lg_sl ([.ref x0, .ref o]) ++ List.replicate (3 - (lg_sl ([.ref x0, .ref o])).length) Slot.unset).toArray = ls at hl ⊢
  have hl : lv_has ls 3 [(0, .ref x0), (1, .ref o)] := hl
  refine lv_aload_n hx hb d_La_check_0 rfl (lv_at hl 1 rfl) ?_
  refine lv_iconst (v := 0) hx hb d_La_check_1 (by decide) ?_
  refine lv_aload_n hx hb d_La_check_2 rfl (lv_at hl 0 rfl) ?_
  have hPc := hP.sub (ws' := [(x0, .inr (0, [.ref xp, .ref xm, .ref xe, .ref xf, .ref xc, .ref xr, .int 0])), (xp, .inr (1, [.ref p1, .ref p2, .ref p3, .ref p4, .ref p5, .int 0]))]) [0, 1] rfl
  have hKc := hK.sub (tys' := []) [] rfl
  have hDc : va_D (fun _ => True) [(x0, .inr (0, [.ref xp, .ref xm, .ref xe, .ref xf, .ref xc, .ref xr, .int 0])), (xp, .inr (1, [.ref p1, .ref p2, .ref p3, .ref p4, .ref p5, .int 0]))] := (hD.sub (ws' := [(x0, .inr (0, [.ref xp, .ref xm, .ref xe, .ref xf, .ref xc, .ref xr, .int 0])), (xp, .inr (1, [.ref p1, .ref p2, .ref p3, .ref p4, .ref p5, .int 0]))]) [0, 1] (by decide) rfl).weaken (fun _ _ _ _ => trivial)
  refine th_callV (E := E_ISE) (As := []) (rest := [.int 0, .ref o]) (hpc := 11) ⟨hx, hb, hml, hown, hts⟩ (FG_check l hfl dC dI s.heap.size x0 xp xm xe xf xc xr p1 p2 p3 p4 p5) (zz_cV 0 hts mw_492 mw_495 mw_1 mw_493 mw_494 rfl rfl hd_FG_check ⟨Nat.le_of_ble_eq_true rfl, Nat.le_of_ble_eq_true rfl⟩) ⟨zz_blindS, va_recv hKc hPc (ci := 0) (q0 := 0) rfl rfl, fun U hU hW => ⟨rfl, zz_preS hPc hKc hDc hT hZ (fun q hq => rfl) U hU hW⟩⟩ rfl hl.1 rfl (Nat.le_of_ble_eq_true rfl) d_La_check_3 ⟨(Nat.le_of_ble_eq_true rfl), (Nat.le_of_ble_eq_true rfl)⟩ (th_one htab (by decide) (by decide) rfl (hts _ mw_380) (va_Nw.use rfl (hT.1 _ mn_459))) (fun xq H1 hz0 hz1 hk1 => ?_)
  have hP := zz_keep2 hP hk1
  have hS := zz_Sg hS hz1 hk1
  generalize H1 = H at hP hS ⊢
  have hP : va_P (dC, dI) classes [(x0, .inr (0, [.ref xp, .ref xm, .ref xe, .ref xf, .ref xc, .ref xr, .int 0])), (xp, .inr (1, [.ref p1, .ref p2, .ref p3, .ref p4, .ref p5, .int 0])), (o, .inl (co, 1, .inr (.inl (fun _ => 0))))] H := hP
  have hD : va_D A [(x0, .inr (0, [.ref xp, .ref xm, .ref xe, .ref xf, .ref xc, .ref xr, .int 0])), (xp, .inr (1, [.ref p1, .ref p2, .ref p3, .ref p4, .ref p5, .int 0])), (o, .inl (co, 1, .inr (.inl (fun _ => 0))))] := hD
  refine W.widen (k := 1) (n := 6) (by omega) (by omega) ?_
  refine lv_astore_n (lv' := [(2, .ref xq), (0, .ref x0), (1, .ref o)]) hx hb d_La_check_11 rfl hl (by decide) rfl (fun ls hl => ?_)
  refine lv_iconst (v := 1) hx hb d_La_check_12 (by decide) ?_
  have hP9 := hP.sub (ws' := [(o, .inl (co, 1, .inr (.inl (fun _ => 0))))]) [2] rfl
  have hD9 := hD.sub (ws' := [(o, .inl (co, 1, .inr (.inl (fun _ => 0))))]) [2] (by decide) rfl
  have hK9 := hK.sub (tys' := [(co, .long)]) [0] rfl
  refine W.widen (k := 1) (n := 6) (by omega) (by omega) ?_
  exact W.iret (v := 1) hx hb hr (fun t ht hW => ⟨⟨1, (), rfl, rfl, by rw [ht]; exact hP9, va_K.moved hW.alike hK9, hD9⟩, hS.F ht⟩) hS.2.2 d_La_check_13
set_option maxHeartbeats 4000000 in
set_option maxRecDepth 100000 in
theorem La_feed (l : Launch) (dC : Nat → ClassId) (dI : Nat → Nat → Nat) (sz : Nat) (x0 : Nat) (xp : Nat) (xm : Nat) (xe : Nat) (xf : Nat) (xc : Nat) (xr : Nat) (e1 : Nat) (e2 : Nat) (c1 : ClassId) (a0 : Int32) (a1 : Int32) (a2 : Int32) (a3 : Int32) (a4 : Int32) (o : Nat) (co : ClassId) : Met l y_La_feed (.codeWith y_La_feed method_6_code 8 (some .int) [(0, 16, 19, 28)] :: zz_W) ({ frames := 2, cells := 0, slots := 0, locals := 47 }) (va_Pc [.ref x0, .int a0, .int a1, .int a2, .int a3, .int a4, .ref o] (zz_B dC dI [(x0, .inr (0, [.ref xp, .ref xm, .ref xe, .ref xf, .ref xc, .ref xr, .int 0])), (xe, .inr (3, [.ref xm, .ref e1, .ref e2, .int 0, .int 0])), (e1, .inl (c1, 400, .inl (fun _ => 0))), (o, .inl (co, 1, .inr (.inl (fun _ => 0))))] [(c1, .byte), (co, .long)] sz)) (va_Qi (fun (r : Int32) (_ : Unit) => r = 0) (fun (_ : Unit) (t : State) => va_P (dC, dI) classes [(o, .inl (co, 1, .inr (.inl (vp_updL (fun _ => 0) (0 : Int32).toNatClampNeg 20))))] t.heap ∧ va_K (dC, dI) classes [(co, .long)] t ∧ va_D (va_A [(x0, .inr (0, [.ref xp, .ref xm, .ref xe, .ref xf, .ref xc, .ref xr, .int 0])), (xe, .inr (3, [.ref xm, .ref e1, .ref e2, .int 0, .int 0])), (e1, .inl (c1, 400, .inl (fun _ => 0))), (o, .inl (co, 1, .inr (.inl (fun _ => 0))))] sz) [(o, .inl (co, 1, .inr (.inl (vp_updL (fun _ => 0) (0 : Int32).toNatClampNeg 20))))]) (va_A [(x0, .inr (0, [.ref xp, .ref xm, .ref xe, .ref xf, .ref xc, .ref xr, .int 0])), (xe, .inr (3, [.ref xm, .ref e1, .ref e2, .int 0, .int 0])), (e1, .inl (c1, 400, .inl (fun _ => 0))), (o, .inl (co, 1, .inr (.inl (fun _ => 0))))] sz)) 0 0 (va_A [(x0, .inr (0, [.ref xp, .ref xm, .ref xe, .ref xf, .ref xc, .ref xr, .int 0])), (xe, .inr (3, [.ref xm, .ref e1, .ref e2, .int 0, .int 0])), (e1, .inl (c1, 400, .inl (fun _ => 0))), (o, .inl (co, 1, .inr (.inl (fun _ => 0))))] sz) := by
  refine th_ofWith (cc := method_6_code) (maxL := 8) (ret := (some .int)) (by decide) rfl ?_
  intro p e s m args below meth c s₁ B hml htab hv
  obtain ⟨rfl, hsz, hP, hK, hD0, hT⟩ := hv
  have hx := B.exec
  have hb := B.bytes
  have hr := B.returns
  have hts0 := atoms_spec (ws := (.codeWith y_La_feed method_6_code 8 (some .int) [(0, 16, 19, 28)] :: zz_W)) B.pre
  have hts : ∀ w ∈ zz_W, w.before _ s = true := fun w h => hts0 w (List.mem_cons_of_mem _ h)
  have hown : s.vm.findClass R_La = some m.cls := findClass_of_methodNamed B.named
  have hlocks := B.notSynchronized
  subst hsz
  have hD := hD0.self (sz := s.heap.size)
  generalize hAe : va_A [(x0, .inr (0, [.ref xp, .ref xm, .ref xe, .ref xf, .ref xc, .ref xr, .int 0])), (xe, .inr (3, [.ref xm, .ref e1, .ref e2, .int 0, .int 0])), (e1, .inl (c1, 400, .inl (fun _ => 0))), (o, .inl (co, 1, .inr (.inl (fun _ => 0))))] s.heap.size = A at hD ⊢
  have hA : ∀ q : Nat, s.heap.size ≤ q → A q := fun q h => by rw [← hAe]; exact Or.inr h
  have hS : va_S A s.heap s.heap [] := va_S.rf
  have hl := lv_entry ([.ref x0, .int a0, .int a1, .int a2, .int a3, .int a4, .ref o]) (n := 8) (Nat.le_of_ble_eq_true rfl)
  rw [lg_entry_eq]
  generalize (lg_sl ([.ref x0, .int a0, .int a1, .int a2, .int a3, .int a4, .ref o]) ++ List.replicate (8 - (lg_sl ([.ref x0, .int a0, .int a1, .int a2, .int a3, .int a4, .ref o])).length) Slot.unset).toArray = ls at hl ⊢
  have hl : lv_has ls 8 [(0, .ref x0), (1, .int a0), (2, .int a1), (3, .int a2), (4, .int a3), (5, .int a4), (6, .ref o)] := hl
  refine lv_aload hx hb d_La_feed_0 (lv_at hl 6 rfl) ?_
  refine lv_iconst (v := 0) hx hb d_La_feed_2 (by decide) ?_
  refine lv_aload_n hx hb d_La_feed_3 rfl (lv_at hl 0 rfl) ?_
  refine lv_iload_n hx hb d_La_feed_4 rfl (lv_at hl 1 rfl) ?_
  refine lv_iload_n hx hb d_La_feed_5 rfl (lv_at hl 2 rfl) ?_
  refine lv_iload_n hx hb d_La_feed_6 rfl (lv_at hl 3 rfl) ?_
  refine lv_iload hx hb d_La_feed_7 (lv_at hl 4 rfl) ?_
  refine lv_iload hx hb d_La_feed_9 (lv_at hl 5 rfl) ?_
  have hPc := hP.sub (ws' := [(x0, .inr (0, [.ref xp, .ref xm, .ref xe, .ref xf, .ref xc, .ref xr, .int 0])), (xe, .inr (3, [.ref xm, .ref e1, .ref e2, .int 0, .int 0])), (e1, .inl (c1, 400, .inl (fun _ => 0)))]) [0, 1, 2] rfl
  have hKc := hK.sub (tys' := [(c1, .byte)]) [0] rfl
  have hDc := hD.sub (ws' := [(x0, .inr (0, [.ref xp, .ref xm, .ref xe, .ref xf, .ref xc, .ref xr, .int 0])), (xe, .inr (3, [.ref xm, .ref e1, .ref e2, .int 0, .int 0])), (e1, .inl (c1, 400, .inl (fun _ => 0)))]) [0, 1, 2] (by decide) rfl
  have hFc := va_free (wc := [(x0, .inr (0, [.ref xp, .ref xm, .ref xe, .ref xf, .ref xc, .ref xr, .int 0])), (xe, .inr (3, [.ref xm, .ref e1, .ref e2, .int 0, .int 0])), (e1, .inl (c1, 400, .inl (fun _ => 0)))]) hD hS hA [0, 1, 2] rfl
  refine va_calli (va_runV (As := [.int a0, .int a1, .int a2, .int a3, .int a4]) (rest := [.int 0, .ref o]) ⟨hx, hb, hml, hown, hts⟩ (FG_feed l dC dI s.heap.size x0 xp xm xe xf xc xr e1 e2 c1 a0 a1 a2 a3 a4) (zz_cV 5 hts mw_838 mw_841 mw_1 mw_839 mw_840 rfl rfl hd_FG_feed ⟨Nat.le_of_ble_eq_true rfl, Nat.le_of_ble_eq_true rfl⟩) ⟨zz_blind, va_recv hKc hPc (ci := 0) (q0 := 0) rfl rfl, fun U hU hW => ⟨rfl, zz_pre hPc hKc hDc hT U hU hW⟩⟩ rfl rfl hl.1 rfl (lv_room (Nat.le_of_ble_eq_true rfl)) d_La_feed_11 ⟨(Nat.le_of_ble_eq_true rfl), (Nat.le_of_ble_eq_true rfl)⟩) hS (fun q _ h => hFc q h) hFc (fun rr1 u t H1 locs ht hvm hw hB hz1 hk1 hS => ?_)
  obtain ⟨hP1, hK1, hD1⟩ := hB
  rw [ht] at hP1
  have hK1 := va_K.moved hvm.symm hK1
  obtain ⟨hP, hD⟩ := va_join (wr := [(o, .inl (co, 1, .inr (.inl (fun _ => 0))))]) (w1 := []) hP hD [0, 1, 2] [3] rfl rfl (by decide) (by decide) hk1 hFc hP1 hD1
  have hK := (hK.sub (tys' := [(co, .long)]) [1] rfl).app hK1
  generalize H1 = H at hP hS ⊢
  have hP : va_P (dC, dI) classes [(o, .inl (co, 1, .inr (.inl (fun _ => 0))))] H := hP
  have hD : va_D A [(o, .inl (co, 1, .inr (.inl (fun _ => 0))))] := hD
  have hK : va_K (dC, dI) classes [(co, .long)] s := hK
  obtain rfl := hw
  refine lv_i2l (v := 20) hx hb d_La_feed_14 (by decide) ?_
  refine va_last hx hb hK hP hD hS 0 0 rfl rfl (by unfold vp_in; decide) d_La_feed_15 (fun H locs hP hD hS => ?_)
  have hP : va_P (dC, dI) classes [(o, .inl (co, 1, .inr (.inl (vp_updL (fun _ => 0) (0 : Int32).toNatClampNeg 20))))] H := hP
  have hD : va_D A [(o, .inl (co, 1, .inr (.inl (vp_updL (fun _ => 0) (0 : Int32).toNatClampNeg 20))))] := hD
  refine lv_goto (tgt := 23) hx hb d_La_feed_16 (by decide) ?_
  refine lv_iconst (v := 0) hx hb d_La_feed_23 (by decide) ?_
  have hP9 := hP.sub (ws' := [(o, .inl (co, 1, .inr (.inl (vp_updL (fun _ => 0) (0 : Int32).toNatClampNeg 20))))]) [0] rfl
  have hD9 := hD.sub (ws' := [(o, .inl (co, 1, .inr (.inl (vp_updL (fun _ => 0) (0 : Int32).toNatClampNeg 20))))]) [0] (by decide) rfl
  have hK9 := hK.sub (tys' := [(co, .long)]) [0] rfl
  refine W.widen (k := 0) (n := 0) (by omega) (by omega) ?_
  exact W.iret (v := 0) hx hb hr (fun t ht hW => ⟨⟨0, (), rfl, rfl, by rw [ht]; exact hP9, va_K.moved hW.alike hK9, hD9⟩, hS.F ht⟩) hS.2.2 d_La_feed_24
set_option maxHeartbeats 4000000 in
set_option maxRecDepth 100000 in
theorem La_end_ok (l : Launch) (dC : Nat → ClassId) (dI : Nat → Nat → Nat) (sz : Nat) (x0 : Nat) (xp : Nat) (xm : Nat) (xe : Nat) (xf : Nat) (xc : Nat) (xr : Nat) (e1 : Nat) (e2 : Nat) (o : Nat) (co : ClassId) : Met l y_La_end (.codeWith y_La_end method_7_code 4 (some .int) [(0, 9, 12, 13)] :: zz_W) ({ frames := 2, cells := 0, slots := 0, locals := 43 }) (va_Pc [.ref x0, .int 0, .ref o] (zz_B dC dI [(x0, .inr (0, [.ref xp, .ref xm, .ref xe, .ref xf, .ref xc, .ref xr, .int 0])), (xe, .inr (3, [.ref xm, .ref e1, .ref e2, .int 0, .int 0])), (o, .inl (co, 1, .inr (.inl (fun _ => 0))))] [(co, .long)] sz)) (va_Qi (fun (r : Int32) (_ : Unit) => r = 0) (fun (_ : Unit) (t : State) => va_P (dC, dI) classes [(o, .inl (co, 1, .inr (.inl (vp_updL (fun _ => 0) (0 : Int32).toNatClampNeg 0))))] t.heap ∧ va_K (dC, dI) classes [(co, .long)] t ∧ va_D (va_A [(x0, .inr (0, [.ref xp, .ref xm, .ref xe, .ref xf, .ref xc, .ref xr, .int 0])), (xe, .inr (3, [.ref xm, .ref e1, .ref e2, .int 0, .int 0])), (o, .inl (co, 1, .inr (.inl (fun _ => 0))))] sz) [(o, .inl (co, 1, .inr (.inl (vp_updL (fun _ => 0) (0 : Int32).toNatClampNeg 0))))]) (va_A [(x0, .inr (0, [.ref xp, .ref xm, .ref xe, .ref xf, .ref xc, .ref xr, .int 0])), (xe, .inr (3, [.ref xm, .ref e1, .ref e2, .int 0, .int 0])), (o, .inl (co, 1, .inr (.inl (fun _ => 0))))] sz)) 0 0 (va_A [(x0, .inr (0, [.ref xp, .ref xm, .ref xe, .ref xf, .ref xc, .ref xr, .int 0])), (xe, .inr (3, [.ref xm, .ref e1, .ref e2, .int 0, .int 0])), (o, .inl (co, 1, .inr (.inl (fun _ => 0))))] sz) := by
  refine th_ofWith (cc := method_7_code) (maxL := 4) (ret := (some .int)) (by decide) rfl ?_
  intro p e s m args below meth c s₁ B hml htab hv
  obtain ⟨rfl, hsz, hP, hK, hD0, hT⟩ := hv
  have hx := B.exec
  have hb := B.bytes
  have hr := B.returns
  have hts0 := atoms_spec (ws := (.codeWith y_La_end method_7_code 4 (some .int) [(0, 9, 12, 13)] :: zz_W)) B.pre
  have hts : ∀ w ∈ zz_W, w.before _ s = true := fun w h => hts0 w (List.mem_cons_of_mem _ h)
  have hown : s.vm.findClass R_La = some m.cls := findClass_of_methodNamed B.named
  have hlocks := B.notSynchronized
  subst hsz
  have hD := hD0.self (sz := s.heap.size)
  generalize hAe : va_A [(x0, .inr (0, [.ref xp, .ref xm, .ref xe, .ref xf, .ref xc, .ref xr, .int 0])), (xe, .inr (3, [.ref xm, .ref e1, .ref e2, .int 0, .int 0])), (o, .inl (co, 1, .inr (.inl (fun _ => 0))))] s.heap.size = A at hD ⊢
  have hA : ∀ q : Nat, s.heap.size ≤ q → A q := fun q h => by rw [← hAe]; exact Or.inr h
  have hS : va_S A s.heap s.heap [] := va_S.rf
  have hl := lv_entry ([.ref x0, .int 0, .ref o]) (n := 4) (Nat.le_of_ble_eq_true rfl)
  rw [lg_entry_eq]
  generalize (lg_sl ([.ref x0, .int 0, .ref o]) ++ List.replicate (4 - (lg_sl ([.ref x0, .int 0, .ref o])).length) Slot.unset).toArray = ls at hl ⊢
  have hl : lv_has ls 4 [(0, .ref x0), (1, .int 0), (2, .ref o)] := hl
  refine lv_aload_n hx hb d_La_end_0 rfl (lv_at hl 2 rfl) ?_
  refine lv_iconst (v := 0) hx hb d_La_end_1 (by decide) ?_
  refine lv_aload_n hx hb d_La_end_2 rfl (lv_at hl 0 rfl) ?_
  refine lv_iload_n hx hb d_La_end_3 rfl (lv_at hl 1 rfl) ?_
  have hPc := hP.sub (ws' := [(x0, .inr (0, [.ref xp, .ref xm, .ref xe, .ref xf, .ref xc, .ref xr, .int 0])), (xe, .inr (3, [.ref xm, .ref e1, .ref e2, .int 0, .int 0]))]) [0, 1] rfl
  have hKc := hK.sub (tys' := []) [] rfl
  have hDc := hD.sub (ws' := [(x0, .inr (0, [.ref xp, .ref xm, .ref xe, .ref xf, .ref xc, .ref xr, .int 0])), (xe, .inr (3, [.ref xm, .ref e1, .ref e2, .int 0, .int 0]))]) [0, 1] (by decide) rfl
  have hFc := va_free (wc := [(x0, .inr (0, [.ref xp, .ref xm, .ref xe, .ref xf, .ref xc, .ref xr, .int 0])), (xe, .inr (3, [.ref xm, .ref e1, .ref e2, .int 0, .int 0]))]) hD hS hA [0, 1] rfl
  refine va_calli (va_runV (As := [.int 0]) (rest := [.int 0, .ref o]) ⟨hx, hb, hml, hown, hts⟩ (FG_end_ok l dC dI s.heap.size x0 xp xm xe xf xc xr e1 e2) (zz_cV 1 hts mw_865 mw_868 mw_1 mw_866 mw_867 rfl rfl hd_FG_end ⟨Nat.le_of_ble_eq_true rfl, Nat.le_of_ble_eq_true rfl⟩) ⟨zz_blind, va_recv hKc hPc (ci := 0) (q0 := 0) rfl rfl, fun U hU hW => ⟨rfl, zz_pre hPc hKc hDc hT U hU hW⟩⟩ rfl rfl hl.1 rfl (lv_room (Nat.le_of_ble_eq_true rfl)) d_La_end_4 ⟨(Nat.le_of_ble_eq_true rfl), (Nat.le_of_ble_eq_true rfl)⟩) hS (fun q _ h => hFc q h) hFc (fun rr1 u t H1 locs ht hvm hw hB hz1 hk1 hS => ?_)
  obtain ⟨hP1, hK1, hD1⟩ := hB
  rw [ht] at hP1
  have hK1 := va_K.moved hvm.symm hK1
  obtain ⟨hP, hD⟩ := va_join (wr := [(o, .inl (co, 1, .inr (.inl (fun _ => 0))))]) (w1 := []) hP hD [0, 1] [2] rfl rfl (by decide) (by decide) hk1 hFc hP1 hD1
  have hK := (hK.sub (tys' := [(co, .long)]) [0] rfl).app hK1
  generalize H1 = H at hP hS ⊢
  have hP : va_P (dC, dI) classes [(o, .inl (co, 1, .inr (.inl (fun _ => 0))))] H := hP
  have hD : va_D A [(o, .inl (co, 1, .inr (.inl (fun _ => 0))))] := hD
  have hK : va_K (dC, dI) classes [(co, .long)] s := hK
  obtain rfl := hw
  refine lv_i2l (v := 0) hx hb d_La_end_7 (by decide) ?_
  refine va_last hx hb hK hP hD hS 0 0 rfl rfl (by unfold vp_in; decide) d_La_end_8 (fun H locs hP hD hS => ?_)
  have hP : va_P (dC, dI) classes [(o, .inl (co, 1, .inr (.inl (vp_updL (fun _ => 0) (0 : Int32).toNatClampNeg 0))))] H := hP
  have hD : va_D A [(o, .inl (co, 1, .inr (.inl (vp_updL (fun _ => 0) (0 : Int32).toNatClampNeg 0))))] := hD
  refine lv_goto (tgt := 15) hx hb d_La_end_9 (by decide) ?_
  refine lv_iconst (v := 0) hx hb d_La_end_15 (by decide) ?_
  have hP9 := hP.sub (ws' := [(o, .inl (co, 1, .inr (.inl (vp_updL (fun _ => 0) (0 : Int32).toNatClampNeg 0))))]) [0] rfl
  have hD9 := hD.sub (ws' := [(o, .inl (co, 1, .inr (.inl (vp_updL (fun _ => 0) (0 : Int32).toNatClampNeg 0))))]) [0] (by decide) rfl
  have hK9 := hK.sub (tys' := [(co, .long)]) [0] rfl
  refine W.widen (k := 0) (n := 0) (by omega) (by omega) ?_
  exact W.iret (v := 0) hx hb hr (fun t ht hW => ⟨⟨0, (), rfl, rfl, by rw [ht]; exact hP9, va_K.moved hW.alike hK9, hD9⟩, hS.F ht⟩) hS.2.2 d_La_end_16
set_option maxHeartbeats 4000000 in
set_option maxRecDepth 100000 in
theorem La_end_no (l : Launch) (hfl : l.flags = Jvm.pinnedFlags ++ [Jvm.noTraceFlag]) (dC : Nat → ClassId) (dI : Nat → Nat → Nat) (sz : Nat) (x0 : Nat) (xp : Nat) (xm : Nat) (xe : Nat) (xf : Nat) (xc : Nat) (xr : Nat) (e1 : Nat) (e2 : Nat) (p0 : Int32) (o : Nat) (co : ClassId) (hn : ¬ p0 = 0) : Met l y_La_end (.codeWith y_La_end method_7_code 4 (some .int) [(0, 9, 12, 13)] :: zz_W) ({ frames := 7, cells := 1, slots := 6, locals := 103 }) (va_Pc [.ref x0, .int p0, .ref o] (zz_BS dC dI [(x0, .inr (0, [.ref xp, .ref xm, .ref xe, .ref xf, .ref xc, .ref xr, .int 0])), (xe, .inr (3, [.ref xm, .ref e1, .ref e2, .int 0, .int 0])), (o, .inl (co, 1, .inr (.inl (fun _ => 0))))] [(co, .long)] sz)) (va_Qi (fun (r : Int32) (_ : Unit) => r = 1) (fun (_ : Unit) (t : State) => va_P (dC, dI) classes [(o, .inl (co, 1, .inr (.inl (fun _ => 0))))] t.heap ∧ va_K (dC, dI) classes [(co, .long)] t ∧ va_D (va_A [(x0, .inr (0, [.ref xp, .ref xm, .ref xe, .ref xf, .ref xc, .ref xr, .int 0])), (xe, .inr (3, [.ref xm, .ref e1, .ref e2, .int 0, .int 0])), (o, .inl (co, 1, .inr (.inl (fun _ => 0))))] sz) [(o, .inl (co, 1, .inr (.inl (fun _ => 0))))]) (va_A [(x0, .inr (0, [.ref xp, .ref xm, .ref xe, .ref xf, .ref xc, .ref xr, .int 0])), (xe, .inr (3, [.ref xm, .ref e1, .ref e2, .int 0, .int 0])), (o, .inl (co, 1, .inr (.inl (fun _ => 0))))] sz)) 1 6 (va_A [(x0, .inr (0, [.ref xp, .ref xm, .ref xe, .ref xf, .ref xc, .ref xr, .int 0])), (xe, .inr (3, [.ref xm, .ref e1, .ref e2, .int 0, .int 0])), (o, .inl (co, 1, .inr (.inl (fun _ => 0))))] sz) := by
  refine th_ofWith (cc := method_7_code) (maxL := 4) (ret := (some .int)) (by decide) rfl ?_
  intro p e s m args below meth c s₁ B hml htab hv
  obtain ⟨rfl, ⟨hsz, hP, hK, hD0, hT⟩, hZ⟩ := hv
  have hx := B.exec
  have hb := B.bytes
  have hr := B.returns
  have hts0 := atoms_spec (ws := (.codeWith y_La_end method_7_code 4 (some .int) [(0, 9, 12, 13)] :: zz_W)) B.pre
  have hts : ∀ w ∈ zz_W, w.before _ s = true := fun w h => hts0 w (List.mem_cons_of_mem _ h)
  have hown : s.vm.findClass R_La = some m.cls := findClass_of_methodNamed B.named
  have hlocks := B.notSynchronized
  subst hsz
  have hD := hD0.self (sz := s.heap.size)
  generalize hAe : va_A [(x0, .inr (0, [.ref xp, .ref xm, .ref xe, .ref xf, .ref xc, .ref xr, .int 0])), (xe, .inr (3, [.ref xm, .ref e1, .ref e2, .int 0, .int 0])), (o, .inl (co, 1, .inr (.inl (fun _ => 0))))] s.heap.size = A at hD ⊢
  have hA : ∀ q : Nat, s.heap.size ≤ q → A q := fun q h => by rw [← hAe]; exact Or.inr h
  have hS : va_S A s.heap s.heap [] := va_S.rf
  have hl := lv_entry ([.ref x0, .int p0, .ref o]) (n := 4) (Nat.le_of_ble_eq_true rfl)
  rw [lg_entry_eq]
  generalize (lg_sl ([.ref x0, .int p0, .ref o]) ++ List.replicate (4 - (lg_sl ([.ref x0, .int p0, .ref o])).length) Slot.unset).toArray = ls at hl ⊢
  have hl : lv_has ls 4 [(0, .ref x0), (1, .int p0), (2, .ref o)] := hl
  refine lv_aload_n hx hb d_La_end_0 rfl (lv_at hl 2 rfl) ?_
  refine lv_iconst (v := 0) hx hb d_La_end_1 (by decide) ?_
  refine lv_aload_n hx hb d_La_end_2 rfl (lv_at hl 0 rfl) ?_
  refine lv_iload_n hx hb d_La_end_3 rfl (lv_at hl 1 rfl) ?_
  have hPc := hP.sub (ws' := [(x0, .inr (0, [.ref xp, .ref xm, .ref xe, .ref xf, .ref xc, .ref xr, .int 0])), (xe, .inr (3, [.ref xm, .ref e1, .ref e2, .int 0, .int 0]))]) [0, 1] rfl
  have hKc := hK.sub (tys' := []) [] rfl
  have hDc : va_D (fun _ => True) [(x0, .inr (0, [.ref xp, .ref xm, .ref xe, .ref xf, .ref xc, .ref xr, .int 0])), (xe, .inr (3, [.ref xm, .ref e1, .ref e2, .int 0, .int 0]))] := (hD.sub (ws' := [(x0, .inr (0, [.ref xp, .ref xm, .ref xe, .ref xf, .ref xc, .ref xr, .int 0])), (xe, .inr (3, [.ref xm, .ref e1, .ref e2, .int 0, .int 0]))]) [0, 1] (by decide) rfl).weaken (fun _ _ _ _ => trivial)
  refine th_callV (E := E_IAE) (As := [.int p0]) (rest := [.int 0, .ref o]) (hpc := 12) ⟨hx, hb, hml, hown, hts⟩ (FG_end_no l hfl dC dI s.heap.size x0 xp xm xe xf xc xr e1 e2 p0 hn) (zz_cV 1 hts mw_865 mw_868 mw_1 mw_866 mw_867 rfl rfl hd_FG_end ⟨Nat.le_of_ble_eq_true rfl, Nat.le_of_ble_eq_true rfl⟩) ⟨zz_blindS, va_recv hKc hPc (ci := 0) (q0 := 0) rfl rfl, fun U hU hW => ⟨rfl, zz_preS hPc hKc hDc hT hZ (fun q hq => rfl) U hU hW⟩⟩ rfl hl.1 rfl (Nat.le_of_ble_eq_true rfl) d_La_end_4 ⟨(Nat.le_of_ble_eq_true rfl), (Nat.le_of_ble_eq_true rfl)⟩ (th_one htab (by decide) (by decide) rfl (hts _ mw_379) (va_Nw.use rfl (hT.1 _ mn_390))) (fun xq H1 hz0 hz1 hk1 => ?_)
  have hP := zz_keep2 hP hk1
  have hS := zz_Sg hS hz1 hk1
  generalize H1 = H at hP hS ⊢
  have hP : va_P (dC, dI) classes [(x0, .inr (0, [.ref xp, .ref xm, .ref xe, .ref xf, .ref xc, .ref xr, .int 0])), (xe, .inr (3, [.ref xm, .ref e1, .ref e2, .int 0, .int 0])), (o, .inl (co, 1, .inr (.inl (fun _ => 0))))] H := hP
  have hD : va_D A [(x0, .inr (0, [.ref xp, .ref xm, .ref xe, .ref xf, .ref xc, .ref xr, .int 0])), (xe, .inr (3, [.ref xm, .ref e1, .ref e2, .int 0, .int 0])), (o, .inl (co, 1, .inr (.inl (fun _ => 0))))] := hD
  refine W.widen (k := 1) (n := 6) (by omega) (by omega) ?_
  refine lv_astore_n (lv' := [(3, .ref xq), (0, .ref x0), (1, .int p0), (2, .ref o)]) hx hb d_La_end_12 rfl hl (by decide) rfl (fun ls hl => ?_)
  refine lv_iconst (v := 1) hx hb d_La_end_13 (by decide) ?_
  have hP9 := hP.sub (ws' := [(o, .inl (co, 1, .inr (.inl (fun _ => 0))))]) [2] rfl
  have hD9 := hD.sub (ws' := [(o, .inl (co, 1, .inr (.inl (fun _ => 0))))]) [2] (by decide) rfl
  have hK9 := hK.sub (tys' := [(co, .long)]) [0] rfl
  refine W.widen (k := 1) (n := 6) (by omega) (by omega) ?_
  exact W.iret (v := 1) hx hb hr (fun t ht hW => ⟨⟨1, (), rfl, rfl, by rw [ht]; exact hP9, va_K.moved hW.alike hK9, hD9⟩, hS.F ht⟩) hS.2.2 d_La_end_14
set_option maxHeartbeats 4000000 in
set_option maxRecDepth 100000 in
theorem La_run (l : Launch) (hfl : l.flags = Jvm.pinnedFlags ++ [Jvm.noTraceFlag]) (dC : Nat → ClassId) (dI : Nat → Nat → Nat) (sz : Nat) (x0 : Nat) (xp : Nat) (xm : Nat) (xe : Nat) (xf : Nat) (xc : Nat) (xr : Nat) (o : Nat) (co : ClassId) : Met l y_La_run (.codeWith y_La_run method_8_code 3 (some .int) [(0, 7, 10, 15)] :: zz_W) ({ frames := 7, cells := 1, slots := 6, locals := 102 }) (va_Pc [.ref x0, .ref o] (zz_BS dC dI [(x0, .inr (0, [.ref xp, .ref xm, .ref xe, .ref xf, .ref xc, .ref xr, .int 0])), (o, .inl (co, 1, .inr (.inl (fun _ => 0))))] [(co, .long)] sz)) (va_Qi (fun (r : Int32) (_ : Unit) => r = 1) (fun (_ : Unit) (t : State) => va_P (dC, dI) classes [(o, .inl (co, 1, .inr (.inl (fun _ => 0))))] t.heap ∧ va_K (dC, dI) classes [(co, .long)] t ∧ va_D (va_A [(x0, .inr (0, [.ref xp, .ref xm, .ref xe, .ref xf, .ref xc, .ref xr, .int 0])), (o, .inl (co, 1, .inr (.inl (fun _ => 0))))] sz) [(o, .inl (co, 1, .inr (.inl (fun _ => 0))))]) (va_A [(x0, .inr (0, [.ref xp, .ref xm, .ref xe, .ref xf, .ref xc, .ref xr, .int 0])), (o, .inl (co, 1, .inr (.inl (fun _ => 0))))] sz)) 1 6 (va_A [(x0, .inr (0, [.ref xp, .ref xm, .ref xe, .ref xf, .ref xc, .ref xr, .int 0])), (o, .inl (co, 1, .inr (.inl (fun _ => 0))))] sz) := by
  refine th_ofWith (cc := method_8_code) (maxL := 3) (ret := (some .int)) (by decide) rfl ?_
  intro p e s m args below meth c s₁ B hml htab hv
  obtain ⟨rfl, ⟨hsz, hP, hK, hD0, hT⟩, hZ⟩ := hv
  have hx := B.exec
  have hb := B.bytes
  have hr := B.returns
  have hts0 := atoms_spec (ws := (.codeWith y_La_run method_8_code 3 (some .int) [(0, 7, 10, 15)] :: zz_W)) B.pre
  have hts : ∀ w ∈ zz_W, w.before _ s = true := fun w h => hts0 w (List.mem_cons_of_mem _ h)
  have hown : s.vm.findClass R_La = some m.cls := findClass_of_methodNamed B.named
  have hlocks := B.notSynchronized
  subst hsz
  have hD := hD0.self (sz := s.heap.size)
  generalize hAe : va_A [(x0, .inr (0, [.ref xp, .ref xm, .ref xe, .ref xf, .ref xc, .ref xr, .int 0])), (o, .inl (co, 1, .inr (.inl (fun _ => 0))))] s.heap.size = A at hD ⊢
  have hA : ∀ q : Nat, s.heap.size ≤ q → A q := fun q h => by rw [← hAe]; exact Or.inr h
  have hS : va_S A s.heap s.heap [] := va_S.rf
  have hl := lv_entry ([.ref x0, .ref o]) (n := 3) (Nat.le_of_ble_eq_true rfl)
  rw [lg_entry_eq]
  generalize (lg_sl ([.ref x0, .ref o]) ++ List.replicate (3 - (lg_sl ([.ref x0, .ref o])).length) Slot.unset).toArray = ls at hl ⊢
  have hl : lv_has ls 3 [(0, .ref x0), (1, .ref o)] := hl
  refine lv_aload_n hx hb d_La_run_0 rfl (lv_at hl 1 rfl) ?_
  refine lv_iconst (v := 0) hx hb d_La_run_1 (by decide) ?_
  refine lv_aload_n hx hb d_La_run_2 rfl (lv_at hl 0 rfl) ?_
  have hPc := hP.sub (ws' := [(x0, .inr (0, [.ref xp, .ref xm, .ref xe, .ref xf, .ref xc, .ref xr, .int 0]))]) [0] rfl
  have hKc := hK.sub (tys' := []) [] rfl
  have hDc : va_D (fun _ => True) [(x0, .inr (0, [.ref xp, .ref xm, .ref xe, .ref xf, .ref xc, .ref xr, .int 0]))] := (hD.sub (ws' := [(x0, .inr (0, [.ref xp, .ref xm, .ref xe, .ref xf, .ref xc, .ref xr, .int 0]))]) [0] (by decide) rfl).weaken (fun _ _ _ _ => trivial)
  refine th_callV (E := E_ISE) (As := []) (rest := [.int 0, .ref o]) (hpc := 10) ⟨hx, hb, hml, hown, hts⟩ (FG_run l hfl dC dI s.heap.size x0 xp xm xe xf xc xr) (zz_cV 0 hts mw_873 mw_876 mw_1 mw_874 mw_875 rfl rfl hd_FG_run ⟨Nat.le_of_ble_eq_true rfl, Nat.le_of_ble_eq_true rfl⟩) ⟨zz_blindS, va_recv hKc hPc (ci := 0) (q0 := 0) rfl rfl, fun U hU hW => ⟨rfl, zz_preS hPc hKc hDc hT hZ (fun q hq => rfl) U hU hW⟩⟩ rfl hl.1 rfl (Nat.le_of_ble_eq_true rfl) d_La_run_3 ⟨(Nat.le_of_ble_eq_true rfl), (Nat.le_of_ble_eq_true rfl)⟩ (th_one htab (by decide) (by decide) rfl (hts _ mw_380) (va_Nw.use rfl (hT.1 _ mn_459))) (fun xq H1 hz0 hz1 hk1 => ?_)
  have hP := zz_keep2 hP hk1
  have hS := zz_Sg hS hz1 hk1
  generalize H1 = H at hP hS ⊢
  have hP : va_P (dC, dI) classes [(x0, .inr (0, [.ref xp, .ref xm, .ref xe, .ref xf, .ref xc, .ref xr, .int 0])), (o, .inl (co, 1, .inr (.inl (fun _ => 0))))] H := hP
  have hD : va_D A [(x0, .inr (0, [.ref xp, .ref xm, .ref xe, .ref xf, .ref xc, .ref xr, .int 0])), (o, .inl (co, 1, .inr (.inl (fun _ => 0))))] := hD
  refine W.widen (k := 1) (n := 6) (by omega) (by omega) ?_
  refine lv_astore_n (lv' := [(2, .ref xq), (0, .ref x0), (1, .ref o)]) hx hb d_La_run_10 rfl hl (by decide) rfl (fun ls hl => ?_)
  refine lv_iconst (v := 1) hx hb d_La_run_11 (by decide) ?_
  have hP9 := hP.sub (ws' := [(o, .inl (co, 1, .inr (.inl (fun _ => 0))))]) [1] rfl
  have hD9 := hD.sub (ws' := [(o, .inl (co, 1, .inr (.inl (fun _ => 0))))]) [1] (by decide) rfl
  have hK9 := hK.sub (tys' := [(co, .long)]) [0] rfl
  refine W.widen (k := 1) (n := 6) (by omega) (by omega) ?_
  exact W.iret (v := 1) hx hb hr (fun t ht hW => ⟨⟨1, (), rfl, rfl, by rw [ht]; exact hP9, va_K.moved hW.alike hK9, hD9⟩, hS.F ht⟩) hS.2.2 d_La_run_12
set_option maxHeartbeats 4000000 in
set_option maxRecDepth 100000 in
theorem La_letter (l : Launch) (hfl : l.flags = Jvm.pinnedFlags ++ [Jvm.noTraceFlag]) (dC : Nat → ClassId) (dI : Nat → Nat → Nat) (sz : Nat) (x0 : Nat) (xp : Nat) (xm : Nat) (xe : Nat) (xf : Nat) (xc : Nat) (xr : Nat) (e1 : Nat) (e2 : Nat) (p0 : Int32) (o : Nat) (co : ClassId) : Met l y_La_letter (.codeWith y_La_letter method_9_code 4 (some .int) [(0, 9, 12, 41)] :: zz_W) ({ frames := 7, cells := 1, slots := 6, locals := 103 }) (va_Pc [.ref x0, .int p0, .ref o] (zz_BS dC dI [(x0, .inr (0, [.ref xp, .ref xm, .ref xe, .ref xf, .ref xc, .ref xr, .int 0])), (xe, .inr (3, [.ref xm, .ref e1, .ref e2, .int 0, .int 0])), (o, .inl (co, 1, .inr (.inl (fun _ => 0))))] [(co, .long)] sz)) (va_Qi (fun (r : Int32) (_ : Unit) => r = 1) (fun (_ : Unit) (t : State) => va_P (dC, dI) classes [(o, .inl (co, 1, .inr (.inl (fun _ => 0))))] t.heap ∧ va_K (dC, dI) classes [(co, .long)] t ∧ va_D (va_A [(x0, .inr (0, [.ref xp, .ref xm, .ref xe, .ref xf, .ref xc, .ref xr, .int 0])), (xe, .inr (3, [.ref xm, .ref e1, .ref e2, .int 0, .int 0])), (o, .inl (co, 1, .inr (.inl (fun _ => 0))))] sz) [(o, .inl (co, 1, .inr (.inl (fun _ => 0))))]) (va_A [(x0, .inr (0, [.ref xp, .ref xm, .ref xe, .ref xf, .ref xc, .ref xr, .int 0])), (xe, .inr (3, [.ref xm, .ref e1, .ref e2, .int 0, .int 0])), (o, .inl (co, 1, .inr (.inl (fun _ => 0))))] sz)) 1 6 (va_A [(x0, .inr (0, [.ref xp, .ref xm, .ref xe, .ref xf, .ref xc, .ref xr, .int 0])), (xe, .inr (3, [.ref xm, .ref e1, .ref e2, .int 0, .int 0])), (o, .inl (co, 1, .inr (.inl (fun _ => 0))))] sz) := by
  refine th_ofWith (cc := method_9_code) (maxL := 4) (ret := (some .int)) (by decide) rfl ?_
  intro p e s m args below meth c s₁ B hml htab hv
  obtain ⟨rfl, ⟨hsz, hP, hK, hD0, hT⟩, hZ⟩ := hv
  have hx := B.exec
  have hb := B.bytes
  have hr := B.returns
  have hts0 := atoms_spec (ws := (.codeWith y_La_letter method_9_code 4 (some .int) [(0, 9, 12, 41)] :: zz_W)) B.pre
  have hts : ∀ w ∈ zz_W, w.before _ s = true := fun w h => hts0 w (List.mem_cons_of_mem _ h)
  have hown : s.vm.findClass R_La = some m.cls := findClass_of_methodNamed B.named
  have hlocks := B.notSynchronized
  subst hsz
  have hD := hD0.self (sz := s.heap.size)
  generalize hAe : va_A [(x0, .inr (0, [.ref xp, .ref xm, .ref xe, .ref xf, .ref xc, .ref xr, .int 0])), (xe, .inr (3, [.ref xm, .ref e1, .ref e2, .int 0, .int 0])), (o, .inl (co, 1, .inr (.inl (fun _ => 0))))] s.heap.size = A at hD ⊢
  have hA : ∀ q : Nat, s.heap.size ≤ q → A q := fun q h => by rw [← hAe]; exact Or.inr h
  have hS : va_S A s.heap s.heap [] := va_S.rf
  have hl := lv_entry ([.ref x0, .int p0, .ref o]) (n := 4) (Nat.le_of_ble_eq_true rfl)
  rw [lg_entry_eq]
  generalize (lg_sl ([.ref x0, .int p0, .ref o]) ++ List.replicate (4 - (lg_sl ([.ref x0, .int p0, .ref o])).length) Slot.unset).toArray = ls at hl ⊢
  have hl : lv_has ls 4 [(0, .ref x0), (1, .int p0), (2, .ref o)] := hl
  refine lv_aload_n hx hb d_La_letter_0 rfl (lv_at hl 2 rfl) ?_
  refine lv_iconst (v := 0) hx hb d_La_letter_1 (by decide) ?_
  refine lv_aload_n hx hb d_La_letter_2 rfl (lv_at hl 0 rfl) ?_
  refine lv_iload_n hx hb d_La_letter_3 rfl (lv_at hl 1 rfl) ?_
  have hPc := hP.sub (ws' := [(x0, .inr (0, [.ref xp, .ref xm, .ref xe, .ref xf, .ref xc, .ref xr, .int 0])), (xe, .inr (3, [.ref xm, .ref e1, .ref e2, .int 0, .int 0]))]) [0, 1] rfl
  have hKc := hK.sub (tys' := []) [] rfl
  have hDc : va_D (fun _ => True) [(x0, .inr (0, [.ref xp, .ref xm, .ref xe, .ref xf, .ref xc, .ref xr, .int 0])), (xe, .inr (3, [.ref xm, .ref e1, .ref e2, .int 0, .int 0]))] := (hD.sub (ws' := [(x0, .inr (0, [.ref xp, .ref xm, .ref xe, .ref xf, .ref xc, .ref xr, .int 0])), (xe, .inr (3, [.ref xm, .ref e1, .ref e2, .int 0, .int 0]))]) [0, 1] (by decide) rfl).weaken (fun _ _ _ _ => trivial)
  refine th_callV (E := E_NSE) (As := [.int p0]) (rest := [.int 0, .ref o]) (hpc := 12) ⟨hx, hb, hml, hown, hts⟩ (FG_letter l hfl dC dI s.heap.size x0 xp xm xe xf xc xr e1 e2 p0) (zz_cV 1 hts mw_1032 mw_1035 mw_1 mw_1033 mw_1034 rfl rfl hd_FG_letter ⟨Nat.le_of_ble_eq_true rfl, Nat.le_of_ble_eq_true rfl⟩) ⟨zz_blindS, va_recv hKc hPc (ci := 0) (q0 := 0) rfl rfl, fun U hU hW => ⟨rfl, zz_preS hPc hKc hDc hT hZ (fun q hq => rfl) U hU hW⟩⟩ rfl hl.1 rfl (Nat.le_of_ble_eq_true rfl) d_La_letter_4 ⟨(Nat.le_of_ble_eq_true rfl), (Nat.le_of_ble_eq_true rfl)⟩ (th_one htab (by decide) (by decide) rfl (hts _ mw_1031) (va_Nw.use rfl (hT.1 _ mn_1038))) (fun xq H1 hz0 hz1 hk1 => ?_)
  have hP := zz_keep2 hP hk1
  have hS := zz_Sg hS hz1 hk1
  generalize H1 = H at hP hS ⊢
  have hP : va_P (dC, dI) classes [(x0, .inr (0, [.ref xp, .ref xm, .ref xe, .ref xf, .ref xc, .ref xr, .int 0])), (xe, .inr (3, [.ref xm, .ref e1, .ref e2, .int 0, .int 0])), (o, .inl (co, 1, .inr (.inl (fun _ => 0))))] H := hP
  have hD : va_D A [(x0, .inr (0, [.ref xp, .ref xm, .ref xe, .ref xf, .ref xc, .ref xr, .int 0])), (xe, .inr (3, [.ref xm, .ref e1, .ref e2, .int 0, .int 0])), (o, .inl (co, 1, .inr (.inl (fun _ => 0))))] := hD
  refine W.widen (k := 1) (n := 6) (by omega) (by omega) ?_
  refine lv_astore_n (lv' := [(3, .ref xq), (0, .ref x0), (1, .int p0), (2, .ref o)]) hx hb d_La_letter_12 rfl hl (by decide) rfl (fun ls hl => ?_)
  refine lv_iconst (v := 1) hx hb d_La_letter_13 (by decide) ?_
  have hP9 := hP.sub (ws' := [(o, .inl (co, 1, .inr (.inl (fun _ => 0))))]) [2] rfl
  have hD9 := hD.sub (ws' := [(o, .inl (co, 1, .inr (.inl (fun _ => 0))))]) [2] (by decide) rfl
  have hK9 := hK.sub (tys' := [(co, .long)]) [0] rfl
  refine W.widen (k := 1) (n := 6) (by omega) (by omega) ?_
  exact W.iret (v := 1) hx hb hr (fun t ht hW => ⟨⟨1, (), rfl, rfl, by rw [ht]; exact hP9, va_K.moved hW.alike hK9, hD9⟩, hS.F ht⟩) hS.2.2 d_La_letter_14
set_option maxHeartbeats 4000000 in
set_option maxRecDepth 100000 in
theorem La_place (l : Launch) (hfl : l.flags = Jvm.pinnedFlags ++ [Jvm.noTraceFlag]) (dC : Nat → ClassId) (dI : Nat → Nat → Nat) (sz : Nat) (x0 : Nat) (xp : Nat) (xm : Nat) (xe : Nat) (xf : Nat) (xc : Nat) (xr : Nat) (m1 : Nat) (m2 : Nat) (m3 : Nat) (m4 : Nat) (m5 : Nat) (m6 : Nat) (m7 : Nat) (p0 : Int32) (p1 : Int32) (p2 : Int32) (o : Nat) (co : ClassId) : Met l y_La_place (.codeWith y_La_place method_10_code 6 (some .int) [(0, 12, 15, 41)] :: zz_W) ({ frames := 7, cells := 1, slots := 6, locals := 105 }) (va_Pc [.ref x0, .int p0, .int p1, .int p2, .ref o] (zz_BS dC dI [(x0, .inr (0, [.ref xp, .ref xm, .ref xe, .ref xf, .ref xc, .ref xr, .int 0])), (xm, .inr (2, [.ref m1, .ref m2, .ref m3, .ref m4, .ref m5, .ref m6, .ref m7, .int 0])), (o, .inl (co, 1, .inr (.inl (fun _ => 0))))] [(co, .long)] sz)) (va_Qi (fun (r : Int32) (_ : Unit) => r = 1) (fun (_ : Unit) (t : State) => va_P (dC, dI) classes [(o, .inl (co, 1, .inr (.inl (fun _ => 0))))] t.heap ∧ va_K (dC, dI) classes [(co, .long)] t ∧ va_D (va_A [(x0, .inr (0, [.ref xp, .ref xm, .ref xe, .ref xf, .ref xc, .ref xr, .int 0])), (xm, .inr (2, [.ref m1, .ref m2, .ref m3, .ref m4, .ref m5, .ref m6, .ref m7, .int 0])), (o, .inl (co, 1, .inr (.inl (fun _ => 0))))] sz) [(o, .inl (co, 1, .inr (.inl (fun _ => 0))))]) (va_A [(x0, .inr (0, [.ref xp, .ref xm, .ref xe, .ref xf, .ref xc, .ref xr, .int 0])), (xm, .inr (2, [.ref m1, .ref m2, .ref m3, .ref m4, .ref m5, .ref m6, .ref m7, .int 0])), (o, .inl (co, 1, .inr (.inl (fun _ => 0))))] sz)) 1 6 (va_A [(x0, .inr (0, [.ref xp, .ref xm, .ref xe, .ref xf, .ref xc, .ref xr, .int 0])), (xm, .inr (2, [.ref m1, .ref m2, .ref m3, .ref m4, .ref m5, .ref m6, .ref m7, .int 0])), (o, .inl (co, 1, .inr (.inl (fun _ => 0))))] sz) := by
  refine th_ofWith (cc := method_10_code) (maxL := 6) (ret := (some .int)) (by decide) rfl ?_
  intro p e s m args below meth c s₁ B hml htab hv
  obtain ⟨rfl, ⟨hsz, hP, hK, hD0, hT⟩, hZ⟩ := hv
  have hx := B.exec
  have hb := B.bytes
  have hr := B.returns
  have hts0 := atoms_spec (ws := (.codeWith y_La_place method_10_code 6 (some .int) [(0, 12, 15, 41)] :: zz_W)) B.pre
  have hts : ∀ w ∈ zz_W, w.before _ s = true := fun w h => hts0 w (List.mem_cons_of_mem _ h)
  have hown : s.vm.findClass R_La = some m.cls := findClass_of_methodNamed B.named
  have hlocks := B.notSynchronized
  subst hsz
  have hD := hD0.self (sz := s.heap.size)
  generalize hAe : va_A [(x0, .inr (0, [.ref xp, .ref xm, .ref xe, .ref xf, .ref xc, .ref xr, .int 0])), (xm, .inr (2, [.ref m1, .ref m2, .ref m3, .ref m4, .ref m5, .ref m6, .ref m7, .int 0])), (o, .inl (co, 1, .inr (.inl (fun _ => 0))))] s.heap.size = A at hD ⊢
  have hA : ∀ q : Nat, s.heap.size ≤ q → A q := fun q h => by rw [← hAe]; exact Or.inr h
  have hS : va_S A s.heap s.heap [] := va_S.rf
  have hl := lv_entry ([.ref x0, .int p0, .int p1, .int p2, .ref o]) (n := 6) (Nat.le_of_ble_eq_true rfl)
  rw [lg_entry_eq]
  generalize (lg_sl ([.ref x0, .int p0, .int p1, .int p2, .ref o]) ++ List.replicate (6 - (lg_sl ([.ref x0, .int p0, .int p1, .int p2, .ref o])).length) Slot.unset).toArray = ls at hl ⊢
  have hl : lv_has ls 6 [(0, .ref x0), (1, .int p0), (2, .int p1), (3, .int p2), (4, .ref o)] := hl
  refine lv_aload hx hb d_La_place_0 (lv_at hl 4 rfl) ?_
  refine lv_iconst (v := 0) hx hb d_La_place_2 (by decide) ?_
  refine lv_aload_n hx hb d_La_place_3 rfl (lv_at hl 0 rfl) ?_
  refine lv_iload_n hx hb d_La_place_4 rfl (lv_at hl 1 rfl) ?_
  refine lv_iload_n hx hb d_La_place_5 rfl (lv_at hl 2 rfl) ?_
  refine lv_iload_n hx hb d_La_place_6 rfl (lv_at hl 3 rfl) ?_
  have hPc := hP.sub (ws' := [(x0, .inr (0, [.ref xp, .ref xm, .ref xe, .ref xf, .ref xc, .ref xr, .int 0])), (xm, .inr (2, [.ref m1, .ref m2, .ref m3, .ref m4, .ref m5, .ref m6, .ref m7, .int 0]))]) [0, 1] rfl
  have hKc := hK.sub (tys' := []) [] rfl
  have hDc : va_D (fun _ => True) [(x0, .inr (0, [.ref xp, .ref xm, .ref xe, .ref xf, .ref xc, .ref xr, .int 0])), (xm, .inr (2, [.ref m1, .ref m2, .ref m3, .ref m4, .ref m5, .ref m6, .ref m7, .int 0]))] := (hD.sub (ws' := [(x0, .inr (0, [.ref xp, .ref xm, .ref xe, .ref xf, .ref xc, .ref xr, .int 0])), (xm, .inr (2, [.ref m1, .ref m2, .ref m3, .ref m4, .ref m5, .ref m6, .ref m7, .int 0]))]) [0, 1] (by decide) rfl).weaken (fun _ _ _ _ => trivial)
  refine th_callV (E := E_NSE) (As := [.int p0, .int p1, .int p2]) (rest := [.int 0, .ref o]) (hpc := 15) ⟨hx, hb, hml, hown, hts⟩ (FG_place l hfl dC dI s.heap.size x0 xp xm xe xf xc xr m1 m2 m3 m4 m5 m6 m7 p0 p1 p2) (zz_cV 3 hts mw_1055 mw_1058 mw_1 mw_1056 mw_1057 rfl rfl hd_FG_place ⟨Nat.le_of_ble_eq_true rfl, Nat.le_of_ble_eq_true rfl⟩) ⟨zz_blindS, va_recv hKc hPc (ci := 0) (q0 := 0) rfl rfl, fun U hU hW => ⟨rfl, zz_preS hPc hKc hDc hT hZ (fun q hq => rfl) U hU hW⟩⟩ rfl hl.1 rfl (Nat.le_of_ble_eq_true rfl) d_La_place_7 ⟨(Nat.le_of_ble_eq_true rfl), (Nat.le_of_ble_eq_true rfl)⟩ (th_one htab (by decide) (by decide) rfl (hts _ mw_1031) (va_Nw.use rfl (hT.1 _ mn_1038))) (fun xq H1 hz0 hz1 hk1 => ?_)
  have hP := zz_keep2 hP hk1
  have hS := zz_Sg hS hz1 hk1
  generalize H1 = H at hP hS ⊢
  have hP : va_P (dC, dI) classes [(x0, .inr (0, [.ref xp, .ref xm, .ref xe, .ref xf, .ref xc, .ref xr, .int 0])), (xm, .inr (2, [.ref m1, .ref m2, .ref m3, .ref m4, .ref m5, .ref m6, .ref m7, .int 0])), (o, .inl (co, 1, .inr (.inl (fun _ => 0))))] H := hP
  have hD : va_D A [(x0, .inr (0, [.ref xp, .ref xm, .ref xe, .ref xf, .ref xc, .ref xr, .int 0])), (xm, .inr (2, [.ref m1, .ref m2, .ref m3, .ref m4, .ref m5, .ref m6, .ref m7, .int 0])), (o, .inl (co, 1, .inr (.inl (fun _ => 0))))] := hD
  refine W.widen (k := 1) (n := 6) (by omega) (by omega) ?_
  refine lv_astore (lv' := [(5, .ref xq), (0, .ref x0), (1, .int p0), (2, .int p1), (3, .int p2), (4, .ref o)]) hx hb d_La_place_15 hl (by decide) rfl (fun ls hl => ?_)
  refine lv_iconst (v := 1) hx hb d_La_place_17 (by decide) ?_
  have hP9 := hP.sub (ws' := [(o, .inl (co, 1, .inr (.inl (fun _ => 0))))]) [2] rfl
  have hD9 := hD.sub (ws' := [(o, .inl (co, 1, .inr (.inl (fun _ => 0))))]) [2] (by decide) rfl
  have hK9 := hK.sub (tys' := [(co, .long)]) [0] rfl
  refine W.widen (k := 1) (n := 6) (by omega) (by omega) ?_
  exact W.iret (v := 1) hx hb hr (fun t ht hW => ⟨⟨1, (), rfl, rfl, by rw [ht]; exact hP9, va_K.moved hW.alike hK9, hD9⟩, hS.F ht⟩) hS.2.2 d_La_place_18
set_option maxHeartbeats 4000000 in
set_option maxRecDepth 100000 in
theorem La_log (l : Launch) (hfl : l.flags = Jvm.pinnedFlags ++ [Jvm.noTraceFlag]) (dC : Nat → ClassId) (dI : Nat → Nat → Nat) (sz : Nat) (x0 : Nat) (xp : Nat) (xm : Nat) (xe : Nat) (xf : Nat) (xc : Nat) (xr : Nat) (r1 : Nat) (r2 : Nat) (r3 : Nat) (p0 : Int32) (o : Nat) (co : ClassId) : Met l y_La_log (.codeWith y_La_log method_11_code 4 (some .int) [(0, 8, 11, 41)] :: zz_W) ({ frames := 7, cells := 1, slots := 6, locals := 103 }) (va_Pc [.ref x0, .int p0, .ref o] (zz_BS dC dI [(x0, .inr (0, [.ref xp, .ref xm, .ref xe, .ref xf, .ref xc, .ref xr, .int 0])), (xr, .inr (8, [.ref xp, .ref xf, .ref xe, .ref r1, .ref r2, .ref r3, .int 0, .int 0, .long 0, .int 0, .int 0, .int 0])), (o, .inl (co, 1, .inr (.inl (fun _ => 0))))] [(co, .long)] sz)) (va_Qi (fun (r : Int32) (_ : Unit) => r = 1) (fun (_ : Unit) (t : State) => va_P (dC, dI) classes [(o, .inl (co, 1, .inr (.inl (fun _ => 0))))] t.heap ∧ va_K (dC, dI) classes [(co, .long)] t ∧ va_D (va_A [(x0, .inr (0, [.ref xp, .ref xm, .ref xe, .ref xf, .ref xc, .ref xr, .int 0])), (xr, .inr (8, [.ref xp, .ref xf, .ref xe, .ref r1, .ref r2, .ref r3, .int 0, .int 0, .long 0, .int 0, .int 0, .int 0])), (o, .inl (co, 1, .inr (.inl (fun _ => 0))))] sz) [(o, .inl (co, 1, .inr (.inl (fun _ => 0))))]) (va_A [(x0, .inr (0, [.ref xp, .ref xm, .ref xe, .ref xf, .ref xc, .ref xr, .int 0])), (xr, .inr (8, [.ref xp, .ref xf, .ref xe, .ref r1, .ref r2, .ref r3, .int 0, .int 0, .long 0, .int 0, .int 0, .int 0])), (o, .inl (co, 1, .inr (.inl (fun _ => 0))))] sz)) 1 6 (va_A [(x0, .inr (0, [.ref xp, .ref xm, .ref xe, .ref xf, .ref xc, .ref xr, .int 0])), (xr, .inr (8, [.ref xp, .ref xf, .ref xe, .ref r1, .ref r2, .ref r3, .int 0, .int 0, .long 0, .int 0, .int 0, .int 0])), (o, .inl (co, 1, .inr (.inl (fun _ => 0))))] sz) := by
  refine th_ofWith (cc := method_11_code) (maxL := 4) (ret := (some .int)) (by decide) rfl ?_
  intro p e s m args below meth c s₁ B hml htab hv
  obtain ⟨rfl, ⟨hsz, hP, hK, hD0, hT⟩, hZ⟩ := hv
  have hx := B.exec
  have hb := B.bytes
  have hr := B.returns
  have hts0 := atoms_spec (ws := (.codeWith y_La_log method_11_code 4 (some .int) [(0, 8, 11, 41)] :: zz_W)) B.pre
  have hts : ∀ w ∈ zz_W, w.before _ s = true := fun w h => hts0 w (List.mem_cons_of_mem _ h)
  have hown : s.vm.findClass R_La = some m.cls := findClass_of_methodNamed B.named
  have hlocks := B.notSynchronized
  subst hsz
  have hD := hD0.self (sz := s.heap.size)
  generalize hAe : va_A [(x0, .inr (0, [.ref xp, .ref xm, .ref xe, .ref xf, .ref xc, .ref xr, .int 0])), (xr, .inr (8, [.ref xp, .ref xf, .ref xe, .ref r1, .ref r2, .ref r3, .int 0, .int 0, .long 0, .int 0, .int 0, .int 0])), (o, .inl (co, 1, .inr (.inl (fun _ => 0))))] s.heap.size = A at hD ⊢
  have hA : ∀ q : Nat, s.heap.size ≤ q → A q := fun q h => by rw [← hAe]; exact Or.inr h
  have hS : va_S A s.heap s.heap [] := va_S.rf
  have hl := lv_entry ([.ref x0, .int p0, .ref o]) (n := 4) (Nat.le_of_ble_eq_true rfl)
  rw [lg_entry_eq]
  generalize (lg_sl ([.ref x0, .int p0, .ref o]) ++ List.replicate (4 - (lg_sl ([.ref x0, .int p0, .ref o])).length) Slot.unset).toArray = ls at hl ⊢
  have hl : lv_has ls 4 [(0, .ref x0), (1, .int p0), (2, .ref o)] := hl
  refine lv_aload_n hx hb d_La_log_0 rfl (lv_at hl 2 rfl) ?_
  refine lv_iconst (v := 0) hx hb d_La_log_1 (by decide) ?_
  refine lv_aload_n hx hb d_La_log_2 rfl (lv_at hl 0 rfl) ?_
  refine lv_iload_n hx hb d_La_log_3 rfl (lv_at hl 1 rfl) ?_
  have hPc := hP.sub (ws' := [(x0, .inr (0, [.ref xp, .ref xm, .ref xe, .ref xf, .ref xc, .ref xr, .int 0])), (xr, .inr (8, [.ref xp, .ref xf, .ref xe, .ref r1, .ref r2, .ref r3, .int 0, .int 0, .long 0, .int 0, .int 0, .int 0]))]) [0, 1] rfl
  have hKc := hK.sub (tys' := []) [] rfl
  have hDc : va_D (fun _ => True) [(x0, .inr (0, [.ref xp, .ref xm, .ref xe, .ref xf, .ref xc, .ref xr, .int 0])), (xr, .inr (8, [.ref xp, .ref xf, .ref xe, .ref r1, .ref r2, .ref r3, .int 0, .int 0, .long 0, .int 0, .int 0, .int 0]))] := (hD.sub (ws' := [(x0, .inr (0, [.ref xp, .ref xm, .ref xe, .ref xf, .ref xc, .ref xr, .int 0])), (xr, .inr (8, [.ref xp, .ref xf, .ref xe, .ref r1, .ref r2, .ref r3, .int 0, .int 0, .long 0, .int 0, .int 0, .int 0]))]) [0, 1] (by decide) rfl).weaken (fun _ _ _ _ => trivial)
  refine th_callV (E := E_NSE) (As := [.int p0]) (rest := [.int 0, .ref o]) (hpc := 11) ⟨hx, hb, hml, hown, hts⟩ (FG_log l hfl dC dI s.heap.size x0 xp xm xe xf xc xr r1 r2 r3 p0) (zz_cV 1 hts mw_1072 mw_1075 mw_1 mw_1073 mw_1074 rfl rfl hd_FG_log ⟨Nat.le_of_ble_eq_true rfl, Nat.le_of_ble_eq_true rfl⟩) ⟨zz_blindS, va_recv hKc hPc (ci := 0) (q0 := 0) rfl rfl, fun U hU hW => ⟨rfl, zz_preS hPc hKc hDc hT hZ (fun q hq => rfl) U hU hW⟩⟩ rfl hl.1 rfl (Nat.le_of_ble_eq_true rfl) d_La_log_4 ⟨(Nat.le_of_ble_eq_true rfl), (Nat.le_of_ble_eq_true rfl)⟩ (th_one htab (by decide) (by decide) rfl (hts _ mw_1031) (va_Nw.use rfl (hT.1 _ mn_1038))) (fun xq H1 hz0 hz1 hk1 => ?_)
  have hP := zz_keep2 hP hk1
  have hS := zz_Sg hS hz1 hk1
  generalize H1 = H at hP hS ⊢
  have hP : va_P (dC, dI) classes [(x0, .inr (0, [.ref xp, .ref xm, .ref xe, .ref xf, .ref xc, .ref xr, .int 0])), (xr, .inr (8, [.ref xp, .ref xf, .ref xe, .ref r1, .ref r2, .ref r3, .int 0, .int 0, .long 0, .int 0, .int 0, .int 0])), (o, .inl (co, 1, .inr (.inl (fun _ => 0))))] H := hP
  have hD : va_D A [(x0, .inr (0, [.ref xp, .ref xm, .ref xe, .ref xf, .ref xc, .ref xr, .int 0])), (xr, .inr (8, [.ref xp, .ref xf, .ref xe, .ref r1, .ref r2, .ref r3, .int 0, .int 0, .long 0, .int 0, .int 0, .int 0])), (o, .inl (co, 1, .inr (.inl (fun _ => 0))))] := hD
  refine W.widen (k := 1) (n := 6) (by omega) (by omega) ?_
  refine lv_astore_n (lv' := [(3, .ref xq), (0, .ref x0), (1, .int p0), (2, .ref o)]) hx hb d_La_log_11 rfl hl (by decide) rfl (fun ls hl => ?_)
  refine lv_iconst (v := 1) hx hb d_La_log_12 (by decide) ?_
  have hP9 := hP.sub (ws' := [(o, .inl (co, 1, .inr (.inl (fun _ => 0))))]) [2] rfl
  have hD9 := hD.sub (ws' := [(o, .inl (co, 1, .inr (.inl (fun _ => 0))))]) [2] (by decide) rfl
  have hK9 := hK.sub (tys' := [(co, .long)]) [0] rfl
  refine W.widen (k := 1) (n := 6) (by omega) (by omega) ?_
  exact W.iret (v := 1) hx hb hr (fun t ht hW => ⟨⟨1, (), rfl, rfl, by rw [ht]; exact hP9, va_K.moved hW.alike hK9, hD9⟩, hS.F ht⟩) hS.2.2 d_La_log_13
set_option maxHeartbeats 4000000 in
set_option maxRecDepth 100000 in
theorem La_known_1 (l : Launch) (hfl : l.flags = Jvm.pinnedFlags ++ [Jvm.noTraceFlag]) (dC : Nat → ClassId) (dI : Nat → Nat → Nat) (sz : Nat) (x0 : Nat) (xp : Nat) (xm : Nat) (xe : Nat) (xf : Nat) (xc : Nat) (xr : Nat) (p0 : Int32) (p1 : Int32) (p2 : Int32) (o : Nat) (co : ClassId) (hn : ¬ (¬ p2 < 0 ∧ ¬ 3 < p2)) : Met l y_La_known (.codeWith y_La_known method_12_code 6 (some .int) [(0, 11, 14, 13), (0, 11, 18, 41)] :: zz_W) ({ frames := 7, cells := 1, slots := 6, locals := 105 }) (va_Pc [.ref x0, .int p0, .int p1, .int p2, .ref o] (zz_BS dC dI [(x0, .inr (0, [.ref xp, .ref xm, .ref xe, .ref xf, .ref xc, .ref xr, .int 0])), (o, .inl (co, 1, .inr (.inl (fun _ => 0))))] [(co, .long)] sz)) (va_Qi (fun (r : Int32) (_ : Unit) => r = 1) (fun (_ : Unit) (t : State) => va_P (dC, dI) classes [(o, .inl (co, 1, .inr (.inl (fun _ => 0))))] t.heap ∧ va_K (dC, dI) classes [(co, .long)] t ∧ va_D (va_A [(x0, .inr (0, [.ref xp, .ref xm, .ref xe, .ref xf, .ref xc, .ref xr, .int 0])), (o, .inl (co, 1, .inr (.inl (fun _ => 0))))] sz) [(o, .inl (co, 1, .inr (.inl (fun _ => 0))))]) (va_A [(x0, .inr (0, [.ref xp, .ref xm, .ref xe, .ref xf, .ref xc, .ref xr, .int 0])), (o, .inl (co, 1, .inr (.inl (fun _ => 0))))] sz)) 1 6 (va_A [(x0, .inr (0, [.ref xp, .ref xm, .ref xe, .ref xf, .ref xc, .ref xr, .int 0])), (o, .inl (co, 1, .inr (.inl (fun _ => 0))))] sz) := by
  refine th_ofWith (cc := method_12_code) (maxL := 6) (ret := (some .int)) (by decide) rfl ?_
  intro p e s m args below meth c s₁ B hml htab hv
  obtain ⟨rfl, ⟨hsz, hP, hK, hD0, hT⟩, hZ⟩ := hv
  have hx := B.exec
  have hb := B.bytes
  have hr := B.returns
  have hts0 := atoms_spec (ws := (.codeWith y_La_known method_12_code 6 (some .int) [(0, 11, 14, 13), (0, 11, 18, 41)] :: zz_W)) B.pre
  have hts : ∀ w ∈ zz_W, w.before _ s = true := fun w h => hts0 w (List.mem_cons_of_mem _ h)
  have hown : s.vm.findClass R_La = some m.cls := findClass_of_methodNamed B.named
  have hlocks := B.notSynchronized
  subst hsz
  have hD := hD0.self (sz := s.heap.size)
  generalize hAe : va_A [(x0, .inr (0, [.ref xp, .ref xm, .ref xe, .ref xf, .ref xc, .ref xr, .int 0])), (o, .inl (co, 1, .inr (.inl (fun _ => 0))))] s.heap.size = A at hD ⊢
  have hA : ∀ q : Nat, s.heap.size ≤ q → A q := fun q h => by rw [← hAe]; exact Or.inr h
  have hS : va_S A s.heap s.heap [] := va_S.rf
  have hl := lv_entry ([.ref x0, .int p0, .int p1, .int p2, .ref o]) (n := 6) (Nat.le_of_ble_eq_true rfl)
  rw [lg_entry_eq]
  generalize (lg_sl ([.ref x0, .int p0, .int p1, .int p2, .ref o]) ++ List.replicate (6 - (lg_sl ([.ref x0, .int p0, .int p1, .int p2, .ref o])).length) Slot.unset).toArray = ls at hl ⊢
  have hl : lv_has ls 6 [(0, .ref x0), (1, .int p0), (2, .int p1), (3, .int p2), (4, .ref o)] := hl
  refine lv_aload hx hb d_La_known_0 (lv_at hl 4 rfl) ?_
  refine lv_iconst (v := 0) hx hb d_La_known_2 (by decide) ?_
  refine lv_aload_n hx hb d_La_known_3 rfl (lv_at hl 0 rfl) ?_
  refine lv_iload_n hx hb d_La_known_4 rfl (lv_at hl 1 rfl) ?_
  refine lv_iload_n hx hb d_La_known_5 rfl (lv_at hl 2 rfl) ?_
  refine lv_iload_n hx hb d_La_known_6 rfl (lv_at hl 3 rfl) ?_
  have hPc := hP.sub (ws' := [(x0, .inr (0, [.ref xp, .ref xm, .ref xe, .ref xf, .ref xc, .ref xr, .int 0]))]) [0] rfl
  have hKc := hK.sub (tys' := []) [] rfl
  have hDc : va_D (fun _ => True) [(x0, .inr (0, [.ref xp, .ref xm, .ref xe, .ref xf, .ref xc, .ref xr, .int 0]))] := (hD.sub (ws' := [(x0, .inr (0, [.ref xp, .ref xm, .ref xe, .ref xf, .ref xc, .ref xr, .int 0]))]) [0] (by decide) rfl).weaken (fun _ _ _ _ => trivial)
  refine th_callV (E := E_IAE) (As := [.int p0, .int p1, .int p2]) (rest := [.int 0, .ref o]) (hpc := 14) ⟨hx, hb, hml, hown, hts⟩ (FG_known_1 l hfl dC dI s.heap.size x0 xp xm xe xf xc xr p0 p1 p2 hn) (zz_cV 3 hts mw_1080 mw_1083 mw_1 mw_1081 mw_1082 rfl rfl hd_FG_known ⟨Nat.le_of_ble_eq_true rfl, Nat.le_of_ble_eq_true rfl⟩) ⟨zz_blindS, va_recv hKc hPc (ci := 0) (q0 := 0) rfl rfl, fun U hU hW => ⟨rfl, zz_preS hPc hKc hDc hT hZ (fun q hq => rfl) U hU hW⟩⟩ rfl hl.1 rfl (Nat.le_of_ble_eq_true rfl) d_La_known_7 ⟨(Nat.le_of_ble_eq_true rfl), (Nat.le_of_ble_eq_true rfl)⟩ (th_first htab (by decide) (by decide) rfl (hts _ mw_379) (va_Nw.use rfl (hT.1 _ mn_390))) (fun xq H1 hz0 hz1 hk1 => ?_)
  have hP := zz_keep2 hP hk1
  have hS := zz_Sg hS hz1 hk1
  generalize H1 = H at hP hS ⊢
  have hP : va_P (dC, dI) classes [(x0, .inr (0, [.ref xp, .ref xm, .ref xe, .ref xf, .ref xc, .ref xr, .int 0])), (o, .inl (co, 1, .inr (.inl (fun _ => 0))))] H := hP
  have hD : va_D A [(x0, .inr (0, [.ref xp, .ref xm, .ref xe, .ref xf, .ref xc, .ref xr, .int 0])), (o, .inl (co, 1, .inr (.inl (fun _ => 0))))] := hD
  refine W.widen (k := 1) (n := 6) (by omega) (by omega) ?_
  refine lv_astore (lv' := [(5, .ref xq), (0, .ref x0), (1, .int p0), (2, .int p1), (3, .int p2), (4, .ref o)]) hx hb d_La_known_14 hl (by decide) rfl (fun ls hl => ?_)
  refine lv_iconst (v := 1) hx hb d_La_known_16 (by decide) ?_
  have hP9 := hP.sub (ws' := [(o, .inl (co, 1, .inr (.inl (fun _ => 0))))]) [1] rfl
  have hD9 := hD.sub (ws' := [(o, .inl (co, 1, .inr (.inl (fun _ => 0))))]) [1] (by decide) rfl
  have hK9 := hK.sub (tys' := [(co, .long)]) [0] rfl
  refine W.widen (k := 1) (n := 6) (by omega) (by omega) ?_
  exact W.iret (v := 1) hx hb hr (fun t ht hW => ⟨⟨1, (), rfl, rfl, by rw [ht]; exact hP9, va_K.moved hW.alike hK9, hD9⟩, hS.F ht⟩) hS.2.2 d_La_known_17
set_option maxHeartbeats 4000000 in
set_option maxRecDepth 100000 in
theorem La_known_2 (l : Launch) (hfl : l.flags = Jvm.pinnedFlags ++ [Jvm.noTraceFlag]) (dC : Nat → ClassId) (dI : Nat → Nat → Nat) (sz : Nat) (x0 : Nat) (xp : Nat) (xm : Nat) (xe : Nat) (xf : Nat) (xc : Nat) (xr : Nat) (p0 : Int32) (p1 : Int32) (p2 : Int32) (o : Nat) (co : ClassId) (h1 : ¬ p2 < 0) (h2 : ¬ 3 < p2) : Met l y_La_known (.codeWith y_La_known method_12_code 6 (some .int) [(0, 11, 14, 13), (0, 11, 18, 41)] :: zz_W) ({ frames := 7, cells := 1, slots := 6, locals := 105 }) (va_Pc [.ref x0, .int p0, .int p1, .int p2, .ref o] (zz_BS dC dI [(x0, .inr (0, [.ref xp, .ref xm, .ref xe, .ref xf, .ref xc, .ref xr, .int 0])), (o, .inl (co, 1, .inr (.inl (fun _ => 0))))] [(co, .long)] sz)) (va_Qi (fun (r : Int32) (_ : Unit) => r = 2) (fun (_ : Unit) (t : State) => va_P (dC, dI) classes [(o, .inl (co, 1, .inr (.inl (fun _ => 0))))] t.heap ∧ va_K (dC, dI) classes [(co, .long)] t ∧ va_D (va_A [(x0, .inr (0, [.ref xp, .ref xm, .ref xe, .ref xf, .ref xc, .ref xr, .int 0])), (o, .inl (co, 1, .inr (.inl (fun _ => 0))))] sz) [(o, .inl (co, 1, .inr (.inl (fun _ => 0))))]) (va_A [(x0, .inr (0, [.ref xp, .ref xm, .ref xe, .ref xf, .ref xc, .ref xr, .int 0])), (o, .inl (co, 1, .inr (.inl (fun _ => 0))))] sz)) 1 6 (va_A [(x0, .inr (0, [.ref xp, .ref xm, .ref xe, .ref xf, .ref xc, .ref xr, .int 0])), (o, .inl (co, 1, .inr (.inl (fun _ => 0))))] sz) := by
  refine th_ofWith (cc := method_12_code) (maxL := 6) (ret := (some .int)) (by decide) rfl ?_
  intro p e s m args below meth c s₁ B hml htab hv
  obtain ⟨rfl, ⟨hsz, hP, hK, hD0, hT⟩, hZ⟩ := hv
  have hx := B.exec
  have hb := B.bytes
  have hr := B.returns
  have hts0 := atoms_spec (ws := (.codeWith y_La_known method_12_code 6 (some .int) [(0, 11, 14, 13), (0, 11, 18, 41)] :: zz_W)) B.pre
  have hts : ∀ w ∈ zz_W, w.before _ s = true := fun w h => hts0 w (List.mem_cons_of_mem _ h)
  have hown : s.vm.findClass R_La = some m.cls := findClass_of_methodNamed B.named
  have hlocks := B.notSynchronized
  subst hsz
  have hD := hD0.self (sz := s.heap.size)
  generalize hAe : va_A [(x0, .inr (0, [.ref xp, .ref xm, .ref xe, .ref xf, .ref xc, .ref xr, .int 0])), (o, .inl (co, 1, .inr (.inl (fun _ => 0))))] s.heap.size = A at hD ⊢
  have hA : ∀ q : Nat, s.heap.size ≤ q → A q := fun q h => by rw [← hAe]; exact Or.inr h
  have hS : va_S A s.heap s.heap [] := va_S.rf
  have hl := lv_entry ([.ref x0, .int p0, .int p1, .int p2, .ref o]) (n := 6) (Nat.le_of_ble_eq_true rfl)
  rw [lg_entry_eq]
  generalize (lg_sl ([.ref x0, .int p0, .int p1, .int p2, .ref o]) ++ List.replicate (6 - (lg_sl ([.ref x0, .int p0, .int p1, .int p2, .ref o])).length) Slot.unset).toArray = ls at hl ⊢
  have hl : lv_has ls 6 [(0, .ref x0), (1, .int p0), (2, .int p1), (3, .int p2), (4, .ref o)] := hl
  refine lv_aload hx hb d_La_known_0 (lv_at hl 4 rfl) ?_
  refine lv_iconst (v := 0) hx hb d_La_known_2 (by decide) ?_
  refine lv_aload_n hx hb d_La_known_3 rfl (lv_at hl 0 rfl) ?_
  refine lv_iload_n hx hb d_La_known_4 rfl (lv_at hl 1 rfl) ?_
  refine lv_iload_n hx hb d_La_known_5 rfl (lv_at hl 2 rfl) ?_
  refine lv_iload_n hx hb d_La_known_6 rfl (lv_at hl 3 rfl) ?_
  have hPc := hP.sub (ws' := [(x0, .inr (0, [.ref xp, .ref xm, .ref xe, .ref xf, .ref xc, .ref xr, .int 0]))]) [0] rfl
  have hKc := hK.sub (tys' := []) [] rfl
  have hDc : va_D (fun _ => True) [(x0, .inr (0, [.ref xp, .ref xm, .ref xe, .ref xf, .ref xc, .ref xr, .int 0]))] := (hD.sub (ws' := [(x0, .inr (0, [.ref xp, .ref xm, .ref xe, .ref xf, .ref xc, .ref xr, .int 0]))]) [0] (by decide) rfl).weaken (fun _ _ _ _ => trivial)
  refine th_callV (E := E_NSE) (As := [.int p0, .int p1, .int p2]) (rest := [.int 0, .ref o]) (hpc := 18) ⟨hx, hb, hml, hown, hts⟩ (FG_known_2 l hfl dC dI s.heap.size x0 xp xm xe xf xc xr p0 p1 p2 h1 h2) (zz_cV 3 hts mw_1080 mw_1083 mw_1 mw_1081 mw_1082 rfl rfl hd_FG_known ⟨Nat.le_of_ble_eq_true rfl, Nat.le_of_ble_eq_true rfl⟩) ⟨zz_blindS, va_recv hKc hPc (ci := 0) (q0 := 0) rfl rfl, fun U hU hW => ⟨rfl, zz_preS hPc hKc hDc hT hZ (fun q hq => rfl) U hU hW⟩⟩ rfl hl.1 rfl (Nat.le_of_ble_eq_true rfl) d_La_known_7 ⟨(Nat.le_of_ble_eq_true rfl), (Nat.le_of_ble_eq_true rfl)⟩ (th_second htab (by decide) (by decide) (by decide) (by decide) rfl (hts _ mw_379) hT.2.2.1 (hts _ mw_1031) (va_Nw.use rfl (hT.1 _ mn_1038))) (fun xq H1 hz0 hz1 hk1 => ?_)
  have hP := zz_keep2 hP hk1
  have hS := zz_Sg hS hz1 hk1
  generalize H1 = H at hP hS ⊢
  have hP : va_P (dC, dI) classes [(x0, .inr (0, [.ref xp, .ref xm, .ref xe, .ref xf, .ref xc, .ref xr, .int 0])), (o, .inl (co, 1, .inr (.inl (fun _ => 0))))] H := hP
  have hD : va_D A [(x0, .inr (0, [.ref xp, .ref xm, .ref xe, .ref xf, .ref xc, .ref xr, .int 0])), (o, .inl (co, 1, .inr (.inl (fun _ => 0))))] := hD
  refine W.widen (k := 1) (n := 6) (by omega) (by omega) ?_
  refine lv_astore (lv' := [(5, .ref xq), (0, .ref x0), (1, .int p0), (2, .int p1), (3, .int p2), (4, .ref o)]) hx hb d_La_known_18 hl (by decide) rfl (fun ls hl => ?_)
  refine lv_iconst (v := 2) hx hb d_La_known_20 (by decide) ?_
  have hP9 := hP.sub (ws' := [(o, .inl (co, 1, .inr (.inl (fun _ => 0))))]) [1] rfl
  have hD9 := hD.sub (ws' := [(o, .inl (co, 1, .inr (.inl (fun _ => 0))))]) [1] (by decide) rfl
  have hK9 := hK.sub (tys' := [(co, .long)]) [0] rfl
  refine W.widen (k := 1) (n := 6) (by omega) (by omega) ?_
  exact W.iret (v := 2) hx hb hr (fun t ht hW => ⟨⟨2, (), rfl, rfl, by rw [ht]; exact hP9, va_K.moved hW.alike hK9, hD9⟩, hS.F ht⟩) hS.2.2 d_La_known_21
