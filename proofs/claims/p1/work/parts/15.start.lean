set_option maxRecDepth 1000000 in
theorem zz_ao_in : Cond.arrayOver (.object R_St) ∈ lw_tbl := List.mem_append_right _ (List.mem_of_getElem? (i := 212) rfl)
set_option maxRecDepth 1000000 in
theorem zz_ls_UNA : Cond.laysStatic Bundle.tN "UNASSIGNED_STACK" "[Ljava/lang/StackTraceElement;" ∈ lw_tbl := List.mem_append_right _ (List.mem_of_getElem? (i := 415) rfl)
set_option maxRecDepth 1000000 in
theorem zz_ls_SUP : Cond.laysStatic Bundle.tN "SUPPRESSED_SENTINEL" "Ljava/util/List;" ∈ lw_tbl := List.mem_append_right _ (List.mem_of_getElem? (i := 417) rfl)
set_option maxRecDepth 1000000 in
theorem zz_sr_in : ∀ r ∈ zz_SR, Cond.stringRef R_FG r.1 r.2 ∈ lw_tbl := by
  intro r hr
  simp only [zz_SR, List.mem_cons, List.not_mem_nil, or_false] at hr
  rcases hr with rfl | rfl | rfl | rfl | rfl | rfl | rfl | rfl | rfl
  · exact List.mem_append_right _ (List.mem_of_getElem? (i := 431) rfl)
  · exact List.mem_append_right _ (List.mem_of_getElem? (i := 496) rfl)
  · exact List.mem_append_right _ (List.mem_of_getElem? (i := 869) rfl)
  · exact List.mem_append_right _ (List.mem_of_getElem? (i := 877) rfl)
  · exact List.mem_append_right _ (List.mem_of_getElem? (i := 1045) rfl)
  · exact List.mem_append_right _ (List.mem_of_getElem? (i := 1064) rfl)
  · exact List.mem_append_right _ (List.mem_of_getElem? (i := 1076) rfl)
  · exact List.mem_append_right _ (List.mem_of_getElem? (i := 1084) rfl)
  · exact List.mem_append_right _ (List.mem_of_getElem? (i := 1086) rfl)
set_option maxRecDepth 1000000 in
theorem zz_sx_in : ∀ r ∈ zz_SR, Cond.exactly (.string R_FG r.1) "java/lang/String" ∈ flatC (Jvm.Cond.and given_1 narrow_1) := by decide +kernel
theorem zz_nc_in : Cond.not (.castable E_NSE E_IAE) ∈ flatC (Jvm.Cond.and given_1 narrow_1) := by decide +kernel
theorem zz_ru_in : Cond.isRef (.static Bundle.tN "UNASSIGNED_STACK" Bundle.steD) ∈ flatC (Jvm.Cond.and given_1 narrow_1) ∧ Cond.isRef (.static Bundle.tN "SUPPRESSED_SENTINEL" Bundle.listD) ∈ flatC (Jvm.Cond.and given_1 narrow_1) := by decide +kernel
theorem zz_T_of {b : Nat} {s : State} (hts0 : ∀ w ∈ lw_tbl, w.before #[Value.ref b] s = true) (hgv : (Jvm.Cond.and given_1 narrow_1).before #[Value.ref b] s = true) : zz_T s := by
  have hf := flat_of_before _ hgv
  refine ⟨fun w hw => va_Nw.of (zz_NT_tab w hw) (hts0 w (zz_NT_in w hw)), va_AO.of (hts0 _ zz_ao_in), va_Nc.of (hf _ zz_nc_in), fun r hr => ?_⟩
  obtain ⟨a, c, cell, k, q1, -⟩ := Cond.exactly_spec (hf _ (zz_sx_in r hr))
  exact ⟨a, vk_R.of (A := #[Value.ref b]) (hts0 _ (zz_sr_in r hr)) q1⟩
theorem zz_S_of {b : Nat} {s : State} (hts0 : ∀ w ∈ lw_tbl, w.before #[Value.ref b] s = true) (hgv : (Jvm.Cond.and given_1 narrow_1).before #[Value.ref b] s = true) : zz_S s := by
  have hf := flat_of_before _ hgv
  exact ⟨⟨hts0 _ zz_ls_UNA, hf _ zz_ru_in.1⟩, ⟨hts0 _ zz_ls_SUP, hf _ zz_ru_in.2⟩⟩
