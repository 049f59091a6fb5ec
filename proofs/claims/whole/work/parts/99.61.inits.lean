set_option maxHeartbeats 4000000 in
set_option maxRecDepth 100000 in
theorem c_initPlace (l : Launch) (dC : Nat → ClassId) (dI : Nat → Nat → Nat) (sz : Nat) (ho : Nat) (o1 o2 o3 o4 o5 : Int32) (a1 : Int32) (K : Int) (g1 : a1.toInt = K) (hKy : 0 ≤ K) : Met l y_Place_init (.code y_Place_init b_Place_init 2 none :: allw) ({ frames := 1, cells := 0, slots := 0, locals := 24 }) (va_Pc [.ref ho, .int a1] (rw_B (dC, dI) vwCl [(ho, .inr (1, [.int o1, .int o2, .int o3, .int o4, .int o5]))] [] sz)) (va_Qv (fun (u : Int32 × Int32 × Int32 × Int32 × Int32) => u.1.toInt = K / 8192 % 512 ∧ u.2.1.toInt = K / 4194304 % 512 ∧ u.2.2.1.toInt = K / 256 % 32 ∧ u.2.2.2.1.toInt = 17 + 4 * (K / 4 % 64) ∧ u.2.2.2.2.toInt = K % 4) (fun u t => rw_E (dC, dI) vwCl [(ho, .inr (1, [.int u.1, .int u.2.1, .int u.2.2.1, .int u.2.2.2.1, .int u.2.2.2.2]))] [] (va_A [(ho, .inr (1, [.int o1, .int o2, .int o3, .int o4, .int o5]))] sz) t) (va_A [(ho, .inr (1, [.int o1, .int o2, .int o3, .int o4, .int o5]))] sz)) 0 0 (va_A [(ho, .inr (1, [.int o1, .int o2, .int o3, .int o4, .int o5]))] sz) := by
  refine Met.ofW (cc := b_Place_init) (maxL := 2) (ret := none) (by decide) rfl ?_
  intro p e s m args below meth c s₁ B hml hv
  obtain ⟨rfl, hsz, hP, hK, hD0⟩ := hv
  have hx := B.exec
  have hb := B.bytes
  have hr := B.returns
  have hts : ∀ w ∈ allw, w.before _ s = true := fun w h => atoms_spec (ws := .code y_Place_init b_Place_init 2 none :: allw) B.pre w (List.mem_cons_of_mem _ h)
  have hown : s.vm.findClass R_Place = some m.cls := findClass_of_methodNamed B.named
  have hlocks := B.notSynchronized
  have hin : meth.name = "<init>" := (name_of_methodNamed B.named B.method).1
  subst hsz
  have hD := hD0.self (sz := s.heap.size)
  generalize hAe : va_A [(ho, .inr (1, [.int o1, .int o2, .int o3, .int o4, .int o5]))] s.heap.size = A at hD ⊢
  have hA : ∀ q : Nat, s.heap.size ≤ q → A q := fun q h => by rw [← hAe]; exact Or.inr h
  have hS : va_S A s.heap s.heap [] := va_S.rf
  have hP : va_P (dC, dI) vwCl [(ho, .inr (1, [.int o1, .int o2, .int o3, .int o4, .int o5]))] s.heap := hP
  have hl := lv_entry ([.ref ho, .int a1]) (n := 2) (Nat.le_of_ble_eq_true rfl)
  rw [lg_entry_eq]
  generalize (lg_sl ([.ref ho, .int a1]) ++ List.replicate (2 - (lg_sl ([.ref ho, .int a1])).length) Slot.unset).toArray = ls at hl ⊢
  have hl : lv_has ls 2 [(0, .ref ho), (1, .int a1)] := hl
  refine lv_aload_n hx hb d_Place_init_0 rfl (lv_at hl 0 rfl) ?_
  refine W.objInit hx hb hown (hts _ wd_308) (hts _ wd_22) (hts _ wd_23) rfl (by rw [hml]; exact hl.1) rfl d_Place_init_1 (Nat.le_of_ble_eq_true rfl) (Nat.le_of_ble_eq_true rfl) ?_
  refine W.eq (g2 := F0 m 4 ls []) rfl ?_
  refine lv_aload_n hx hb d_Place_init_4 rfl (lv_at hl 0 rfl) ?_
  refine lv_iload_n hx hb d_Place_init_5 rfl (lv_at hl 1 rfl) ?_
  have hPc := hP.sub (ws' := []) [] rfl
  have hKc := hK.sub (tys' := []) [] rfl
  refine va_calli (va_runS (As := [.int a1]) (rest := [.ref ho]) ⟨hx, hb, hml, hown, hts⟩ (c_leftOf l dC dI a1 K g1 hKy) (aw_S 1 hts wd_309 wd_310 wd_13 wd_311 rfl rfl (by decide +kernel) ⟨Nat.le_of_ble_eq_true rfl, Nat.le_of_ble_eq_true rfl⟩) ⟨ro_blind, ro_pre hPc hKc⟩ rfl rfl hl.1 rfl (lv_room (Nat.le_of_ble_eq_true rfl)) d_Place_init_6 ⟨Nat.le_of_ble_eq_true rfl, Nat.le_of_ble_eq_true rfl⟩) hS (fun q _ h => h.elim) (fun q h => h.elim) (fun v6 _ t9 H6 locs ht hvm h6 hB hz1 hk1 hS => ?_)
  have hP := ro_keep hP hk1
  clear hPc hKc ht hvm hB hz1 hk1
  refine va_putF (D := (dC, dI)) (ci := 1) (v := .int v6) (ty := .int) (C := R_Place) (T := T_Place) (N := 5) hx hb hts i_Place t_Place t_Place_ok n_Place hown hK hP hD hS 0 rfl rfl 0 (by decide) (hts _ wd_321) (fun _ h9 => h9) rfl hin rfl (by decide +kernel) rfl rfl (Nat.le_of_ble_eq_true rfl) d_Place_init_9 (fun H9 locs hP hD hS => ?_)
  have hP : va_P (dC, dI) vwCl [(ho, .inr (1, [.int v6, .int o2, .int o3, .int o4, .int o5]))] H9 := hP
  have hD : va_D A [(ho, .inr (1, [.int v6, .int o2, .int o3, .int o4, .int o5]))] := hD
  refine lv_aload_n hx hb d_Place_init_12 rfl (lv_at hl 0 rfl) ?_
  refine lv_iload_n hx hb d_Place_init_13 rfl (lv_at hl 1 rfl) ?_
  have hPc := hP.sub (ws' := []) [] rfl
  have hKc := hK.sub (tys' := []) [] rfl
  refine va_calli (va_runS (As := [.int a1]) (rest := [.ref ho]) ⟨hx, hb, hml, hown, hts⟩ (c_topOf l dC dI a1 K g1 hKy) (aw_S 1 hts wd_312 wd_313 wd_13 wd_314 rfl rfl (by decide +kernel) ⟨Nat.le_of_ble_eq_true rfl, Nat.le_of_ble_eq_true rfl⟩) ⟨ro_blind, ro_pre hPc hKc⟩ rfl rfl hl.1 rfl (lv_room (Nat.le_of_ble_eq_true rfl)) d_Place_init_14 ⟨Nat.le_of_ble_eq_true rfl, Nat.le_of_ble_eq_true rfl⟩) hS (fun q _ h => h.elim) (fun q h => h.elim) (fun v14 _ t9 H14 locs ht hvm h14 hB hz1 hk1 hS => ?_)
  have hP := ro_keep hP hk1
  clear hPc hKc ht hvm hB hz1 hk1
  refine va_putF (D := (dC, dI)) (ci := 1) (v := .int v14) (ty := .int) (C := R_Place) (T := T_Place) (N := 5) hx hb hts i_Place t_Place t_Place_ok n_Place hown hK hP hD hS 0 rfl rfl 1 (by decide) (hts _ wd_322) (fun _ h9 => h9) rfl hin rfl (by decide +kernel) rfl rfl (Nat.le_of_ble_eq_true rfl) d_Place_init_17 (fun H17 locs hP hD hS => ?_)
  have hP : va_P (dC, dI) vwCl [(ho, .inr (1, [.int v6, .int v14, .int o3, .int o4, .int o5]))] H17 := hP
  have hD : va_D A [(ho, .inr (1, [.int v6, .int v14, .int o3, .int o4, .int o5]))] := hD
  refine lv_aload_n hx hb d_Place_init_20 rfl (lv_at hl 0 rfl) ?_
  refine lv_iload_n hx hb d_Place_init_21 rfl (lv_at hl 1 rfl) ?_
  have hPc := hP.sub (ws' := []) [] rfl
  have hKc := hK.sub (tys' := []) [] rfl
  refine va_calli (va_runS (As := [.int a1]) (rest := [.ref ho]) ⟨hx, hb, hml, hown, hts⟩ (c_moduleOf l dC dI a1 K g1 hKy) (aw_S 1 hts wd_315 wd_290 wd_13 wd_291 rfl rfl (by decide +kernel) ⟨Nat.le_of_ble_eq_true rfl, Nat.le_of_ble_eq_true rfl⟩) ⟨ro_blind, ro_pre hPc hKc⟩ rfl rfl hl.1 rfl (lv_room (Nat.le_of_ble_eq_true rfl)) d_Place_init_22 ⟨Nat.le_of_ble_eq_true rfl, Nat.le_of_ble_eq_true rfl⟩) hS (fun q _ h => h.elim) (fun q h => h.elim) (fun v22 _ t9 H22 locs ht hvm h22 hB hz1 hk1 hS => ?_)
  have hP := ro_keep hP hk1
  clear hPc hKc ht hvm hB hz1 hk1
  refine va_putF (D := (dC, dI)) (ci := 1) (v := .int v22) (ty := .int) (C := R_Place) (T := T_Place) (N := 5) hx hb hts i_Place t_Place t_Place_ok n_Place hown hK hP hD hS 0 rfl rfl 2 (by decide) (hts _ wd_323) (fun _ h9 => h9) rfl hin rfl (by decide +kernel) rfl rfl (Nat.le_of_ble_eq_true rfl) d_Place_init_25 (fun H25 locs hP hD hS => ?_)
  have hP : va_P (dC, dI) vwCl [(ho, .inr (1, [.int v6, .int v14, .int v22, .int o4, .int o5]))] H25 := hP
  have hD : va_D A [(ho, .inr (1, [.int v6, .int v14, .int v22, .int o4, .int o5]))] := hD
  refine lv_aload_n hx hb d_Place_init_28 rfl (lv_at hl 0 rfl) ?_
  refine lv_iload_n hx hb d_Place_init_29 rfl (lv_at hl 1 rfl) ?_
  have hPc := hP.sub (ws' := []) [] rfl
  have hKc := hK.sub (tys' := []) [] rfl
  refine va_calli (va_runS (As := [.int a1]) (rest := [.ref ho]) ⟨hx, hb, hml, hown, hts⟩ (c_versionOf l dC dI a1 K g1 hKy) (aw_S 1 hts wd_316 wd_293 wd_13 wd_294 rfl rfl (by decide +kernel) ⟨Nat.le_of_ble_eq_true rfl, Nat.le_of_ble_eq_true rfl⟩) ⟨ro_blind, ro_pre hPc hKc⟩ rfl rfl hl.1 rfl (lv_room (Nat.le_of_ble_eq_true rfl)) d_Place_init_30 ⟨Nat.le_of_ble_eq_true rfl, Nat.le_of_ble_eq_true rfl⟩) hS (fun q _ h => h.elim) (fun q h => h.elim) (fun v30 _ t9 H30 locs ht hvm h30 hB hz1 hk1 hS => ?_)
  have hP := ro_keep hP hk1
  clear hPc hKc ht hvm hB hz1 hk1
  have hPc := hP.sub (ws' := []) [] rfl
  have hKc := hK.sub (tys' := []) [] rfl
  refine va_calli (va_runS (As := [.int v30]) (rest := [.ref ho]) ⟨hx, hb, hml, hown, hts⟩ (c_sizeOf l dC dI v30 (K / 4 % 64) h30 (by omega) (by omega)) (aw_S 1 hts wd_317 wd_297 wd_13 wd_298 rfl rfl (by decide +kernel) ⟨Nat.le_of_ble_eq_true rfl, Nat.le_of_ble_eq_true rfl⟩) ⟨ro_blind, ro_pre hPc hKc⟩ rfl rfl hl.1 rfl (lv_room (Nat.le_of_ble_eq_true rfl)) d_Place_init_33 ⟨Nat.le_of_ble_eq_true rfl, Nat.le_of_ble_eq_true rfl⟩) hS (fun q _ h => h.elim) (fun q h => h.elim) (fun v33 _ t9 H33 locs ht hvm h33 hB hz1 hk1 hS => ?_)
  have hP := ro_keep hP hk1
  clear hPc hKc ht hvm hB hz1 hk1
  refine va_putF (D := (dC, dI)) (ci := 1) (v := .int v33) (ty := .int) (C := R_Place) (T := T_Place) (N := 5) hx hb hts i_Place t_Place t_Place_ok n_Place hown hK hP hD hS 0 rfl rfl 3 (by decide) (hts _ wd_325) (fun _ h9 => h9) rfl hin rfl (by decide +kernel) rfl rfl (Nat.le_of_ble_eq_true rfl) d_Place_init_36 (fun H36 locs hP hD hS => ?_)
  have hP : va_P (dC, dI) vwCl [(ho, .inr (1, [.int v6, .int v14, .int v22, .int v33, .int o5]))] H36 := hP
  have hD : va_D A [(ho, .inr (1, [.int v6, .int v14, .int v22, .int v33, .int o5]))] := hD
  refine lv_aload_n hx hb d_Place_init_39 rfl (lv_at hl 0 rfl) ?_
  refine lv_iload_n hx hb d_Place_init_40 rfl (lv_at hl 1 rfl) ?_
  have hPc := hP.sub (ws' := []) [] rfl
  have hKc := hK.sub (tys' := []) [] rfl
  refine va_calli (va_runS (As := [.int a1]) (rest := [.ref ho]) ⟨hx, hb, hml, hown, hts⟩ (c_quarterOf l dC dI a1 K g1 hKy) (aw_S 1 hts wd_318 wd_319 wd_13 wd_320 rfl rfl (by decide +kernel) ⟨Nat.le_of_ble_eq_true rfl, Nat.le_of_ble_eq_true rfl⟩) ⟨ro_blind, ro_pre hPc hKc⟩ rfl rfl hl.1 rfl (lv_room (Nat.le_of_ble_eq_true rfl)) d_Place_init_41 ⟨Nat.le_of_ble_eq_true rfl, Nat.le_of_ble_eq_true rfl⟩) hS (fun q _ h => h.elim) (fun q h => h.elim) (fun v41 _ t9 H41 locs ht hvm h41 hB hz1 hk1 hS => ?_)
  have hP := ro_keep hP hk1
  clear hPc hKc ht hvm hB hz1 hk1
  refine va_putF (D := (dC, dI)) (ci := 1) (v := .int v41) (ty := .int) (C := R_Place) (T := T_Place) (N := 5) hx hb hts i_Place t_Place t_Place_ok n_Place hown hK hP hD hS 0 rfl rfl 4 (by decide) (hts _ wd_327) (fun _ h9 => h9) rfl hin rfl (by decide +kernel) rfl rfl (Nat.le_of_ble_eq_true rfl) d_Place_init_44 (fun H44 locs hP hD hS => ?_)
  have hP : va_P (dC, dI) vwCl [(ho, .inr (1, [.int v6, .int v14, .int v22, .int v33, .int v41]))] H44 := hP
  have hD : va_D A [(ho, .inr (1, [.int v6, .int v14, .int v22, .int v33, .int v41]))] := hD
  have hpost : (v6 : Int32).toInt = K / 8192 % 512 ∧ (v14 : Int32).toInt = K / 4194304 % 512 ∧ (v22 : Int32).toInt = K / 256 % 32 ∧ (v33 : Int32).toInt = 17 + 4 * (K / 4 % 64) ∧ (v41 : Int32).toInt = K % 4 := by
    exact ⟨h6, h14, h22, h33, h41⟩
  have hP9 := hP.sub (ws' := [(ho, .inr (1, [.int v6, .int v14, .int v22, .int v33, .int v41]))]) [0] rfl
  have hD9 := hD.sub (ws' := [(ho, .inr (1, [.int v6, .int v14, .int v22, .int v33, .int v41]))]) [0] (by decide) rfl
  have hK9 := hK.sub (tys' := []) [] rfl
  exact W.vret hx hb hr (fun t ht hW => ⟨⟨(v6, v14, v22, v33, v41), rfl, hpost, by rw [ht]; exact hP9, va_K.moved hW.alike hK9, hD9⟩, hS.F ht⟩) hS.2.2 d_Place_init_47

set_option maxHeartbeats 4000000 in
set_option maxRecDepth 100000 in
theorem c_initList (l : Launch) (dC : Nat → ClassId) (dI : Nat → Nat → Nat) (sz : Nat) (al : Nat) (cnt : Int32) : Met l y_List_init (.code y_List_init b_List_init 1 none :: allw) ({ frames := 1, cells := 2, slots := 600, locals := 24 }) (va_Pc [.ref al] (rw_B (dC, dI) vwCl [(al, .inr (2, [.null, .null, .int cnt]))] [] sz)) (va_Qv (fun (u : Nat × Nat × ClassId × ClassId) => True) (fun u t => rw_E (dC, dI) vwCl [(al, .inr (2, [.ref u.1, .ref u.2.1, .int cnt])), (u.1, .inl (u.2.2.1, 300, .inl (fun _ => 0))), (u.2.1, .inl (u.2.2.2, 300, .inl (fun _ => 0)))] [(u.2.2.1, .int), (u.2.2.2, .int)] (va_A [(al, .inr (2, [.null, .null, .int cnt]))] sz) t) (va_A [(al, .inr (2, [.null, .null, .int cnt]))] sz)) 2 600 (va_A [(al, .inr (2, [.null, .null, .int cnt]))] sz) := by
  refine Met.ofW (cc := b_List_init) (maxL := 1) (ret := none) (by decide) rfl ?_
  intro p e s m args below meth c s₁ B hml hv
  obtain ⟨rfl, hsz, hP, hK, hD0⟩ := hv
  have hx := B.exec
  have hb := B.bytes
  have hr := B.returns
  have hts : ∀ w ∈ allw, w.before _ s = true := fun w h => atoms_spec (ws := .code y_List_init b_List_init 1 none :: allw) B.pre w (List.mem_cons_of_mem _ h)
  have hown : s.vm.findClass R_List = some m.cls := findClass_of_methodNamed B.named
  have hlocks := B.notSynchronized
  have hin : meth.name = "<init>" := (name_of_methodNamed B.named B.method).1
  subst hsz
  have hD := hD0.self (sz := s.heap.size)
  generalize hAe : va_A [(al, .inr (2, [.null, .null, .int cnt]))] s.heap.size = A at hD ⊢
  have hA : ∀ q : Nat, s.heap.size ≤ q → A q := fun q h => by rw [← hAe]; exact Or.inr h
  have hS : va_S A s.heap s.heap [] := va_S.rf
  have hP : va_P (dC, dI) vwCl [(al, .inr (2, [.null, .null, .int cnt]))] s.heap := hP
  have hl := lv_entry ([.ref al]) (n := 1) (Nat.le_of_ble_eq_true rfl)
  rw [lg_entry_eq]
  generalize (lg_sl ([.ref al]) ++ List.replicate (1 - (lg_sl ([.ref al])).length) Slot.unset).toArray = ls at hl ⊢
  have hl : lv_has ls 1 [(0, .ref al)] := hl
  refine lv_aload_n hx hb d_List_init_0 rfl (lv_at hl 0 rfl) ?_
  refine W.objInit hx hb hown (hts _ wd_64) (hts _ wd_22) (hts _ wd_23) rfl (by rw [hml]; exact hl.1) rfl d_List_init_1 (Nat.le_of_ble_eq_true rfl) (Nat.le_of_ble_eq_true rfl) ?_
  refine W.eq (g2 := F0 m 4 ls []) rfl ?_
  refine lv_aload_n hx hb d_List_init_4 rfl (lv_at hl 0 rfl) ?_
  refine lv_sipush (v := 300) hx hb d_List_init_5 (by decide) ?_
  refine va_newa (atype := .int) (N' := 300) (a0 := (300, .inl (fun _ => 0))) (ty := .int) hx hb (hts _ wd_58) rfl hK hP hD hS hA (fun _ => rfl) (by decide) (by decide) (by decide) (Nat.le_of_ble_eq_true rfl) (Nat.le_of_ble_eq_true rfl) d_List_init_8 (fun q8 cA8 H8 hK hP hD hS => ?_)
  have hK : va_K (dC, dI) vwCl [(cA8, .int)] s := hK
  have hP : va_P (dC, dI) vwCl [(al, .inr (2, [.null, .null, .int cnt])), (q8, .inl (cA8, 300, .inl (fun _ => 0)))] H8 := hP
  have hD : va_D A [(al, .inr (2, [.null, .null, .int cnt])), (q8, .inl (cA8, 300, .inl (fun _ => 0)))] := hD
  refine W.widen (k := 1) (n := 300) (by decide) (by decide) ?_
  refine va_putF (D := (dC, dI)) (ci := 2) (v := .ref q8) (ty := .array .int) (C := R_List) (T := T_List) (N := 3) hx hb hts i_List t_List t_List_ok n_List hown hK hP hD hS 0 rfl rfl 0 (by decide) (hts _ wd_65) (fun _ h9 => h9) rfl hin rfl (by decide +kernel) rfl rfl (Nat.le_of_ble_eq_true rfl) d_List_init_10 (fun H10 locs hP hD hS => ?_)
  have hP : va_P (dC, dI) vwCl [(al, .inr (2, [.ref q8, .null, .int cnt])), (q8, .inl (cA8, 300, .inl (fun _ => 0)))] H10 := hP
  have hD : va_D A [(al, .inr (2, [.ref q8, .null, .int cnt])), (q8, .inl (cA8, 300, .inl (fun _ => 0)))] := hD
  refine lv_aload_n hx hb d_List_init_13 rfl (lv_at hl 0 rfl) ?_
  refine lv_sipush (v := 300) hx hb d_List_init_14 (by decide) ?_
  refine va_newa (atype := .int) (N' := 300) (a0 := (300, .inl (fun _ => 0))) (ty := .int) hx hb (hts _ wd_58) rfl hK hP hD hS hA (fun _ => rfl) (by decide) (by decide) (by decide) (Nat.le_of_ble_eq_true rfl) (Nat.le_of_ble_eq_true rfl) d_List_init_17 (fun q17 cA17 H17 hK hP hD hS => ?_)
  have hK : va_K (dC, dI) vwCl [(cA8, .int), (cA17, .int)] s := hK
  have hP : va_P (dC, dI) vwCl [(al, .inr (2, [.ref q8, .null, .int cnt])), (q8, .inl (cA8, 300, .inl (fun _ => 0))), (q17, .inl (cA17, 300, .inl (fun _ => 0)))] H17 := hP
  have hD : va_D A [(al, .inr (2, [.ref q8, .null, .int cnt])), (q8, .inl (cA8, 300, .inl (fun _ => 0))), (q17, .inl (cA17, 300, .inl (fun _ => 0)))] := hD
  refine W.widen (k := 2) (n := 600) (by decide) (by decide) ?_
  refine va_putF (D := (dC, dI)) (ci := 2) (v := .ref q17) (ty := .array .int) (C := R_List) (T := T_List) (N := 3) hx hb hts i_List t_List t_List_ok n_List hown hK hP hD hS 0 rfl rfl 1 (by decide) (hts _ wd_67) (fun _ h9 => h9) rfl hin rfl (by decide +kernel) rfl rfl (Nat.le_of_ble_eq_true rfl) d_List_init_19 (fun H19 locs hP hD hS => ?_)
  have hP : va_P (dC, dI) vwCl [(al, .inr (2, [.ref q8, .ref q17, .int cnt])), (q8, .inl (cA8, 300, .inl (fun _ => 0))), (q17, .inl (cA17, 300, .inl (fun _ => 0)))] H19 := hP
  have hD : va_D A [(al, .inr (2, [.ref q8, .ref q17, .int cnt])), (q8, .inl (cA8, 300, .inl (fun _ => 0))), (q17, .inl (cA17, 300, .inl (fun _ => 0)))] := hD
  have hpost : True := by
    trivial
  have hP9 := hP.sub (ws' := [(al, .inr (2, [.ref q8, .ref q17, .int cnt])), (q8, .inl (cA8, 300, .inl (fun _ => 0))), (q17, .inl (cA17, 300, .inl (fun _ => 0)))]) [0, 1, 2] rfl
  have hD9 := hD.sub (ws' := [(al, .inr (2, [.ref q8, .ref q17, .int cnt])), (q8, .inl (cA8, 300, .inl (fun _ => 0))), (q17, .inl (cA17, 300, .inl (fun _ => 0)))]) [0, 1, 2] (by decide) rfl
  have hK9 := hK.sub (tys' := [(cA8, .int), (cA17, .int)]) [0, 1] rfl
  refine W.widen (k := 2) (n := 600) (by decide) (by decide) ?_
  exact W.vret hx hb hr (fun t ht hW => ⟨⟨(q8, q17, cA8, cA17), rfl, hpost, by rw [ht]; exact hP9, va_K.moved hW.alike hK9, hD9⟩, hS.F ht⟩) hS.2.2 d_List_init_22

set_option maxHeartbeats 4000000 in
set_option maxRecDepth 100000 in
theorem c_initPaper (l : Launch) (dC : Nat → ClassId) (dI : Nat → Nat → Nat) (sz : Nat) (hp : Nat) (pw ph psr : Int32) : Met l y_Paper_init (.code y_Paper_init b_Paper_init 1 none :: allw) ({ frames := 1, cells := 2, slots := 267265, locals := 24 }) (va_Pc [.ref hp] (rw_B (dC, dI) vwCl [(hp, .inr (0, [.int pw, .int ph, .null, .null, .int psr]))] [] sz)) (va_Qv (fun (u : Nat × Nat × ClassId × ClassId) => True) (fun u t => rw_E (dC, dI) vwCl [(hp, .inr (0, [.int 64, .int 64, .ref u.1, .ref u.2.1, .int psr])), (u.1, .inl (u.2.2.1, 4096, .inr (.inl (fun _ => 0)))), (u.2.1, .inl (u.2.2.2, 263169, .inl (fun _ => 0)))] [(u.2.2.1, .long), (u.2.2.2, .int)] (va_A [(hp, .inr (0, [.int pw, .int ph, .null, .null, .int psr]))] sz) t) (va_A [(hp, .inr (0, [.int pw, .int ph, .null, .null, .int psr]))] sz)) 2 267265 (va_A [(hp, .inr (0, [.int pw, .int ph, .null, .null, .int psr]))] sz) := by
  refine Met.ofW (cc := b_Paper_init) (maxL := 1) (ret := none) (by decide) rfl ?_
  intro p e s m args below meth c s₁ B hml hv
  obtain ⟨rfl, hsz, hP, hK, hD0⟩ := hv
  have hx := B.exec
  have hb := B.bytes
  have hr := B.returns
  have hts : ∀ w ∈ allw, w.before _ s = true := fun w h => atoms_spec (ws := .code y_Paper_init b_Paper_init 1 none :: allw) B.pre w (List.mem_cons_of_mem _ h)
  have hown : s.vm.findClass R_Paper = some m.cls := findClass_of_methodNamed B.named
  have hlocks := B.notSynchronized
  have hin : meth.name = "<init>" := (name_of_methodNamed B.named B.method).1
  subst hsz
  have hD := hD0.self (sz := s.heap.size)
  generalize hAe : va_A [(hp, .inr (0, [.int pw, .int ph, .null, .null, .int psr]))] s.heap.size = A at hD ⊢
  have hA : ∀ q : Nat, s.heap.size ≤ q → A q := fun q h => by rw [← hAe]; exact Or.inr h
  have hS : va_S A s.heap s.heap [] := va_S.rf
  have hP : va_P (dC, dI) vwCl [(hp, .inr (0, [.int pw, .int ph, .null, .null, .int psr]))] s.heap := hP
  have hl := lv_entry ([.ref hp]) (n := 1) (Nat.le_of_ble_eq_true rfl)
  rw [lg_entry_eq]
  generalize (lg_sl ([.ref hp]) ++ List.replicate (1 - (lg_sl ([.ref hp])).length) Slot.unset).toArray = ls at hl ⊢
  have hl : lv_has ls 1 [(0, .ref hp)] := hl
  refine lv_aload_n hx hb d_Paper_init_0 rfl (lv_at hl 0 rfl) ?_
  refine W.objInit hx hb hown (hts _ wd_35) (hts _ wd_22) (hts _ wd_23) rfl (by rw [hml]; exact hl.1) rfl d_Paper_init_1 (Nat.le_of_ble_eq_true rfl) (Nat.le_of_ble_eq_true rfl) ?_
  refine W.eq (g2 := F0 m 4 ls []) rfl ?_
  refine lv_aload_n hx hb d_Paper_init_4 rfl (lv_at hl 0 rfl) ?_
  refine lv_bipush (v := 64) hx hb d_Paper_init_5 (by decide) ?_
  refine va_put (D := (dC, dI)) (ci := 0) (v := .int 64) (ty := .int) (C := R_Paper) (T := T_Paper) (N := 5) hx hb hts i_Paper t_Paper t_Paper_ok n_Paper hown hK hP hD hS 0 rfl rfl 0 (by decide) (hts _ wd_37) (fun _ h9 => h9) rfl (by decide +kernel) rfl rfl (Nat.le_of_ble_eq_true rfl) d_Paper_init_7 (fun H7 locs hP hD hS => ?_)
  have hP : va_P (dC, dI) vwCl [(hp, .inr (0, [.int 64, .int ph, .null, .null, .int psr]))] H7 := hP
  have hD : va_D A [(hp, .inr (0, [.int 64, .int ph, .null, .null, .int psr]))] := hD
  refine lv_aload_n hx hb d_Paper_init_10 rfl (lv_at hl 0 rfl) ?_
  refine lv_bipush (v := 64) hx hb d_Paper_init_11 (by decide) ?_
  refine va_put (D := (dC, dI)) (ci := 0) (v := .int 64) (ty := .int) (C := R_Paper) (T := T_Paper) (N := 5) hx hb hts i_Paper t_Paper t_Paper_ok n_Paper hown hK hP hD hS 0 rfl rfl 1 (by decide) (hts _ wd_40) (fun _ h9 => h9) rfl (by decide +kernel) rfl rfl (Nat.le_of_ble_eq_true rfl) d_Paper_init_13 (fun H13 locs hP hD hS => ?_)
  have hP : va_P (dC, dI) vwCl [(hp, .inr (0, [.int 64, .int 64, .null, .null, .int psr]))] H13 := hP
  have hD : va_D A [(hp, .inr (0, [.int 64, .int 64, .null, .null, .int psr]))] := hD
  refine lv_aload_n hx hb d_Paper_init_16 rfl (lv_at hl 0 rfl) ?_
  refine lv_sipush (v := 4096) hx hb d_Paper_init_17 (by decide) ?_
  refine va_newa (atype := .long) (N' := 4096) (a0 := (4096, .inr (.inl (fun _ => 0)))) (ty := .long) hx hb (hts _ wd_57) rfl hK hP hD hS hA (fun _ => rfl) (by decide) (by decide) (by decide) (Nat.le_of_ble_eq_true rfl) (Nat.le_of_ble_eq_true rfl) d_Paper_init_20 (fun q20 cA20 H20 hK hP hD hS => ?_)
  have hK : va_K (dC, dI) vwCl [(cA20, .long)] s := hK
  have hP : va_P (dC, dI) vwCl [(hp, .inr (0, [.int 64, .int 64, .null, .null, .int psr])), (q20, .inl (cA20, 4096, .inr (.inl (fun _ => 0))))] H20 := hP
  have hD : va_D A [(hp, .inr (0, [.int 64, .int 64, .null, .null, .int psr])), (q20, .inl (cA20, 4096, .inr (.inl (fun _ => 0))))] := hD
  refine W.widen (k := 1) (n := 4096) (by decide) (by decide) ?_
  refine va_putF (D := (dC, dI)) (ci := 0) (v := .ref q20) (ty := .array .long) (C := R_Paper) (T := T_Paper) (N := 5) hx hb hts i_Paper t_Paper t_Paper_ok n_Paper hown hK hP hD hS 0 rfl rfl 2 (by decide) (hts _ wd_43) (fun _ h9 => h9) rfl hin rfl (by decide +kernel) rfl rfl (Nat.le_of_ble_eq_true rfl) d_Paper_init_22 (fun H22 locs hP hD hS => ?_)
  have hP : va_P (dC, dI) vwCl [(hp, .inr (0, [.int 64, .int 64, .ref q20, .null, .int psr])), (q20, .inl (cA20, 4096, .inr (.inl (fun _ => 0))))] H22 := hP
  have hD : va_D A [(hp, .inr (0, [.int 64, .int 64, .ref q20, .null, .int psr])), (q20, .inl (cA20, 4096, .inr (.inl (fun _ => 0))))] := hD
  refine lv_aload_n hx hb d_Paper_init_25 rfl (lv_at hl 0 rfl) ?_
  refine lv_ldc (v := 263169) hx hb hown (hts _ wd_36) d_Paper_init_26 ?_
  refine va_newa (atype := .int) (N' := 263169) (a0 := (263169, .inl (fun _ => 0))) (ty := .int) hx hb (hts _ wd_58) rfl hK hP hD hS hA (fun _ => rfl) (by decide) (by decide) (by decide) (Nat.le_of_ble_eq_true rfl) (Nat.le_of_ble_eq_true rfl) d_Paper_init_28 (fun q28 cA28 H28 hK hP hD hS => ?_)
  have hK : va_K (dC, dI) vwCl [(cA20, .long), (cA28, .int)] s := hK
  have hP : va_P (dC, dI) vwCl [(hp, .inr (0, [.int 64, .int 64, .ref q20, .null, .int psr])), (q20, .inl (cA20, 4096, .inr (.inl (fun _ => 0)))), (q28, .inl (cA28, 263169, .inl (fun _ => 0)))] H28 := hP
  have hD : va_D A [(hp, .inr (0, [.int 64, .int 64, .ref q20, .null, .int psr])), (q20, .inl (cA20, 4096, .inr (.inl (fun _ => 0)))), (q28, .inl (cA28, 263169, .inl (fun _ => 0)))] := hD
  refine W.widen (k := 2) (n := 267265) (by decide) (by decide) ?_
  refine va_putF (D := (dC, dI)) (ci := 0) (v := .ref q28) (ty := .array .int) (C := R_Paper) (T := T_Paper) (N := 5) hx hb hts i_Paper t_Paper t_Paper_ok n_Paper hown hK hP hD hS 0 rfl rfl 3 (by decide) (hts _ wd_44) (fun _ h9 => h9) rfl hin rfl (by decide +kernel) rfl rfl (Nat.le_of_ble_eq_true rfl) d_Paper_init_30 (fun H30 locs hP hD hS => ?_)
  have hP : va_P (dC, dI) vwCl [(hp, .inr (0, [.int 64, .int 64, .ref q20, .ref q28, .int psr])), (q20, .inl (cA20, 4096, .inr (.inl (fun _ => 0)))), (q28, .inl (cA28, 263169, .inl (fun _ => 0)))] H30 := hP
  have hD : va_D A [(hp, .inr (0, [.int 64, .int 64, .ref q20, .ref q28, .int psr])), (q20, .inl (cA20, 4096, .inr (.inl (fun _ => 0)))), (q28, .inl (cA28, 263169, .inl (fun _ => 0)))] := hD
  have hpost : True := by
    trivial
  have hP9 := hP.sub (ws' := [(hp, .inr (0, [.int 64, .int 64, .ref q20, .ref q28, .int psr])), (q20, .inl (cA20, 4096, .inr (.inl (fun _ => 0)))), (q28, .inl (cA28, 263169, .inl (fun _ => 0)))]) [0, 1, 2] rfl
  have hD9 := hD.sub (ws' := [(hp, .inr (0, [.int 64, .int 64, .ref q20, .ref q28, .int psr])), (q20, .inl (cA20, 4096, .inr (.inl (fun _ => 0)))), (q28, .inl (cA28, 263169, .inl (fun _ => 0)))]) [0, 1, 2] (by decide) rfl
  have hK9 := hK.sub (tys' := [(cA20, .long), (cA28, .int)]) [0, 1] rfl
  refine W.widen (k := 2) (n := 267265) (by decide) (by decide) ?_
  exact W.vret hx hb hr (fun t ht hW => ⟨⟨(q20, q28, cA20, cA28), rfl, hpost, by rw [ht]; exact hP9, va_K.moved hW.alike hK9, hD9⟩, hS.F ht⟩) hS.2.2 d_Paper_init_33
