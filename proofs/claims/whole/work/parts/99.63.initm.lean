set_option maxHeartbeats 4000000 in
set_option maxRecDepth 100000 in
theorem m_init (l : Launch) (dC : Nat → ClassId) (dI : Nat → Nat → Nat) (sz : Nat) (mo : Nat) : Met l y_Model_init (.code y_Model_init b_Model_init 1 none :: allw) ({ frames := 1, cells := 5, slots := 531013, locals := 24 }) (va_Pc [.ref mo] (rw_B (dC, dI) vwCl [(mo, .inr (5, [.int 0, .int 0, .int 0, .null, .null, .null, .int 0, .null, .int 0, .null, .int 0]))] [] sz)) (va_Qv (fun (u : Nat × Nat × Nat × Nat × Nat × ClassId × ClassId × ClassId × ClassId × ClassId) => True) (fun u t => rw_E (dC, dI) vwCl [(mo, .inr (5, [.int 0, .int 64, .int 64, .ref u.1, .ref u.2.1, .ref u.2.2.1, .int 0, .ref u.2.2.2.1, .int 0, .ref u.2.2.2.2.1, .int 0])), (u.1, .inl (u.2.2.2.2.2.1, 262144, .inl (fun _ => 0))), (u.2.1, .inl (u.2.2.2.2.2.2.1, 263169, .inl (fun _ => 0))), (u.2.2.1, .inl (u.2.2.2.2.2.2.2.1, 2100, .inl (fun _ => 0))), (u.2.2.2.1, .inl (u.2.2.2.2.2.2.2.2.1, 1800, .inl (fun _ => 0))), (u.2.2.2.2.1, .inl (u.2.2.2.2.2.2.2.2.2, 1800, .inl (fun _ => 0)))] [(u.2.2.2.2.2.1, .boolean), (u.2.2.2.2.2.2.1, .int), (u.2.2.2.2.2.2.2.1, .int), (u.2.2.2.2.2.2.2.2.1, .int), (u.2.2.2.2.2.2.2.2.2, .int)] (va_A [(mo, .inr (5, [.int 0, .int 0, .int 0, .null, .null, .null, .int 0, .null, .int 0, .null, .int 0]))] sz) t) (va_A [(mo, .inr (5, [.int 0, .int 0, .int 0, .null, .null, .null, .int 0, .null, .int 0, .null, .int 0]))] sz)) 5 531013 (va_A [(mo, .inr (5, [.int 0, .int 0, .int 0, .null, .null, .null, .int 0, .null, .int 0, .null, .int 0]))] sz) := by
  refine Met.ofW (cc := b_Model_init) (maxL := 1) (ret := none) (by decide) rfl ?_
  intro p e s m args below meth c s₁ B hml hv
  obtain ⟨rfl, hsz, hP, hK, hD0⟩ := hv
  have hx := B.exec
  have hb := B.bytes
  have hr := B.returns
  have hts : ∀ w ∈ allw, w.before _ s = true := fun w h => atoms_spec (ws := .code y_Model_init b_Model_init 1 none :: allw) B.pre w (List.mem_cons_of_mem _ h)
  have hown : s.vm.findClass R_Model = some m.cls := findClass_of_methodNamed B.named
  have hlocks := B.notSynchronized
  have hin : meth.name = "<init>" := (name_of_methodNamed B.named B.method).1
  subst hsz
  have hD := hD0.self (sz := s.heap.size)
  generalize hAe : va_A [(mo, .inr (5, [.int 0, .int 0, .int 0, .null, .null, .null, .int 0, .null, .int 0, .null, .int 0]))] s.heap.size = A at hD ⊢
  have hA : ∀ q : Nat, s.heap.size ≤ q → A q := fun q h => by rw [← hAe]; exact Or.inr h
  have hS : va_S A s.heap s.heap [] := va_S.rf
  have hP : va_P (dC, dI) vwCl [(mo, .inr (5, [.int 0, .int 0, .int 0, .null, .null, .null, .int 0, .null, .int 0, .null, .int 0]))] s.heap := hP
  have hl := lv_entry ([.ref mo]) (n := 1) (Nat.le_of_ble_eq_true rfl)
  rw [lg_entry_eq]
  generalize (lg_sl ([.ref mo]) ++ List.replicate (1 - (lg_sl ([.ref mo])).length) Slot.unset).toArray = ls at hl ⊢
  have hl : lv_has ls 1 [(0, .ref mo)] := hl
  refine lv_aload_n hx hb d_Model_init_0 rfl (lv_at hl 0 rfl) ?_
  refine W.objInit hx hb hown (hts _ wd_562) (hts _ wd_22) (hts _ wd_23) rfl (by rw [hml]; exact hl.1) rfl d_Model_init_1 (Nat.le_of_ble_eq_true rfl) (Nat.le_of_ble_eq_true rfl) ?_
  refine W.eq (g2 := F0 m 4 ls []) rfl ?_
  refine lv_aload_n hx hb d_Model_init_4 rfl (lv_at hl 0 rfl) ?_
  refine lv_bipush (v := 64) hx hb d_Model_init_5 (by decide) ?_
  refine va_put (D := (dC, dI)) (ci := 5) (v := .int 64) (ty := .int) (C := R_Model) (T := T_Model) (N := 11) hx hb hts i_Model t_Model t_Model_ok n_Model hown hK hP hD hS 0 rfl rfl 1 (by decide) (hts _ wd_566) (fun _ h9 => h9) rfl (by decide +kernel) rfl rfl (Nat.le_of_ble_eq_true rfl) d_Model_init_7 (fun H7 locs hP hD hS => ?_)
  have hP : va_P (dC, dI) vwCl [(mo, .inr (5, [.int 0, .int 64, .int 0, .null, .null, .null, .int 0, .null, .int 0, .null, .int 0]))] H7 := hP
  have hD : va_D A [(mo, .inr (5, [.int 0, .int 64, .int 0, .null, .null, .null, .int 0, .null, .int 0, .null, .int 0]))] := hD
  refine lv_aload_n hx hb d_Model_init_10 rfl (lv_at hl 0 rfl) ?_
  refine lv_bipush (v := 64) hx hb d_Model_init_11 (by decide) ?_
  refine va_put (D := (dC, dI)) (ci := 5) (v := .int 64) (ty := .int) (C := R_Model) (T := T_Model) (N := 11) hx hb hts i_Model t_Model t_Model_ok n_Model hown hK hP hD hS 0 rfl rfl 2 (by decide) (hts _ wd_567) (fun _ h9 => h9) rfl (by decide +kernel) rfl rfl (Nat.le_of_ble_eq_true rfl) d_Model_init_13 (fun H13 locs hP hD hS => ?_)
  have hP : va_P (dC, dI) vwCl [(mo, .inr (5, [.int 0, .int 64, .int 64, .null, .null, .null, .int 0, .null, .int 0, .null, .int 0]))] H13 := hP
  have hD : va_D A [(mo, .inr (5, [.int 0, .int 64, .int 64, .null, .null, .null, .int 0, .null, .int 0, .null, .int 0]))] := hD
  refine lv_aload_n hx hb d_Model_init_16 rfl (lv_at hl 0 rfl) ?_
  refine lv_ldc (v := 262144) hx hb hown (hts _ wd_563) d_Model_init_17 ?_
  refine va_newa (atype := .boolean) (N' := 262144) (a0 := (262144, .inl (fun _ => 0))) (ty := .boolean) hx hb (hts _ wd_599) rfl hK hP hD hS hA (fun _ => rfl) (by decide) (by decide) (by decide) (Nat.le_of_ble_eq_true rfl) (Nat.le_of_ble_eq_true rfl) d_Model_init_19 (fun q19 cA19 H19 hK hP hD hS => ?_)
  have hK : va_K (dC, dI) vwCl [(cA19, .boolean)] s := hK
  have hP : va_P (dC, dI) vwCl [(mo, .inr (5, [.int 0, .int 64, .int 64, .null, .null, .null, .int 0, .null, .int 0, .null, .int 0])), (q19, .inl (cA19, 262144, .inl (fun _ => 0)))] H19 := hP
  have hD : va_D A [(mo, .inr (5, [.int 0, .int 64, .int 64, .null, .null, .null, .int 0, .null, .int 0, .null, .int 0])), (q19, .inl (cA19, 262144, .inl (fun _ => 0)))] := hD
  refine W.widen (k := 1) (n := 262144) (by decide) (by decide) ?_
  refine va_putF (D := (dC, dI)) (ci := 5) (v := .ref q19) (ty := .array .boolean) (C := R_Model) (T := T_Model) (N := 11) hx hb hts i_Model t_Model t_Model_ok n_Model hown hK hP hD hS 0 rfl rfl 3 (by decide) (hts _ wd_568) (fun _ h9 => h9) rfl hin rfl (by decide +kernel) rfl rfl (Nat.le_of_ble_eq_true rfl) d_Model_init_21 (fun H21 locs hP hD hS => ?_)
  have hP : va_P (dC, dI) vwCl [(mo, .inr (5, [.int 0, .int 64, .int 64, .ref q19, .null, .null, .int 0, .null, .int 0, .null, .int 0])), (q19, .inl (cA19, 262144, .inl (fun _ => 0)))] H21 := hP
  have hD : va_D A [(mo, .inr (5, [.int 0, .int 64, .int 64, .ref q19, .null, .null, .int 0, .null, .int 0, .null, .int 0])), (q19, .inl (cA19, 262144, .inl (fun _ => 0)))] := hD
  refine lv_aload_n hx hb d_Model_init_24 rfl (lv_at hl 0 rfl) ?_
  refine lv_ldc (v := 263169) hx hb hown (hts _ wd_564) d_Model_init_25 ?_
  refine va_newa (atype := .int) (N' := 263169) (a0 := (263169, .inl (fun _ => 0))) (ty := .int) hx hb (hts _ wd_58) rfl hK hP hD hS hA (fun _ => rfl) (by decide) (by decide) (by decide) (Nat.le_of_ble_eq_true rfl) (Nat.le_of_ble_eq_true rfl) d_Model_init_27 (fun q27 cA27 H27 hK hP hD hS => ?_)
  have hK : va_K (dC, dI) vwCl [(cA19, .boolean), (cA27, .int)] s := hK
  have hP : va_P (dC, dI) vwCl [(mo, .inr (5, [.int 0, .int 64, .int 64, .ref q19, .null, .null, .int 0, .null, .int 0, .null, .int 0])), (q19, .inl (cA19, 262144, .inl (fun _ => 0))), (q27, .inl (cA27, 263169, .inl (fun _ => 0)))] H27 := hP
  have hD : va_D A [(mo, .inr (5, [.int 0, .int 64, .int 64, .ref q19, .null, .null, .int 0, .null, .int 0, .null, .int 0])), (q19, .inl (cA19, 262144, .inl (fun _ => 0))), (q27, .inl (cA27, 263169, .inl (fun _ => 0)))] := hD
  refine W.widen (k := 2) (n := 525313) (by decide) (by decide) ?_
  refine va_putF (D := (dC, dI)) (ci := 5) (v := .ref q27) (ty := .array .int) (C := R_Model) (T := T_Model) (N := 11) hx hb hts i_Model t_Model t_Model_ok n_Model hown hK hP hD hS 0 rfl rfl 4 (by decide) (hts _ wd_569) (fun _ h9 => h9) rfl hin rfl (by decide +kernel) rfl rfl (Nat.le_of_ble_eq_true rfl) d_Model_init_29 (fun H29 locs hP hD hS => ?_)
  have hP : va_P (dC, dI) vwCl [(mo, .inr (5, [.int 0, .int 64, .int 64, .ref q19, .ref q27, .null, .int 0, .null, .int 0, .null, .int 0])), (q19, .inl (cA19, 262144, .inl (fun _ => 0))), (q27, .inl (cA27, 263169, .inl (fun _ => 0)))] H29 := hP
  have hD : va_D A [(mo, .inr (5, [.int 0, .int 64, .int 64, .ref q19, .ref q27, .null, .int 0, .null, .int 0, .null, .int 0])), (q19, .inl (cA19, 262144, .inl (fun _ => 0))), (q27, .inl (cA27, 263169, .inl (fun _ => 0)))] := hD
  refine lv_aload_n hx hb d_Model_init_32 rfl (lv_at hl 0 rfl) ?_
  refine lv_sipush (v := 2100) hx hb d_Model_init_33 (by decide) ?_
  refine va_newa (atype := .int) (N' := 2100) (a0 := (2100, .inl (fun _ => 0))) (ty := .int) hx hb (hts _ wd_58) rfl hK hP hD hS hA (fun _ => rfl) (by decide) (by decide) (by decide) (Nat.le_of_ble_eq_true rfl) (Nat.le_of_ble_eq_true rfl) d_Model_init_36 (fun q36 cA36 H36 hK hP hD hS => ?_)
  have hK : va_K (dC, dI) vwCl [(cA19, .boolean), (cA27, .int), (cA36, .int)] s := hK
  have hP : va_P (dC, dI) vwCl [(mo, .inr (5, [.int 0, .int 64, .int 64, .ref q19, .ref q27, .null, .int 0, .null, .int 0, .null, .int 0])), (q19, .inl (cA19, 262144, .inl (fun _ => 0))), (q27, .inl (cA27, 263169, .inl (fun _ => 0))), (q36, .inl (cA36, 2100, .inl (fun _ => 0)))] H36 := hP
  have hD : va_D A [(mo, .inr (5, [.int 0, .int 64, .int 64, .ref q19, .ref q27, .null, .int 0, .null, .int 0, .null, .int 0])), (q19, .inl (cA19, 262144, .inl (fun _ => 0))), (q27, .inl (cA27, 263169, .inl (fun _ => 0))), (q36, .inl (cA36, 2100, .inl (fun _ => 0)))] := hD
  refine W.widen (k := 3) (n := 527413) (by decide) (by decide) ?_
  refine va_putF (D := (dC, dI)) (ci := 5) (v := .ref q36) (ty := .array .int) (C := R_Model) (T := T_Model) (N := 11) hx hb hts i_Model t_Model t_Model_ok n_Model hown hK hP hD hS 0 rfl rfl 5 (by decide) (hts _ wd_570) (fun _ h9 => h9) rfl hin rfl (by decide +kernel) rfl rfl (Nat.le_of_ble_eq_true rfl) d_Model_init_38 (fun H38 locs hP hD hS => ?_)
  have hP : va_P (dC, dI) vwCl [(mo, .inr (5, [.int 0, .int 64, .int 64, .ref q19, .ref q27, .ref q36, .int 0, .null, .int 0, .null, .int 0])), (q19, .inl (cA19, 262144, .inl (fun _ => 0))), (q27, .inl (cA27, 263169, .inl (fun _ => 0))), (q36, .inl (cA36, 2100, .inl (fun _ => 0)))] H38 := hP
  have hD : va_D A [(mo, .inr (5, [.int 0, .int 64, .int 64, .ref q19, .ref q27, .ref q36, .int 0, .null, .int 0, .null, .int 0])), (q19, .inl (cA19, 262144, .inl (fun _ => 0))), (q27, .inl (cA27, 263169, .inl (fun _ => 0))), (q36, .inl (cA36, 2100, .inl (fun _ => 0)))] := hD
  refine lv_aload_n hx hb d_Model_init_41 rfl (lv_at hl 0 rfl) ?_
  refine lv_sipush (v := 1800) hx hb d_Model_init_42 (by decide) ?_
  refine va_newa (atype := .int) (N' := 1800) (a0 := (1800, .inl (fun _ => 0))) (ty := .int) hx hb (hts _ wd_58) rfl hK hP hD hS hA (fun _ => rfl) (by decide) (by decide) (by decide) (Nat.le_of_ble_eq_true rfl) (Nat.le_of_ble_eq_true rfl) d_Model_init_45 (fun q45 cA45 H45 hK hP hD hS => ?_)
  have hK : va_K (dC, dI) vwCl [(cA19, .boolean), (cA27, .int), (cA36, .int), (cA45, .int)] s := hK
  have hP : va_P (dC, dI) vwCl [(mo, .inr (5, [.int 0, .int 64, .int 64, .ref q19, .ref q27, .ref q36, .int 0, .null, .int 0, .null, .int 0])), (q19, .inl (cA19, 262144, .inl (fun _ => 0))), (q27, .inl (cA27, 263169, .inl (fun _ => 0))), (q36, .inl (cA36, 2100, .inl (fun _ => 0))), (q45, .inl (cA45, 1800, .inl (fun _ => 0)))] H45 := hP
  have hD : va_D A [(mo, .inr (5, [.int 0, .int 64, .int 64, .ref q19, .ref q27, .ref q36, .int 0, .null, .int 0, .null, .int 0])), (q19, .inl (cA19, 262144, .inl (fun _ => 0))), (q27, .inl (cA27, 263169, .inl (fun _ => 0))), (q36, .inl (cA36, 2100, .inl (fun _ => 0))), (q45, .inl (cA45, 1800, .inl (fun _ => 0)))] := hD
  refine W.widen (k := 4) (n := 529213) (by decide) (by decide) ?_
  refine va_putF (D := (dC, dI)) (ci := 5) (v := .ref q45) (ty := .array .int) (C := R_Model) (T := T_Model) (N := 11) hx hb hts i_Model t_Model t_Model_ok n_Model hown hK hP hD hS 0 rfl rfl 7 (by decide) (hts _ wd_572) (fun _ h9 => h9) rfl hin rfl (by decide +kernel) rfl rfl (Nat.le_of_ble_eq_true rfl) d_Model_init_47 (fun H47 locs hP hD hS => ?_)
  have hP : va_P (dC, dI) vwCl [(mo, .inr (5, [.int 0, .int 64, .int 64, .ref q19, .ref q27, .ref q36, .int 0, .ref q45, .int 0, .null, .int 0])), (q19, .inl (cA19, 262144, .inl (fun _ => 0))), (q27, .inl (cA27, 263169, .inl (fun _ => 0))), (q36, .inl (cA36, 2100, .inl (fun _ => 0))), (q45, .inl (cA45, 1800, .inl (fun _ => 0)))] H47 := hP
  have hD : va_D A [(mo, .inr (5, [.int 0, .int 64, .int 64, .ref q19, .ref q27, .ref q36, .int 0, .ref q45, .int 0, .null, .int 0])), (q19, .inl (cA19, 262144, .inl (fun _ => 0))), (q27, .inl (cA27, 263169, .inl (fun _ => 0))), (q36, .inl (cA36, 2100, .inl (fun _ => 0))), (q45, .inl (cA45, 1800, .inl (fun _ => 0)))] := hD
  refine lv_aload_n hx hb d_Model_init_50 rfl (lv_at hl 0 rfl) ?_
  refine lv_sipush (v := 1800) hx hb d_Model_init_51 (by decide) ?_
  refine va_newa (atype := .int) (N' := 1800) (a0 := (1800, .inl (fun _ => 0))) (ty := .int) hx hb (hts _ wd_58) rfl hK hP hD hS hA (fun _ => rfl) (by decide) (by decide) (by decide) (Nat.le_of_ble_eq_true rfl) (Nat.le_of_ble_eq_true rfl) d_Model_init_54 (fun q54 cA54 H54 hK hP hD hS => ?_)
  have hK : va_K (dC, dI) vwCl [(cA19, .boolean), (cA27, .int), (cA36, .int), (cA45, .int), (cA54, .int)] s := hK
  have hP : va_P (dC, dI) vwCl [(mo, .inr (5, [.int 0, .int 64, .int 64, .ref q19, .ref q27, .ref q36, .int 0, .ref q45, .int 0, .null, .int 0])), (q19, .inl (cA19, 262144, .inl (fun _ => 0))), (q27, .inl (cA27, 263169, .inl (fun _ => 0))), (q36, .inl (cA36, 2100, .inl (fun _ => 0))), (q45, .inl (cA45, 1800, .inl (fun _ => 0))), (q54, .inl (cA54, 1800, .inl (fun _ => 0)))] H54 := hP
  have hD : va_D A [(mo, .inr (5, [.int 0, .int 64, .int 64, .ref q19, .ref q27, .ref q36, .int 0, .ref q45, .int 0, .null, .int 0])), (q19, .inl (cA19, 262144, .inl (fun _ => 0))), (q27, .inl (cA27, 263169, .inl (fun _ => 0))), (q36, .inl (cA36, 2100, .inl (fun _ => 0))), (q45, .inl (cA45, 1800, .inl (fun _ => 0))), (q54, .inl (cA54, 1800, .inl (fun _ => 0)))] := hD
  refine W.widen (k := 5) (n := 531013) (by decide) (by decide) ?_
  refine va_putF (D := (dC, dI)) (ci := 5) (v := .ref q54) (ty := .array .int) (C := R_Model) (T := T_Model) (N := 11) hx hb hts i_Model t_Model t_Model_ok n_Model hown hK hP hD hS 0 rfl rfl 9 (by decide) (hts _ wd_574) (fun _ h9 => h9) rfl hin rfl (by decide +kernel) rfl rfl (Nat.le_of_ble_eq_true rfl) d_Model_init_56 (fun H56 locs hP hD hS => ?_)
  have hP : va_P (dC, dI) vwCl [(mo, .inr (5, [.int 0, .int 64, .int 64, .ref q19, .ref q27, .ref q36, .int 0, .ref q45, .int 0, .ref q54, .int 0])), (q19, .inl (cA19, 262144, .inl (fun _ => 0))), (q27, .inl (cA27, 263169, .inl (fun _ => 0))), (q36, .inl (cA36, 2100, .inl (fun _ => 0))), (q45, .inl (cA45, 1800, .inl (fun _ => 0))), (q54, .inl (cA54, 1800, .inl (fun _ => 0)))] H56 := hP
  have hD : va_D A [(mo, .inr (5, [.int 0, .int 64, .int 64, .ref q19, .ref q27, .ref q36, .int 0, .ref q45, .int 0, .ref q54, .int 0])), (q19, .inl (cA19, 262144, .inl (fun _ => 0))), (q27, .inl (cA27, 263169, .inl (fun _ => 0))), (q36, .inl (cA36, 2100, .inl (fun _ => 0))), (q45, .inl (cA45, 1800, .inl (fun _ => 0))), (q54, .inl (cA54, 1800, .inl (fun _ => 0)))] := hD
  have hpost : True := by
    trivial
  have hP9 := hP.sub (ws' := [(mo, .inr (5, [.int 0, .int 64, .int 64, .ref q19, .ref q27, .ref q36, .int 0, .ref q45, .int 0, .ref q54, .int 0])), (q19, .inl (cA19, 262144, .inl (fun _ => 0))), (q27, .inl (cA27, 263169, .inl (fun _ => 0))), (q36, .inl (cA36, 2100, .inl (fun _ => 0))), (q45, .inl (cA45, 1800, .inl (fun _ => 0))), (q54, .inl (cA54, 1800, .inl (fun _ => 0)))]) [0, 1, 2, 3, 4, 5] rfl
  have hD9 := hD.sub (ws' := [(mo, .inr (5, [.int 0, .int 64, .int 64, .ref q19, .ref q27, .ref q36, .int 0, .ref q45, .int 0, .ref q54, .int 0])), (q19, .inl (cA19, 262144, .inl (fun _ => 0))), (q27, .inl (cA27, 263169, .inl (fun _ => 0))), (q36, .inl (cA36, 2100, .inl (fun _ => 0))), (q45, .inl (cA45, 1800, .inl (fun _ => 0))), (q54, .inl (cA54, 1800, .inl (fun _ => 0)))]) [0, 1, 2, 3, 4, 5] (by decide) rfl
  have hK9 := hK.sub (tys' := [(cA19, .boolean), (cA27, .int), (cA36, .int), (cA45, .int), (cA54, .int)]) [0, 1, 2, 3, 4] rfl
  refine W.widen (k := 5) (n := 531013) (by decide) (by decide) ?_
  exact W.vret hx hb hr (fun t ht hW => ⟨⟨(q19, q27, q36, q45, q54, cA19, cA27, cA36, cA45, cA54), rfl, hpost, by rw [ht]; exact hP9, va_K.moved hW.alike hK9, hD9⟩, hS.F ht⟩) hS.2.2 d_Model_init_59
