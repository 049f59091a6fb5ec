set_option maxHeartbeats 4000000 in
set_option maxRecDepth 100000 in
theorem m_thrown (l : Launch) (dC : Nat → ClassId) (dI : Nat → Nat → Nat) (mo ad asu aru ast afo : Nat) (mth mw mh mro msd mmn : Int32) : Met l y_Model_thrown (.code y_Model_thrown b_Model_thrown 1 (some .int) :: allw) ({ frames := 0, cells := 0, slots := 0, locals := 0 }) (va_Pc [.ref mo] (ro_B (dC, dI) vwCl [(mo, .inr (5, [.int mth, .int mw, .int mh, .ref ad, .ref asu, .ref aru, .int mro, .ref ast, .int msd, .ref afo, .int mmn]))] [])) (va_Qi (fun (r : Int32) (_ : Unit) => r = mth) (fun _ _ => True) (fun _ => False)) 0 0 (fun _ => False) := by
  refine Met.ofW (cc := b_Model_thrown) (maxL := 1) (ret := (some .int)) (by decide) rfl ?_
  intro p e s m args below meth c s₁ B hml hv
  obtain ⟨rfl, hP, hK⟩ := hv
  have hx := B.exec
  have hb := B.bytes
  have hr := B.returns
  have hts : ∀ w ∈ allw, w.before _ s = true := fun w h => atoms_spec (ws := .code y_Model_thrown b_Model_thrown 1 (some .int) :: allw) B.pre w (List.mem_cons_of_mem _ h)
  have hown : s.vm.findClass R_Model = some m.cls := findClass_of_methodNamed B.named
  have hlocks := B.notSynchronized
  have hS : va_S (fun _ => False) s.heap s.heap [] := va_S.rf
  have hP : va_P (dC, dI) vwCl [(mo, .inr (5, [.int mth, .int mw, .int mh, .ref ad, .ref asu, .ref aru, .int mro, .ref ast, .int msd, .ref afo, .int mmn]))] s.heap := hP
  have hl := lv_entry ([.ref mo]) (n := 1) (Nat.le_of_ble_eq_true rfl)
  rw [lg_entry_eq]
  generalize (lg_sl ([.ref mo]) ++ List.replicate (1 - (lg_sl ([.ref mo])).length) Slot.unset).toArray = ls at hl ⊢
  have hl : lv_has ls 1 [(0, .ref mo)] := hl
  refine lv_aload_n hx hb d_Model_thrown_0 rfl (lv_at hl 0 rfl) ?_
  refine va_get (D := (dC, dI)) (ci := 5) (v := .int mth) (C := R_Model) (T := T_Model) (N := 11) hx hb hts i_Model hown hK hP 0 rfl rfl 0 (by decide) (hts _ wd_565) (fun _ h9 => h9) rfl d_Model_thrown_1 ?_
  have hpost : mth = mth := by
    rfl
  exact W.iret (v := mth) hx hb hr (fun t ht hW => ⟨⟨mth, (), rfl, hpost, trivial⟩, hS.F ht⟩) hS.2.2 d_Model_thrown_4

set_option maxHeartbeats 4000000 in
set_option maxRecDepth 100000 in
theorem m_isOn (l : Launch) (dC : Nat → ClassId) (dI : Nat → Nat → Nat) (mo ad asu aru ast afo : Nat) (mth mw mh mro msd mmn : Int32) (Wd Ht : Int) (hmw : mw.toInt = Wd) (hmh : mh.toInt = Ht) (hW1 : 1 ≤ Wd) (hW2 : Wd ≤ 512) (hH1 : 1 ≤ Ht) (hH2 : Ht ≤ 512) (a1 a2 : Int64) (x y : Int) (g1 : a1.toInt = x) (g2 : a2.toInt = y) : Met l y_Model_isOn (.code y_Model_isOn b_Model_isOn 5 (some .boolean) :: allw) ({ frames := 0, cells := 0, slots := 0, locals := 0 }) (va_Pc [.ref mo, .long a1, .long a2] (ro_B (dC, dI) vwCl [(mo, .inr (5, [.int mth, .int mw, .int mh, .ref ad, .ref asu, .ref aru, .int mro, .ref ast, .int msd, .ref afo, .int mmn]))] [])) (va_Qi (fun (r : Int32) (_ : Unit) => isB r (0 ≤ x ∧ x < Wd ∧ 0 ≤ y ∧ y < Ht)) (fun _ _ => True) (fun _ => False)) 0 0 (fun _ => False) := by
  refine Met.ofW (cc := b_Model_isOn) (maxL := 5) (ret := (some .boolean)) (by decide) rfl ?_
  intro p e s m args below meth c s₁ B hml hv
  obtain ⟨rfl, hP, hK⟩ := hv
  have hx := B.exec
  have hb := B.bytes
  have hr := B.returns
  have hts : ∀ w ∈ allw, w.before _ s = true := fun w h => atoms_spec (ws := .code y_Model_isOn b_Model_isOn 5 (some .boolean) :: allw) B.pre w (List.mem_cons_of_mem _ h)
  have hown : s.vm.findClass R_Model = some m.cls := findClass_of_methodNamed B.named
  have hlocks := B.notSynchronized
  have hS : va_S (fun _ => False) s.heap s.heap [] := va_S.rf
  have hP : va_P (dC, dI) vwCl [(mo, .inr (5, [.int mth, .int mw, .int mh, .ref ad, .ref asu, .ref aru, .int mro, .ref ast, .int msd, .ref afo, .int mmn]))] s.heap := hP
  have hl := lv_entry ([.ref mo, .long a1, .long a2]) (n := 5) (Nat.le_of_ble_eq_true rfl)
  rw [lg_entry_eq]
  generalize (lg_sl ([.ref mo, .long a1, .long a2]) ++ List.replicate (5 - (lg_sl ([.ref mo, .long a1, .long a2])).length) Slot.unset).toArray = ls at hl ⊢
  have hl : lv_has ls 5 [(0, .ref mo), (1, .long a1), (3, .long a2)] := hl
  refine lv_lload_n hx hb d_Model_isOn_0 rfl (lv_at hl 1 rfl) ?_
  refine lv_lconst (v := 0) hx hb d_Model_isOn_1 (by decide) ?_
  refine W.lcmp hx hb d_Model_isOn_2 ?_
  refine lv_topi (fun v2 e2 => ?_)
  have h2 : v2.toInt = (if 0 < x then 1 else if x = 0 then 0 else -1) := by rw [e2]; exact tl_cmp g1 (tl_k (by decide))
  refine lv_if_lt (tgt := 36) hx hb d_Model_isOn_3 (by decide) (fun c3 => ?_) (fun c3 => ?_)
  · skip
    have c3 : (if 0 < x then 1 else if x = 0 then 0 else -1) < 0 := (ti_lt h2 (ti_k (by decide))).mp c3
    refine lv_iconst (v := 0) hx hb d_Model_isOn_36 (by decide) ?_
    have hpost : isB 0 (0 ≤ x ∧ x < Wd ∧ 0 ≤ y ∧ y < Ht) := by
      exact Or.inr ⟨rfl, by omega⟩
    exact W.zret (v := 0) hx hb hr (by decide) (fun t ht hW => ⟨⟨0, (), rfl, hpost, trivial⟩, hS.F ht⟩) hS.2.2 d_Model_isOn_37
  · skip
    have c3 : ¬ ((if 0 < x then 1 else if x = 0 then 0 else -1) < 0) := fun q => c3 ((ti_lt h2 (ti_k (by decide))).mpr q)
    refine lv_lload_n hx hb d_Model_isOn_6 rfl (lv_at hl 1 rfl) ?_
    refine lv_aload_n hx hb d_Model_isOn_7 rfl (lv_at hl 0 rfl) ?_
    refine va_get (D := (dC, dI)) (ci := 5) (v := .int mw) (C := R_Model) (T := T_Model) (N := 11) hx hb hts i_Model hown hK hP 0 rfl rfl 1 (by decide) (hts _ wd_566) (fun _ h9 => h9) rfl d_Model_isOn_8 ?_
    refine lv_i2l hx hb d_Model_isOn_11 rfl ?_
    refine lv_topl (fun v11 e11 => ?_)
    have h11 : v11.toInt = Wd := by rw [e11]; exact tl_i2l hmw
    refine W.lcmp hx hb d_Model_isOn_12 ?_
    refine lv_topi (fun v12 e12 => ?_)
    have h12 : v12.toInt = (if Wd < x then 1 else if x = Wd then 0 else -1) := by rw [e12]; exact tl_cmp g1 h11
    refine lv_if_ge (tgt := 36) hx hb d_Model_isOn_13 (by decide) (fun c13 => ?_) (fun c13 => ?_)
    · skip
      have c13 : 0 ≤ (if Wd < x then 1 else if x = Wd then 0 else -1) := (ti_le (ti_k (by decide)) h12).mp c13
      refine lv_iconst (v := 0) hx hb d_Model_isOn_36 (by decide) ?_
      have hpost : isB 0 (0 ≤ x ∧ x < Wd ∧ 0 ≤ y ∧ y < Ht) := by
        exact Or.inr ⟨rfl, by omega⟩
      exact W.zret (v := 0) hx hb hr (by decide) (fun t ht hW => ⟨⟨0, (), rfl, hpost, trivial⟩, hS.F ht⟩) hS.2.2 d_Model_isOn_37
    · skip
      have c13 : ¬ (0 ≤ (if Wd < x then 1 else if x = Wd then 0 else -1)) := fun q => c13 ((ti_le (ti_k (by decide)) h12).mpr q)
      refine lv_lload_n hx hb d_Model_isOn_16 rfl (lv_at hl 2 rfl) ?_
      refine lv_lconst (v := 0) hx hb d_Model_isOn_17 (by decide) ?_
      refine W.lcmp hx hb d_Model_isOn_18 ?_
      refine lv_topi (fun v18 e18 => ?_)
      have h18 : v18.toInt = (if 0 < y then 1 else if y = 0 then 0 else -1) := by rw [e18]; exact tl_cmp g2 (tl_k (by decide))
      refine lv_if_lt (tgt := 36) hx hb d_Model_isOn_19 (by decide) (fun c19 => ?_) (fun c19 => ?_)
      · skip
        have c19 : (if 0 < y then 1 else if y = 0 then 0 else -1) < 0 := (ti_lt h18 (ti_k (by decide))).mp c19
        refine lv_iconst (v := 0) hx hb d_Model_isOn_36 (by decide) ?_
        have hpost : isB 0 (0 ≤ x ∧ x < Wd ∧ 0 ≤ y ∧ y < Ht) := by
          exact Or.inr ⟨rfl, by omega⟩
        exact W.zret (v := 0) hx hb hr (by decide) (fun t ht hW => ⟨⟨0, (), rfl, hpost, trivial⟩, hS.F ht⟩) hS.2.2 d_Model_isOn_37
      · skip
        have c19 : ¬ ((if 0 < y then 1 else if y = 0 then 0 else -1) < 0) := fun q => c19 ((ti_lt h18 (ti_k (by decide))).mpr q)
        refine lv_lload_n hx hb d_Model_isOn_22 rfl (lv_at hl 2 rfl) ?_
        refine lv_aload_n hx hb d_Model_isOn_23 rfl (lv_at hl 0 rfl) ?_
        refine va_get (D := (dC, dI)) (ci := 5) (v := .int mh) (C := R_Model) (T := T_Model) (N := 11) hx hb hts i_Model hown hK hP 0 rfl rfl 2 (by decide) (hts _ wd_567) (fun _ h9 => h9) rfl d_Model_isOn_24 ?_
        refine lv_i2l hx hb d_Model_isOn_27 rfl ?_
        refine lv_topl (fun v27 e27 => ?_)
        have h27 : v27.toInt = Ht := by rw [e27]; exact tl_i2l hmh
        refine W.lcmp hx hb d_Model_isOn_28 ?_
        refine lv_topi (fun v28 e28 => ?_)
        have h28 : v28.toInt = (if Ht < y then 1 else if y = Ht then 0 else -1) := by rw [e28]; exact tl_cmp g2 h27
        refine lv_if_ge (tgt := 36) hx hb d_Model_isOn_29 (by decide) (fun c29 => ?_) (fun c29 => ?_)
        · skip
          have c29 : 0 ≤ (if Ht < y then 1 else if y = Ht then 0 else -1) := (ti_le (ti_k (by decide)) h28).mp c29
          refine lv_iconst (v := 0) hx hb d_Model_isOn_36 (by decide) ?_
          have hpost : isB 0 (0 ≤ x ∧ x < Wd ∧ 0 ≤ y ∧ y < Ht) := by
            exact Or.inr ⟨rfl, by omega⟩
          exact W.zret (v := 0) hx hb hr (by decide) (fun t ht hW => ⟨⟨0, (), rfl, hpost, trivial⟩, hS.F ht⟩) hS.2.2 d_Model_isOn_37
        · skip
          have c29 : ¬ (0 ≤ (if Ht < y then 1 else if y = Ht then 0 else -1)) := fun q => c29 ((ti_le (ti_k (by decide)) h28).mpr q)
          refine lv_iconst (v := 1) hx hb d_Model_isOn_32 (by decide) ?_
          refine lv_goto (tgt := 37) hx hb d_Model_isOn_33 (by decide) ?_
          have hpost : isB 1 (0 ≤ x ∧ x < Wd ∧ 0 ≤ y ∧ y < Ht) := by
            exact Or.inl ⟨rfl, by omega⟩
          exact W.zret (v := 1) hx hb hr (by decide) (fun t ht hW => ⟨⟨1, (), rfl, hpost, trivial⟩, hS.F ht⟩) hS.2.2 d_Model_isOn_37

set_option maxHeartbeats 4000000 in
set_option maxRecDepth 100000 in
theorem m_isDark (l : Launch) (dC : Nat → ClassId) (dI : Nat → Nat → Nat) (mo ad asu aru ast afo : Nat) (mth mw mh mro msd mmn : Int32) (Wd Ht : Int) (hmw : mw.toInt = Wd) (hmh : mh.toInt = Ht) (hW1 : 1 ≤ Wd) (hW2 : Wd ≤ 512) (hH1 : 1 ≤ Ht) (hH2 : Ht ≤ 512) (kD : ClassId) (fd : Nat → Int32) (D : Int → Int → Bool) (hfd : ∀ x y, 0 ≤ x → x < 512 → 0 ≤ y → y < 512 → fd (512 * y + x).toNat = zb (D x y)) (a1 a2 : Int32) (x y : Int) (g1 : a1.toInt = x) (g2 : a2.toInt = y) (b1 : 0 ≤ x) (b2 : x < 512) (b3 : 0 ≤ y) (b4 : y < 512) : Met l y_Model_isDark (.code y_Model_isDark b_Model_isDark 3 (some .boolean) :: allw) ({ frames := 0, cells := 0, slots := 0, locals := 0 }) (va_Pc [.ref mo, .int a1, .int a2] (ro_B (dC, dI) vwCl [(mo, .inr (5, [.int mth, .int mw, .int mh, .ref ad, .ref asu, .ref aru, .int mro, .ref ast, .int msd, .ref afo, .int mmn])), (ad, .inl (kD, 262144, .inl fd))] [(kD, .boolean)])) (va_Qi (fun (r : Int32) (_ : Unit) => r = zb (D x y)) (fun _ _ => True) (fun _ => False)) 0 0 (fun _ => False) := by
  refine Met.ofW (cc := b_Model_isDark) (maxL := 3) (ret := (some .boolean)) (by decide) rfl ?_
  intro p e s m args below meth c s₁ B hml hv
  obtain ⟨rfl, hP, hK⟩ := hv
  have hx := B.exec
  have hb := B.bytes
  have hr := B.returns
  have hts : ∀ w ∈ allw, w.before _ s = true := fun w h => atoms_spec (ws := .code y_Model_isDark b_Model_isDark 3 (some .boolean) :: allw) B.pre w (List.mem_cons_of_mem _ h)
  have hown : s.vm.findClass R_Model = some m.cls := findClass_of_methodNamed B.named
  have hlocks := B.notSynchronized
  have hS : va_S (fun _ => False) s.heap s.heap [] := va_S.rf
  have hP : va_P (dC, dI) vwCl [(mo, .inr (5, [.int mth, .int mw, .int mh, .ref ad, .ref asu, .ref aru, .int mro, .ref ast, .int msd, .ref afo, .int mmn])), (ad, .inl (kD, 262144, .inl fd))] s.heap := hP
  have hl := lv_entry ([.ref mo, .int a1, .int a2]) (n := 3) (Nat.le_of_ble_eq_true rfl)
  rw [lg_entry_eq]
  generalize (lg_sl ([.ref mo, .int a1, .int a2]) ++ List.replicate (3 - (lg_sl ([.ref mo, .int a1, .int a2])).length) Slot.unset).toArray = ls at hl ⊢
  have hl : lv_has ls 3 [(0, .ref mo), (1, .int a1), (2, .int a2)] := hl
  refine lv_aload_n hx hb d_Model_isDark_0 rfl (lv_at hl 0 rfl) ?_
  refine va_get (D := (dC, dI)) (ci := 5) (v := .ref ad) (C := R_Model) (T := T_Model) (N := 11) hx hb hts i_Model hown hK hP 0 rfl rfl 3 (by decide) (hts _ wd_568) (fun _ h9 => h9) rfl d_Model_isDark_1 ?_
  refine lv_sipush (v := 512) hx hb d_Model_isDark_4 (by decide) ?_
  refine lv_iload_n hx hb d_Model_isDark_7 rfl (lv_at hl 2 rfl) ?_
  refine lv_imul hx hb d_Model_isDark_8 ?_
  refine lv_topi (fun v8 e8 => ?_)
  have h8 : v8.toInt = 512 * y := by rw [e8]; exact ti_mul (ti_k (by decide)) g2 (by omega) (by omega)
  refine lv_iload_n hx hb d_Model_isDark_9 rfl (lv_at hl 1 rfl) ?_
  refine lv_iadd hx hb d_Model_isDark_10 ?_
  refine lv_topi (fun v10 e10 => ?_)
  have h10 : v10.toInt = (512 * y) + x := by rw [e10]; exact ti_add h8 g1 (by omega) (by omega)
  have in11 : vp_in v10 262144 := vi_in h10 (by omega) (by omega)
  refine va_zald hx hb hK hP 1 0 rfl rfl in11 d_Model_isDark_11 ?_
  refine lv_topi (fun v11 e11 => ?_)
  have e11 : v11 = fd (((512 * y) + x)).toNat := by rw [e11, vi_cl h10]
  have r11 : v11 = zb (D x y) := by rw [e11]; exact hfd x y b1 b2 b3 b4
  have hpost : v11 = zb (D x y) := by
    exact r11
  exact W.zret (v := v11) hx hb hr (by rw [r11]; exact zb_nar _) (fun t ht hW => ⟨⟨v11, (), rfl, hpost, trivial⟩, hS.F ht⟩) hS.2.2 d_Model_isDark_12

set_option maxHeartbeats 4000000 in
set_option maxRecDepth 100000 in
theorem m_forget (l : Launch) (dC : Nat → ClassId) (dI : Nat → Nat → Nat) (sz : Nat) (mo ad asu aru ast afo : Nat) (mth mw mh mro msd mmn : Int32) : Met l y_Model_forget (.code y_Model_forget b_Model_forget 1 none :: allw) ({ frames := 0, cells := 0, slots := 0, locals := 0 }) (va_Pc [.ref mo] (rw_B (dC, dI) vwCl [(mo, .inr (5, [.int mth, .int mw, .int mh, .ref ad, .ref asu, .ref aru, .int mro, .ref ast, .int msd, .ref afo, .int mmn]))] [] sz)) (va_Qv (fun (u : Unit) => True) (fun u t => rw_E (dC, dI) vwCl [(mo, .inr (5, [.int mth, .int mw, .int mh, .ref ad, .ref asu, .ref aru, .int mro, .ref ast, .int 0, .ref afo, .int 0]))] [] (va_A [(mo, .inr (5, [.int mth, .int mw, .int mh, .ref ad, .ref asu, .ref aru, .int mro, .ref ast, .int msd, .ref afo, .int mmn]))] sz) t) (va_A [(mo, .inr (5, [.int mth, .int mw, .int mh, .ref ad, .ref asu, .ref aru, .int mro, .ref ast, .int msd, .ref afo, .int mmn]))] sz)) 0 0 (va_A [(mo, .inr (5, [.int mth, .int mw, .int mh, .ref ad, .ref asu, .ref aru, .int mro, .ref ast, .int msd, .ref afo, .int mmn]))] sz) := by
  refine Met.ofW (cc := b_Model_forget) (maxL := 1) (ret := none) (by decide) rfl ?_
  intro p e s m args below meth c s₁ B hml hv
  obtain ⟨rfl, hsz, hP, hK, hD0⟩ := hv
  have hx := B.exec
  have hb := B.bytes
  have hr := B.returns
  have hts : ∀ w ∈ allw, w.before _ s = true := fun w h => atoms_spec (ws := .code y_Model_forget b_Model_forget 1 none :: allw) B.pre w (List.mem_cons_of_mem _ h)
  have hown : s.vm.findClass R_Model = some m.cls := findClass_of_methodNamed B.named
  have hlocks := B.notSynchronized
  subst hsz
  have hD := hD0.self (sz := s.heap.size)
  generalize hAe : va_A [(mo, .inr (5, [.int mth, .int mw, .int mh, .ref ad, .ref asu, .ref aru, .int mro, .ref ast, .int msd, .ref afo, .int mmn]))] s.heap.size = A at hD ⊢
  have hA : ∀ q : Nat, s.heap.size ≤ q → A q := fun q h => by rw [← hAe]; exact Or.inr h
  have hS : va_S A s.heap s.heap [] := va_S.rf
  have hP : va_P (dC, dI) vwCl [(mo, .inr (5, [.int mth, .int mw, .int mh, .ref ad, .ref asu, .ref aru, .int mro, .ref ast, .int msd, .ref afo, .int mmn]))] s.heap := hP
  have hl := lv_entry ([.ref mo]) (n := 1) (Nat.le_of_ble_eq_true rfl)
  rw [lg_entry_eq]
  generalize (lg_sl ([.ref mo]) ++ List.replicate (1 - (lg_sl ([.ref mo])).length) Slot.unset).toArray = ls at hl ⊢
  have hl : lv_has ls 1 [(0, .ref mo)] := hl
  refine lv_aload_n hx hb d_Model_forget_0 rfl (lv_at hl 0 rfl) ?_
  refine lv_iconst (v := 0) hx hb d_Model_forget_1 (by decide) ?_
  refine va_put (D := (dC, dI)) (ci := 5) (v := .int 0) (ty := .int) (C := R_Model) (T := T_Model) (N := 11) hx hb hts i_Model t_Model t_Model_ok n_Model hown hK hP hD hS 0 rfl rfl 8 (by decide) (hts _ wd_573) (fun _ h9 => h9) rfl (by decide +kernel) rfl rfl (Nat.le_of_ble_eq_true rfl) d_Model_forget_2 (fun H2 locs hP hD hS => ?_)
  have hP : va_P (dC, dI) vwCl [(mo, .inr (5, [.int mth, .int mw, .int mh, .ref ad, .ref asu, .ref aru, .int mro, .ref ast, .int 0, .ref afo, .int mmn]))] H2 := hP
  have hD : va_D A [(mo, .inr (5, [.int mth, .int mw, .int mh, .ref ad, .ref asu, .ref aru, .int mro, .ref ast, .int 0, .ref afo, .int mmn]))] := hD
  refine lv_aload_n hx hb d_Model_forget_5 rfl (lv_at hl 0 rfl) ?_
  refine lv_iconst (v := 0) hx hb d_Model_forget_6 (by decide) ?_
  refine va_put (D := (dC, dI)) (ci := 5) (v := .int 0) (ty := .int) (C := R_Model) (T := T_Model) (N := 11) hx hb hts i_Model t_Model t_Model_ok n_Model hown hK hP hD hS 0 rfl rfl 10 (by decide) (hts _ wd_575) (fun _ h9 => h9) rfl (by decide +kernel) rfl rfl (Nat.le_of_ble_eq_true rfl) d_Model_forget_7 (fun H7 locs hP hD hS => ?_)
  have hP : va_P (dC, dI) vwCl [(mo, .inr (5, [.int mth, .int mw, .int mh, .ref ad, .ref asu, .ref aru, .int mro, .ref ast, .int 0, .ref afo, .int 0]))] H7 := hP
  have hD : va_D A [(mo, .inr (5, [.int mth, .int mw, .int mh, .ref ad, .ref asu, .ref aru, .int mro, .ref ast, .int 0, .ref afo, .int 0]))] := hD
  have hpost : True := by
    trivial
  have hP9 := hP.sub (ws' := [(mo, .inr (5, [.int mth, .int mw, .int mh, .ref ad, .ref asu, .ref aru, .int mro, .ref ast, .int 0, .ref afo, .int 0]))]) [0] rfl
  have hD9 := hD.sub (ws' := [(mo, .inr (5, [.int mth, .int mw, .int mh, .ref ad, .ref asu, .ref aru, .int mro, .ref ast, .int 0, .ref afo, .int 0]))]) [0] (by decide) rfl
  have hK9 := hK.sub (tys' := []) [] rfl
  exact W.vret hx hb hr (fun t ht hW => ⟨⟨(), rfl, hpost, by rw [ht]; exact hP9, va_K.moved hW.alike hK9, hD9⟩, hS.F ht⟩) hS.2.2 d_Model_forget_10

set_option maxHeartbeats 4000000 in
set_option maxRecDepth 100000 in
theorem m_side (l : Launch) (dC : Nat → ClassId) (dI : Nat → Nat → Nat) (a0 : Int32) (v : Int) (g0 : a0.toInt = v) (hv0 : 0 ≤ v) (hv1 : v ≤ 1000) : Met l y_Model_side (.code y_Model_side b_Model_side 1 (some .int) :: allw) ({ frames := 0, cells := 0, slots := 0, locals := 0 }) (va_Pc [.int a0] (ro_B (dC, dI) vwCl [] [])) (va_Qi (fun (r : Int32) (_ : Unit) => r.toInt = 17 + 4 * v) (fun _ _ => True) (fun _ => False)) 0 0 (fun _ => False) := by
  refine Met.ofW (cc := b_Model_side) (maxL := 1) (ret := (some .int)) (by decide) rfl ?_
  intro p e s m args below meth c s₁ B hml hv
  obtain ⟨rfl, hP, hK⟩ := hv
  have hx := B.exec
  have hb := B.bytes
  have hr := B.returns
  have hts : ∀ w ∈ allw, w.before _ s = true := fun w h => atoms_spec (ws := .code y_Model_side b_Model_side 1 (some .int) :: allw) B.pre w (List.mem_cons_of_mem _ h)
  have hown : s.vm.findClass R_Model = some m.cls := findClass_of_methodNamed B.named
  have hlocks := B.notSynchronized
  have hS : va_S (fun _ => False) s.heap s.heap [] := va_S.rf
  have hP : va_P (dC, dI) vwCl [] s.heap := hP
  have hl := lv_entry ([.int a0]) (n := 1) (Nat.le_of_ble_eq_true rfl)
  rw [lg_entry_eq]
  generalize (lg_sl ([.int a0]) ++ List.replicate (1 - (lg_sl ([.int a0])).length) Slot.unset).toArray = ls at hl ⊢
  have hl : lv_has ls 1 [(0, .int a0)] := hl
  refine lv_bipush (v := 17) hx hb d_Model_side_0 (by decide) ?_
  refine lv_iconst (v := 4) hx hb d_Model_side_2 (by decide) ?_
  refine lv_iload_n hx hb d_Model_side_3 rfl (lv_at hl 0 rfl) ?_
  refine lv_imul hx hb d_Model_side_4 ?_
  refine lv_topi (fun v4 e4 => ?_)
  have h4 : v4.toInt = 4 * v := by rw [e4]; exact ti_mul (ti_k (by decide)) g0 (by omega) (by omega)
  refine lv_iadd hx hb d_Model_side_5 ?_
  refine lv_topi (fun v5 e5 => ?_)
  have h5 : v5.toInt = 17 + (4 * v) := by rw [e5]; exact ti_add (ti_k (by decide)) h4 (by omega) (by omega)
  have hpost : v5.toInt = 17 + 4 * v := by
    exact h5
  exact W.iret (v := v5) hx hb hr (fun t ht hW => ⟨⟨v5, (), rfl, hpost, trivial⟩, hS.F ht⟩) hS.2.2 d_Model_side_6

set_option maxHeartbeats 4000000 in
set_option maxRecDepth 100000 in
theorem m_apart (l : Launch) (dC : Nat → ClassId) (dI : Nat → Nat → Nat)  (a0 a1 : Int32) (x y : Int) (g0 : a0.toInt = x) (g1 : a1.toInt = y) (b1 : 0 ≤ x) (b2 : x ≤ 1000) (b3 : 0 ≤ y) (b4 : y ≤ 1000) : Met l y_Model_apart (.code y_Model_apart b_Model_apart 2 (some .int) :: allw) ({ frames := 0, cells := 0, slots := 0, locals := 0 }) (va_Pc [.int a0, .int a1] (ro_B (dC, dI) vwCl [] [])) (va_Qi (fun (r : Int32) (_ : Unit) => r.toInt = ap x y) (fun _ _ => True) (fun _ => False)) 0 0 (fun _ => False) := by
  refine Met.ofW (cc := b_Model_apart) (maxL := 2) (ret := (some .int)) (by decide) rfl ?_
  intro p e s m args below meth c s₁ B hml hv
  obtain ⟨rfl, hP, hK⟩ := hv
  have hx := B.exec
  have hb := B.bytes
  have hr := B.returns
  have hts : ∀ w ∈ allw, w.before _ s = true := fun w h => atoms_spec (ws := .code y_Model_apart b_Model_apart 2 (some .int) :: allw) B.pre w (List.mem_cons_of_mem _ h)
  have hown : s.vm.findClass R_Model = some m.cls := findClass_of_methodNamed B.named
  have hlocks := B.notSynchronized
  have hS : va_S (fun _ => False) s.heap s.heap [] := va_S.rf
  have hP : va_P (dC, dI) vwCl [] s.heap := hP
  have hl := lv_entry ([.int a0, .int a1]) (n := 2) (Nat.le_of_ble_eq_true rfl)
  rw [lg_entry_eq]
  generalize (lg_sl ([.int a0, .int a1]) ++ List.replicate (2 - (lg_sl ([.int a0, .int a1])).length) Slot.unset).toArray = ls at hl ⊢
  have hl : lv_has ls 2 [(0, .int a0), (1, .int a1)] := hl
  refine lv_iload_n hx hb d_Model_apart_0 rfl (lv_at hl 0 rfl) ?_
  refine lv_iload_n hx hb d_Model_apart_1 rfl (lv_at hl 1 rfl) ?_
  refine lv_icmp_ge (tgt := 11) hx hb d_Model_apart_2 (by decide) (fun c2 => ?_) (fun c2 => ?_)
  · skip
    have c2 : y ≤ x := (ti_le g1 g0).mp c2
    refine lv_iload_n hx hb d_Model_apart_11 rfl (lv_at hl 0 rfl) ?_
    refine lv_iload_n hx hb d_Model_apart_12 rfl (lv_at hl 1 rfl) ?_
    refine lv_isub hx hb d_Model_apart_13 ?_
    refine lv_topi (fun v13 e13 => ?_)
    have h13 : v13.toInt = x - y := by rw [e13]; exact ti_sub g0 g1 (by omega) (by omega)
    have hpost : v13.toInt = ap x y := by
      rw [h13]; unfold ap; rw [if_neg (by omega)]
    exact W.iret (v := v13) hx hb hr (fun t ht hW => ⟨⟨v13, (), rfl, hpost, trivial⟩, hS.F ht⟩) hS.2.2 d_Model_apart_14
  · skip
    have c2 : ¬ (y ≤ x) := fun q => c2 ((ti_le g1 g0).mpr q)
    refine lv_iload_n hx hb d_Model_apart_5 rfl (lv_at hl 1 rfl) ?_
    refine lv_iload_n hx hb d_Model_apart_6 rfl (lv_at hl 0 rfl) ?_
    refine lv_isub hx hb d_Model_apart_7 ?_
    refine lv_topi (fun v7 e7 => ?_)
    have h7 : v7.toInt = y - x := by rw [e7]; exact ti_sub g1 g0 (by omega) (by omega)
    refine lv_goto (tgt := 14) hx hb d_Model_apart_8 (by decide) ?_
    have hpost : v7.toInt = ap x y := by
      rw [h7]; unfold ap; rw [if_pos (by omega)]
    exact W.iret (v := v7) hx hb hr (fun t ht hW => ⟨⟨v7, (), rfl, hpost, trivial⟩, hS.F ht⟩) hS.2.2 d_Model_apart_14

set_option maxHeartbeats 4000000 in
set_option maxRecDepth 100000 in
theorem m_least (l : Launch) (dC : Nat → ClassId) (dI : Nat → Nat → Nat)  (a0 a1 : Int32) (x y : Int) (g0 : a0.toInt = x) (g1 : a1.toInt = y) : Met l y_Model_least (.code y_Model_least b_Model_least 2 (some .int) :: allw) ({ frames := 0, cells := 0, slots := 0, locals := 0 }) (va_Pc [.int a0, .int a1] (ro_B (dC, dI) vwCl [] [])) (va_Qi (fun (r : Int32) (_ : Unit) => r.toInt = min x y) (fun _ _ => True) (fun _ => False)) 0 0 (fun _ => False) := by
  refine Met.ofW (cc := b_Model_least) (maxL := 2) (ret := (some .int)) (by decide) rfl ?_
  intro p e s m args below meth c s₁ B hml hv
  obtain ⟨rfl, hP, hK⟩ := hv
  have hx := B.exec
  have hb := B.bytes
  have hr := B.returns
  have hts : ∀ w ∈ allw, w.before _ s = true := fun w h => atoms_spec (ws := .code y_Model_least b_Model_least 2 (some .int) :: allw) B.pre w (List.mem_cons_of_mem _ h)
  have hown : s.vm.findClass R_Model = some m.cls := findClass_of_methodNamed B.named
  have hlocks := B.notSynchronized
  have hS : va_S (fun _ => False) s.heap s.heap [] := va_S.rf
  have hP : va_P (dC, dI) vwCl [] s.heap := hP
  have hl := lv_entry ([.int a0, .int a1]) (n := 2) (Nat.le_of_ble_eq_true rfl)
  rw [lg_entry_eq]
  generalize (lg_sl ([.int a0, .int a1]) ++ List.replicate (2 - (lg_sl ([.int a0, .int a1])).length) Slot.unset).toArray = ls at hl ⊢
  have hl : lv_has ls 2 [(0, .int a0), (1, .int a1)] := hl
  refine lv_iload_n hx hb d_Model_least_0 rfl (lv_at hl 0 rfl) ?_
  refine lv_iload_n hx hb d_Model_least_1 rfl (lv_at hl 1 rfl) ?_
  refine lv_icmp_ge (tgt := 9) hx hb d_Model_least_2 (by decide) (fun c2 => ?_) (fun c2 => ?_)
  · skip
    have c2 : y ≤ x := (ti_le g1 g0).mp c2
    refine lv_iload_n hx hb d_Model_least_9 rfl (lv_at hl 1 rfl) ?_
    have hpost : a1.toInt = min x y := by
      rw [g1]; omega
    exact W.iret (v := a1) hx hb hr (fun t ht hW => ⟨⟨a1, (), rfl, hpost, trivial⟩, hS.F ht⟩) hS.2.2 d_Model_least_10
  · skip
    have c2 : ¬ (y ≤ x) := fun q => c2 ((ti_le g1 g0).mpr q)
    refine lv_iload_n hx hb d_Model_least_5 rfl (lv_at hl 0 rfl) ?_
    refine lv_goto (tgt := 10) hx hb d_Model_least_6 (by decide) ?_
    have hpost : a0.toInt = min x y := by
      rw [g0]; omega
    exact W.iret (v := a0) hx hb hr (fun t ht hW => ⟨⟨a0, (), rfl, hpost, trivial⟩, hS.F ht⟩) hS.2.2 d_Model_least_10

set_option maxHeartbeats 4000000 in
set_option maxRecDepth 100000 in
theorem m_distance (l : Launch) (dC : Nat → ClassId) (dI : Nat → Nat → Nat) (a0 a1 a2 a3 : Int32) (i j a b : Int) (g0 : a0.toInt = i) (g1 : a1.toInt = j) (g2 : a2.toInt = a) (g3 : a3.toInt = b) (i0 : 0 ≤ i) (i1 : i ≤ 1000) (j0 : 0 ≤ j) (j1 : j ≤ 1000) (b1 : 0 ≤ a) (b2 : a ≤ 1000) (b3 : 0 ≤ b) (b4 : b ≤ 1000) : Met l y_Model_distance (.code y_Model_distance b_Model_distance 4 (some .int) :: allw) ({ frames := 1, cells := 0, slots := 0, locals := 21 }) (va_Pc [.int a0, .int a1, .int a2, .int a3] (ro_B (dC, dI) vwCl [] [])) (va_Qi (fun (r : Int32) (_ : Unit) => r.toInt = dst i j a b) (fun _ _ => True) (fun _ => False)) 0 0 (fun _ => False) := by
  refine Met.ofW (cc := b_Model_distance) (maxL := 4) (ret := (some .int)) (by decide) rfl ?_
  intro p e s m args below meth c s₁ B hml hv
  obtain ⟨rfl, hP, hK⟩ := hv
  have hx := B.exec
  have hb := B.bytes
  have hr := B.returns
  have hts : ∀ w ∈ allw, w.before _ s = true := fun w h => atoms_spec (ws := .code y_Model_distance b_Model_distance 4 (some .int) :: allw) B.pre w (List.mem_cons_of_mem _ h)
  have hown : s.vm.findClass R_Model = some m.cls := findClass_of_methodNamed B.named
  have hlocks := B.notSynchronized
  have hS : va_S (fun _ => False) s.heap s.heap [] := va_S.rf
  have hP : va_P (dC, dI) vwCl [] s.heap := hP
  have hl := lv_entry ([.int a0, .int a1, .int a2, .int a3]) (n := 4) (Nat.le_of_ble_eq_true rfl)
  rw [lg_entry_eq]
  generalize (lg_sl ([.int a0, .int a1, .int a2, .int a3]) ++ List.replicate (4 - (lg_sl ([.int a0, .int a1, .int a2, .int a3])).length) Slot.unset).toArray = ls at hl ⊢
  have hl : lv_has ls 4 [(0, .int a0), (1, .int a1), (2, .int a2), (3, .int a3)] := hl
  refine lv_iload_n hx hb d_Model_distance_0 rfl (lv_at hl 0 rfl) ?_
  refine lv_iload_n hx hb d_Model_distance_1 rfl (lv_at hl 2 rfl) ?_
  have hPc := hP.sub (ws' := []) [] rfl
  have hKc := hK.sub (tys' := []) [] rfl
  refine va_calli (va_runS (As := [.int a0, .int a2]) (rest := []) ⟨hx, hb, hml, hown, hts⟩ (m_apart l dC dI a0 a2 i a g0 g2 (by omega) (by omega) (by omega) (by omega)) (aw_S 2 hts wd_649 wd_650 wd_5 wd_651 rfl rfl (by decide +kernel) ⟨Nat.le_of_ble_eq_true rfl, Nat.le_of_ble_eq_true rfl⟩) ⟨ro_blind, ro_pre hPc hKc⟩ rfl rfl hl.1 rfl (lv_room (Nat.le_of_ble_eq_true rfl)) d_Model_distance_2 ⟨Nat.le_of_ble_eq_true rfl, Nat.le_of_ble_eq_true rfl⟩) hS (fun q _ h => h.elim) (fun q h => h.elim) (fun v2 _ t9 H2 locs ht hvm h2 hB hz1 hk1 hS => ?_)
  have hP := ro_keep hP hk1
  clear hPc hKc ht hvm hB hz1 hk1
  refine lv_iload_n hx hb d_Model_distance_5 rfl (lv_at hl 1 rfl) ?_
  refine lv_iload_n hx hb d_Model_distance_6 rfl (lv_at hl 3 rfl) ?_
  have hPc := hP.sub (ws' := []) [] rfl
  have hKc := hK.sub (tys' := []) [] rfl
  refine va_calli (va_runS (As := [.int a1, .int a3]) (rest := [.int v2]) ⟨hx, hb, hml, hown, hts⟩ (m_apart l dC dI a1 a3 j b g1 g3 (by omega) (by omega) (by omega) (by omega)) (aw_S 2 hts wd_649 wd_650 wd_5 wd_651 rfl rfl (by decide +kernel) ⟨Nat.le_of_ble_eq_true rfl, Nat.le_of_ble_eq_true rfl⟩) ⟨ro_blind, ro_pre hPc hKc⟩ rfl rfl hl.1 rfl (lv_room (Nat.le_of_ble_eq_true rfl)) d_Model_distance_7 ⟨Nat.le_of_ble_eq_true rfl, Nat.le_of_ble_eq_true rfl⟩) hS (fun q _ h => h.elim) (fun q h => h.elim) (fun v7 _ t9 H7 locs ht hvm h7 hB hz1 hk1 hS => ?_)
  have hP := ro_keep hP hk1
  clear hPc hKc ht hvm hB hz1 hk1
  refine lv_icmp_le (tgt := 21) hx hb d_Model_distance_10 (by decide) (fun c10 => ?_) (fun c10 => ?_)
  · skip
    have c10 : (ap i a) ≤ (ap j b) := (ti_le h2 h7).mp c10
    refine lv_iload_n hx hb d_Model_distance_21 rfl (lv_at hl 1 rfl) ?_
    refine lv_iload_n hx hb d_Model_distance_22 rfl (lv_at hl 3 rfl) ?_
    have hPc := hP.sub (ws' := []) [] rfl
    have hKc := hK.sub (tys' := []) [] rfl
    refine va_calli (va_runS (As := [.int a1, .int a3]) (rest := []) ⟨hx, hb, hml, hown, hts⟩ (m_apart l dC dI a1 a3 j b g1 g3 (by omega) (by omega) (by omega) (by omega)) (aw_S 2 hts wd_649 wd_650 wd_5 wd_651 rfl rfl (by decide +kernel) ⟨Nat.le_of_ble_eq_true rfl, Nat.le_of_ble_eq_true rfl⟩) ⟨ro_blind, ro_pre hPc hKc⟩ rfl rfl hl.1 rfl (lv_room (Nat.le_of_ble_eq_true rfl)) d_Model_distance_23 ⟨Nat.le_of_ble_eq_true rfl, Nat.le_of_ble_eq_true rfl⟩) hS (fun q _ h => h.elim) (fun q h => h.elim) (fun v23 _ t9 H23 locs ht hvm h23 hB hz1 hk1 hS => ?_)
    have hP := ro_keep hP hk1
    clear hPc hKc ht hvm hB hz1 hk1
    have hpost : v23.toInt = dst i j a b := by
      rw [h23]; unfold dst; rw [if_neg (by omega)]
    exact W.iret (v := v23) hx hb hr (fun t ht hW => ⟨⟨v23, (), rfl, hpost, trivial⟩, hS.F ht⟩) hS.2.2 d_Model_distance_26
  · skip
    have c10 : ¬ ((ap i a) ≤ (ap j b)) := fun q => c10 ((ti_le h2 h7).mpr q)
    refine lv_iload_n hx hb d_Model_distance_13 rfl (lv_at hl 0 rfl) ?_
    refine lv_iload_n hx hb d_Model_distance_14 rfl (lv_at hl 2 rfl) ?_
    have hPc := hP.sub (ws' := []) [] rfl
    have hKc := hK.sub (tys' := []) [] rfl
    refine va_calli (va_runS (As := [.int a0, .int a2]) (rest := []) ⟨hx, hb, hml, hown, hts⟩ (m_apart l dC dI a0 a2 i a g0 g2 (by omega) (by omega) (by omega) (by omega)) (aw_S 2 hts wd_649 wd_650 wd_5 wd_651 rfl rfl (by decide +kernel) ⟨Nat.le_of_ble_eq_true rfl, Nat.le_of_ble_eq_true rfl⟩) ⟨ro_blind, ro_pre hPc hKc⟩ rfl rfl hl.1 rfl (lv_room (Nat.le_of_ble_eq_true rfl)) d_Model_distance_15 ⟨Nat.le_of_ble_eq_true rfl, Nat.le_of_ble_eq_true rfl⟩) hS (fun q _ h => h.elim) (fun q h => h.elim) (fun v15 _ t9 H15 locs ht hvm h15 hB hz1 hk1 hS => ?_)
    have hP := ro_keep hP hk1
    clear hPc hKc ht hvm hB hz1 hk1
    refine lv_goto (tgt := 26) hx hb d_Model_distance_18 (by decide) ?_
    have hpost : v15.toInt = dst i j a b := by
      rw [h15]; unfold dst; rw [if_pos (by omega)]
    exact W.iret (v := v15) hx hb hr (fun t ht hW => ⟨⟨v15, (), rfl, hpost, trivial⟩, hS.F ht⟩) hS.2.2 d_Model_distance_26

set_option maxHeartbeats 4000000 in
set_option maxRecDepth 100000 in
theorem m_blockX (l : Launch) (dC : Nat → ClassId) (dI : Nat → Nat → Nat) (a0 a1 a2 a3 : Int32) (S i j Q : Int) (g0 : a0.toInt = S) (g1 : a1.toInt = i) (g2 : a2.toInt = j) (g3 : a3.toInt = Q) (s1 : S ≤ 177) (i0 : 0 ≤ i) (i1 : i < S) (j0 : 0 ≤ j) (j1 : j < S) : Met l y_Model_blockX (.code y_Model_blockX b_Model_blockX 4 (some .int) :: allw) ({ frames := 0, cells := 0, slots := 0, locals := 0 }) (va_Pc [.int a0, .int a1, .int a2, .int a3] (ro_B (dC, dI) vwCl [] [])) (va_Qi (fun (r : Int32) (_ : Unit) => r.toInt = bA S Q i j) (fun _ _ => True) (fun _ => False)) 0 0 (fun _ => False) := by
  refine Met.ofW (cc := b_Model_blockX) (maxL := 4) (ret := (some .int)) (by decide) rfl ?_
  intro p e s m args below meth c s₁ B hml hv
  obtain ⟨rfl, hP, hK⟩ := hv
  have hx := B.exec
  have hb := B.bytes
  have hr := B.returns
  have hts : ∀ w ∈ allw, w.before _ s = true := fun w h => atoms_spec (ws := .code y_Model_blockX b_Model_blockX 4 (some .int) :: allw) B.pre w (List.mem_cons_of_mem _ h)
  have hown : s.vm.findClass R_Model = some m.cls := findClass_of_methodNamed B.named
  have hlocks := B.notSynchronized
  have hS : va_S (fun _ => False) s.heap s.heap [] := va_S.rf
  have hP : va_P (dC, dI) vwCl [] s.heap := hP
  have hl := lv_entry ([.int a0, .int a1, .int a2, .int a3]) (n := 4) (Nat.le_of_ble_eq_true rfl)
  rw [lg_entry_eq]
  generalize (lg_sl ([.int a0, .int a1, .int a2, .int a3]) ++ List.replicate (4 - (lg_sl ([.int a0, .int a1, .int a2, .int a3])).length) Slot.unset).toArray = ls at hl ⊢
  have hl : lv_has ls 4 [(0, .int a0), (1, .int a1), (2, .int a2), (3, .int a3)] := hl
  refine lv_iload_n hx hb d_Model_blockX_0 rfl (lv_at hl 3 rfl) ?_
  refine lv_if_ne (tgt := 8) hx hb d_Model_blockX_1 (by decide) (fun c1 => ?_) (fun c1 => ?_)
  · skip
    have c1 : ¬ (Q = 0) := fun q => c1 ((ti_eq g3 (ti_k (by decide))).mpr q)
    refine lv_iload_n hx hb d_Model_blockX_8 rfl (lv_at hl 3 rfl) ?_
    refine lv_iconst (v := 1) hx hb d_Model_blockX_9 (by decide) ?_
    refine lv_icmp_ne (tgt := 21) hx hb d_Model_blockX_10 (by decide) (fun c10 => ?_) (fun c10 => ?_)
    · skip
      have c10 : ¬ (Q = 1) := fun q => c10 ((ti_eq g3 (ti_k (by decide))).mpr q)
      refine lv_iload_n hx hb d_Model_blockX_21 rfl (lv_at hl 3 rfl) ?_
      refine lv_iconst (v := 2) hx hb d_Model_blockX_22 (by decide) ?_
      refine lv_icmp_ne (tgt := 34) hx hb d_Model_blockX_23 (by decide) (fun c23 => ?_) (fun c23 => ?_)
      · skip
        have c23 : ¬ (Q = 2) := fun q => c23 ((ti_eq g3 (ti_k (by decide))).mpr q)
        refine lv_iload_n hx hb d_Model_blockX_34 rfl (lv_at hl 2 rfl) ?_
        have hpost : a2.toInt = bA S Q i j := by
          rw [g2]; unfold bA
          (repeat' split) <;> omega
        exact W.iret (v := a2) hx hb hr (fun t ht hW => ⟨⟨a2, (), rfl, hpost, trivial⟩, hS.F ht⟩) hS.2.2 d_Model_blockX_35
      · skip
        have c23 : Q = 2 := (ti_eq g3 (ti_k (by decide))).mp c23
        refine lv_iload_n hx hb d_Model_blockX_26 rfl (lv_at hl 0 rfl) ?_
        refine lv_iconst (v := 1) hx hb d_Model_blockX_27 (by decide) ?_
        refine lv_isub hx hb d_Model_blockX_28 ?_
        refine lv_topi (fun v28 e28 => ?_)
        have h28 : v28.toInt = S - 1 := by rw [e28]; exact ti_sub g0 (ti_k (by decide)) (by omega) (by omega)
        refine lv_iload_n hx hb d_Model_blockX_29 rfl (lv_at hl 1 rfl) ?_
        refine lv_isub hx hb d_Model_blockX_30 ?_
        refine lv_topi (fun v30 e30 => ?_)
        have h30 : v30.toInt = (S - 1) - i := by rw [e30]; exact ti_sub h28 g1 (by omega) (by omega)
        refine lv_goto (tgt := 35) hx hb d_Model_blockX_31 (by decide) ?_
        have hpost : v30.toInt = bA S Q i j := by
          rw [h30]; unfold bA
          (repeat' split) <;> omega
        exact W.iret (v := v30) hx hb hr (fun t ht hW => ⟨⟨v30, (), rfl, hpost, trivial⟩, hS.F ht⟩) hS.2.2 d_Model_blockX_35
    · skip
      have c10 : Q = 1 := (ti_eq g3 (ti_k (by decide))).mp c10
      refine lv_iload_n hx hb d_Model_blockX_13 rfl (lv_at hl 0 rfl) ?_
      refine lv_iconst (v := 1) hx hb d_Model_blockX_14 (by decide) ?_
      refine lv_isub hx hb d_Model_blockX_15 ?_
      refine lv_topi (fun v15 e15 => ?_)
      have h15 : v15.toInt = S - 1 := by rw [e15]; exact ti_sub g0 (ti_k (by decide)) (by omega) (by omega)
      refine lv_iload_n hx hb d_Model_blockX_16 rfl (lv_at hl 2 rfl) ?_
      refine lv_isub hx hb d_Model_blockX_17 ?_
      refine lv_topi (fun v17 e17 => ?_)
      have h17 : v17.toInt = (S - 1) - j := by rw [e17]; exact ti_sub h15 g2 (by omega) (by omega)
      refine lv_goto (tgt := 35) hx hb d_Model_blockX_18 (by decide) ?_
      have hpost : v17.toInt = bA S Q i j := by
        rw [h17]; unfold bA
        (repeat' split) <;> omega
      exact W.iret (v := v17) hx hb hr (fun t ht hW => ⟨⟨v17, (), rfl, hpost, trivial⟩, hS.F ht⟩) hS.2.2 d_Model_blockX_35
  · skip
    have c1 : Q = 0 := (ti_eq g3 (ti_k (by decide))).mp c1
    refine lv_iload_n hx hb d_Model_blockX_4 rfl (lv_at hl 1 rfl) ?_
    refine lv_goto (tgt := 35) hx hb d_Model_blockX_5 (by decide) ?_
    have hpost : a1.toInt = bA S Q i j := by
      rw [g1]; unfold bA
      (repeat' split) <;> omega
    exact W.iret (v := a1) hx hb hr (fun t ht hW => ⟨⟨a1, (), rfl, hpost, trivial⟩, hS.F ht⟩) hS.2.2 d_Model_blockX_35

set_option maxHeartbeats 4000000 in
set_option maxRecDepth 100000 in
theorem m_blockY (l : Launch) (dC : Nat → ClassId) (dI : Nat → Nat → Nat) (a0 a1 a2 a3 : Int32) (S i j Q : Int) (g0 : a0.toInt = S) (g1 : a1.toInt = i) (g2 : a2.toInt = j) (g3 : a3.toInt = Q) (s1 : S ≤ 177) (i0 : 0 ≤ i) (i1 : i < S) (j0 : 0 ≤ j) (j1 : j < S) : Met l y_Model_blockY (.code y_Model_blockY b_Model_blockY 4 (some .int) :: allw) ({ frames := 0, cells := 0, slots := 0, locals := 0 }) (va_Pc [.int a0, .int a1, .int a2, .int a3] (ro_B (dC, dI) vwCl [] [])) (va_Qi (fun (r : Int32) (_ : Unit) => r.toInt = bB S Q i j) (fun _ _ => True) (fun _ => False)) 0 0 (fun _ => False) := by
  refine Met.ofW (cc := b_Model_blockY) (maxL := 4) (ret := (some .int)) (by decide) rfl ?_
  intro p e s m args below meth c s₁ B hml hv
  obtain ⟨rfl, hP, hK⟩ := hv
  have hx := B.exec
  have hb := B.bytes
  have hr := B.returns
  have hts : ∀ w ∈ allw, w.before _ s = true := fun w h => atoms_spec (ws := .code y_Model_blockY b_Model_blockY 4 (some .int) :: allw) B.pre w (List.mem_cons_of_mem _ h)
  have hown : s.vm.findClass R_Model = some m.cls := findClass_of_methodNamed B.named
  have hlocks := B.notSynchronized
  have hS : va_S (fun _ => False) s.heap s.heap [] := va_S.rf
  have hP : va_P (dC, dI) vwCl [] s.heap := hP
  have hl := lv_entry ([.int a0, .int a1, .int a2, .int a3]) (n := 4) (Nat.le_of_ble_eq_true rfl)
  rw [lg_entry_eq]
  generalize (lg_sl ([.int a0, .int a1, .int a2, .int a3]) ++ List.replicate (4 - (lg_sl ([.int a0, .int a1, .int a2, .int a3])).length) Slot.unset).toArray = ls at hl ⊢
  have hl : lv_has ls 4 [(0, .int a0), (1, .int a1), (2, .int a2), (3, .int a3)] := hl
  refine lv_iload_n hx hb d_Model_blockY_0 rfl (lv_at hl 3 rfl) ?_
  refine lv_if_ne (tgt := 8) hx hb d_Model_blockY_1 (by decide) (fun c1 => ?_) (fun c1 => ?_)
  · skip
    have c1 : ¬ (Q = 0) := fun q => c1 ((ti_eq g3 (ti_k (by decide))).mpr q)
    refine lv_iload_n hx hb d_Model_blockY_8 rfl (lv_at hl 3 rfl) ?_
    refine lv_iconst (v := 1) hx hb d_Model_blockY_9 (by decide) ?_
    refine lv_icmp_ne (tgt := 17) hx hb d_Model_blockY_10 (by decide) (fun c10 => ?_) (fun c10 => ?_)
    · skip
      have c10 : ¬ (Q = 1) := fun q => c10 ((ti_eq g3 (ti_k (by decide))).mpr q)
      refine lv_iload_n hx hb d_Model_blockY_17 rfl (lv_at hl 3 rfl) ?_
      refine lv_iconst (v := 2) hx hb d_Model_blockY_18 (by decide) ?_
      refine lv_icmp_ne (tgt := 30) hx hb d_Model_blockY_19 (by decide) (fun c19 => ?_) (fun c19 => ?_)
      · skip
        have c19 : ¬ (Q = 2) := fun q => c19 ((ti_eq g3 (ti_k (by decide))).mpr q)
        refine lv_iload_n hx hb d_Model_blockY_30 rfl (lv_at hl 0 rfl) ?_
        refine lv_iconst (v := 1) hx hb d_Model_blockY_31 (by decide) ?_
        refine lv_isub hx hb d_Model_blockY_32 ?_
        refine lv_topi (fun v32 e32 => ?_)
        have h32 : v32.toInt = S - 1 := by rw [e32]; exact ti_sub g0 (ti_k (by decide)) (by omega) (by omega)
        refine lv_iload_n hx hb d_Model_blockY_33 rfl (lv_at hl 1 rfl) ?_
        refine lv_isub hx hb d_Model_blockY_34 ?_
        refine lv_topi (fun v34 e34 => ?_)
        have h34 : v34.toInt = (S - 1) - i := by rw [e34]; exact ti_sub h32 g1 (by omega) (by omega)
        have hpost : v34.toInt = bB S Q i j := by
          rw [h34]; unfold bB
          (repeat' split) <;> omega
        exact W.iret (v := v34) hx hb hr (fun t ht hW => ⟨⟨v34, (), rfl, hpost, trivial⟩, hS.F ht⟩) hS.2.2 d_Model_blockY_35
      · skip
        have c19 : Q = 2 := (ti_eq g3 (ti_k (by decide))).mp c19
        refine lv_iload_n hx hb d_Model_blockY_22 rfl (lv_at hl 0 rfl) ?_
        refine lv_iconst (v := 1) hx hb d_Model_blockY_23 (by decide) ?_
        refine lv_isub hx hb d_Model_blockY_24 ?_
        refine lv_topi (fun v24 e24 => ?_)
        have h24 : v24.toInt = S - 1 := by rw [e24]; exact ti_sub g0 (ti_k (by decide)) (by omega) (by omega)
        refine lv_iload_n hx hb d_Model_blockY_25 rfl (lv_at hl 2 rfl) ?_
        refine lv_isub hx hb d_Model_blockY_26 ?_
        refine lv_topi (fun v26 e26 => ?_)
        have h26 : v26.toInt = (S - 1) - j := by rw [e26]; exact ti_sub h24 g2 (by omega) (by omega)
        refine lv_goto (tgt := 35) hx hb d_Model_blockY_27 (by decide) ?_
        have hpost : v26.toInt = bB S Q i j := by
          rw [h26]; unfold bB
          (repeat' split) <;> omega
        exact W.iret (v := v26) hx hb hr (fun t ht hW => ⟨⟨v26, (), rfl, hpost, trivial⟩, hS.F ht⟩) hS.2.2 d_Model_blockY_35
    · skip
      have c10 : Q = 1 := (ti_eq g3 (ti_k (by decide))).mp c10
      refine lv_iload_n hx hb d_Model_blockY_13 rfl (lv_at hl 1 rfl) ?_
      refine lv_goto (tgt := 35) hx hb d_Model_blockY_14 (by decide) ?_
      have hpost : a1.toInt = bB S Q i j := by
        rw [g1]; unfold bB
        (repeat' split) <;> omega
      exact W.iret (v := a1) hx hb hr (fun t ht hW => ⟨⟨a1, (), rfl, hpost, trivial⟩, hS.F ht⟩) hS.2.2 d_Model_blockY_35
  · skip
    have c1 : Q = 0 := (ti_eq g3 (ti_k (by decide))).mp c1
    refine lv_iload_n hx hb d_Model_blockY_4 rfl (lv_at hl 2 rfl) ?_
    refine lv_goto (tgt := 35) hx hb d_Model_blockY_5 (by decide) ?_
    have hpost : a2.toInt = bB S Q i j := by
      rw [g2]; unfold bB
      (repeat' split) <;> omega
    exact W.iret (v := a2) hx hb hr (fun t ht hW => ⟨⟨a2, (), rfl, hpost, trivial⟩, hS.F ht⟩) hS.2.2 d_Model_blockY_35

set_option maxHeartbeats 4000000 in
set_option maxRecDepth 100000 in
theorem m_isPlace (l : Launch) (dC : Nat → ClassId) (dI : Nat → Nat → Nat) (mo ad asu aru ast afo : Nat) (mth mw mh mro msd mmn : Int32) (Wd Ht : Int) (hmw : mw.toInt = Wd) (hmh : mh.toInt = Ht) (hW1 : 1 ≤ Wd) (hW2 : Wd ≤ 512) (hH1 : 1 ≤ Ht) (hH2 : Ht ≤ 512) (a1 a2 a3 : Int32) (x y d : Int) (g1 : a1.toInt = x) (g2 : a2.toInt = y) (g3 : a3.toInt = d) (d0 : 0 ≤ d) : Met l y_Model_isPlace (.code y_Model_isPlace b_Model_isPlace 4 (some .boolean) :: allw) ({ frames := 0, cells := 0, slots := 0, locals := 0 }) (va_Pc [.ref mo, .int a1, .int a2, .int a3] (ro_B (dC, dI) vwCl [(mo, .inr (5, [.int mth, .int mw, .int mh, .ref ad, .ref asu, .ref aru, .int mro, .ref ast, .int msd, .ref afo, .int mmn]))] [])) (va_Qi (fun (r : Int32) (_ : Unit) => isB r (0 ≤ x ∧ x ≤ Wd - d ∧ 0 ≤ y ∧ y ≤ Ht - d)) (fun _ _ => True) (fun _ => False)) 0 0 (fun _ => False) := by
  refine Met.ofW (cc := b_Model_isPlace) (maxL := 4) (ret := (some .boolean)) (by decide) rfl ?_
  intro p e s m args below meth c s₁ B hml hv
  obtain ⟨rfl, hP, hK⟩ := hv
  have hx := B.exec
  have hb := B.bytes
  have hr := B.returns
  have hts : ∀ w ∈ allw, w.before _ s = true := fun w h => atoms_spec (ws := .code y_Model_isPlace b_Model_isPlace 4 (some .boolean) :: allw) B.pre w (List.mem_cons_of_mem _ h)
  have hown : s.vm.findClass R_Model = some m.cls := findClass_of_methodNamed B.named
  have hlocks := B.notSynchronized
  have hS : va_S (fun _ => False) s.heap s.heap [] := va_S.rf
  have hP : va_P (dC, dI) vwCl [(mo, .inr (5, [.int mth, .int mw, .int mh, .ref ad, .ref asu, .ref aru, .int mro, .ref ast, .int msd, .ref afo, .int mmn]))] s.heap := hP
  have hl := lv_entry ([.ref mo, .int a1, .int a2, .int a3]) (n := 4) (Nat.le_of_ble_eq_true rfl)
  rw [lg_entry_eq]
  generalize (lg_sl ([.ref mo, .int a1, .int a2, .int a3]) ++ List.replicate (4 - (lg_sl ([.ref mo, .int a1, .int a2, .int a3])).length) Slot.unset).toArray = ls at hl ⊢
  have hl : lv_has ls 4 [(0, .ref mo), (1, .int a1), (2, .int a2), (3, .int a3)] := hl
  have q3 := ti_rng a3
  refine lv_iload_n hx hb d_Model_isPlace_0 rfl (lv_at hl 1 rfl) ?_
  refine lv_if_lt (tgt := 32) hx hb d_Model_isPlace_1 (by decide) (fun c1 => ?_) (fun c1 => ?_)
  · skip
    have c1 : x < 0 := (ti_lt g1 (ti_k (by decide))).mp c1
    refine lv_iconst (v := 0) hx hb d_Model_isPlace_32 (by decide) ?_
    have hpost : isB 0 (0 ≤ x ∧ x ≤ Wd - d ∧ 0 ≤ y ∧ y ≤ Ht - d) := by
      exact Or.inr ⟨rfl, by omega⟩
    exact W.zret (v := 0) hx hb hr (by decide) (fun t ht hW => ⟨⟨0, (), rfl, hpost, trivial⟩, hS.F ht⟩) hS.2.2 d_Model_isPlace_33
  · skip
    have c1 : ¬ (x < 0) := fun q => c1 ((ti_lt g1 (ti_k (by decide))).mpr q)
    refine lv_iload_n hx hb d_Model_isPlace_4 rfl (lv_at hl 1 rfl) ?_
    refine lv_aload_n hx hb d_Model_isPlace_5 rfl (lv_at hl 0 rfl) ?_
    refine va_get (D := (dC, dI)) (ci := 5) (v := .int mw) (C := R_Model) (T := T_Model) (N := 11) hx hb hts i_Model hown hK hP 0 rfl rfl 1 (by decide) (hts _ wd_566) (fun _ h9 => h9) rfl d_Model_isPlace_6 ?_
    refine lv_iload_n hx hb d_Model_isPlace_9 rfl (lv_at hl 3 rfl) ?_
    refine lv_isub hx hb d_Model_isPlace_10 ?_
    refine lv_topi (fun v10 e10 => ?_)
    have h10 : v10.toInt = Wd - d := by rw [e10]; exact ti_sub hmw g3 (by omega) (by omega)
    refine lv_icmp_gt (tgt := 32) hx hb d_Model_isPlace_11 (by decide) (fun c11 => ?_) (fun c11 => ?_)
    · skip
      have c11 : (Wd - d) < x := (ti_lt h10 g1).mp c11
      refine lv_iconst (v := 0) hx hb d_Model_isPlace_32 (by decide) ?_
      have hpost : isB 0 (0 ≤ x ∧ x ≤ Wd - d ∧ 0 ≤ y ∧ y ≤ Ht - d) := by
        exact Or.inr ⟨rfl, by omega⟩
      exact W.zret (v := 0) hx hb hr (by decide) (fun t ht hW => ⟨⟨0, (), rfl, hpost, trivial⟩, hS.F ht⟩) hS.2.2 d_Model_isPlace_33
    · skip
      have c11 : ¬ ((Wd - d) < x) := fun q => c11 ((ti_lt h10 g1).mpr q)
      refine lv_iload_n hx hb d_Model_isPlace_14 rfl (lv_at hl 2 rfl) ?_
      refine lv_if_lt (tgt := 32) hx hb d_Model_isPlace_15 (by decide) (fun c15 => ?_) (fun c15 => ?_)
      · skip
        have c15 : y < 0 := (ti_lt g2 (ti_k (by decide))).mp c15
        refine lv_iconst (v := 0) hx hb d_Model_isPlace_32 (by decide) ?_
        have hpost : isB 0 (0 ≤ x ∧ x ≤ Wd - d ∧ 0 ≤ y ∧ y ≤ Ht - d) := by
          exact Or.inr ⟨rfl, by omega⟩
        exact W.zret (v := 0) hx hb hr (by decide) (fun t ht hW => ⟨⟨0, (), rfl, hpost, trivial⟩, hS.F ht⟩) hS.2.2 d_Model_isPlace_33
      · skip
        have c15 : ¬ (y < 0) := fun q => c15 ((ti_lt g2 (ti_k (by decide))).mpr q)
        refine lv_iload_n hx hb d_Model_isPlace_18 rfl (lv_at hl 2 rfl) ?_
        refine lv_aload_n hx hb d_Model_isPlace_19 rfl (lv_at hl 0 rfl) ?_
        refine va_get (D := (dC, dI)) (ci := 5) (v := .int mh) (C := R_Model) (T := T_Model) (N := 11) hx hb hts i_Model hown hK hP 0 rfl rfl 2 (by decide) (hts _ wd_567) (fun _ h9 => h9) rfl d_Model_isPlace_20 ?_
        refine lv_iload_n hx hb d_Model_isPlace_23 rfl (lv_at hl 3 rfl) ?_
        refine lv_isub hx hb d_Model_isPlace_24 ?_
        refine lv_topi (fun v24 e24 => ?_)
        have h24 : v24.toInt = Ht - d := by rw [e24]; exact ti_sub hmh g3 (by omega) (by omega)
        refine lv_icmp_gt (tgt := 32) hx hb d_Model_isPlace_25 (by decide) (fun c25 => ?_) (fun c25 => ?_)
        · skip
          have c25 : (Ht - d) < y := (ti_lt h24 g2).mp c25
          refine lv_iconst (v := 0) hx hb d_Model_isPlace_32 (by decide) ?_
          have hpost : isB 0 (0 ≤ x ∧ x ≤ Wd - d ∧ 0 ≤ y ∧ y ≤ Ht - d) := by
            exact Or.inr ⟨rfl, by omega⟩
          exact W.zret (v := 0) hx hb hr (by decide) (fun t ht hW => ⟨⟨0, (), rfl, hpost, trivial⟩, hS.F ht⟩) hS.2.2 d_Model_isPlace_33
        · skip
          have c25 : ¬ ((Ht - d) < y) := fun q => c25 ((ti_lt h24 g2).mpr q)
          refine lv_iconst (v := 1) hx hb d_Model_isPlace_28 (by decide) ?_
          refine lv_goto (tgt := 33) hx hb d_Model_isPlace_29 (by decide) ?_
          have hpost : isB 1 (0 ≤ x ∧ x ≤ Wd - d ∧ 0 ≤ y ∧ y ≤ Ht - d) := by
            exact Or.inl ⟨rfl, by omega⟩
          exact W.zret (v := 1) hx hb hr (by decide) (fun t ht hW => ⟨⟨1, (), rfl, hpost, trivial⟩, hS.F ht⟩) hS.2.2 d_Model_isPlace_33

set_option maxHeartbeats 4000000 in
set_option maxRecDepth 100000 in
theorem m_module (l : Launch) (dC : Nat → ClassId) (dI : Nat → Nat → Nat) (a0 a1 a2 : Int32) (v i j : Int) (g0 : a0.toInt = v) (g1 : a1.toInt = i) (g2 : a2.toInt = j) (v0 : 1 ≤ v) (v1 : v ≤ 40) (i0 : 0 ≤ i) (i1 : i < 17 + 4 * v) (j0 : 0 ≤ j) (j1 : j < 17 + 4 * v) : Met l y_Model_module (.code y_Model_module b_Model_module 5 (some .int) :: allw) ({ frames := 2, cells := 0, slots := 0, locals := 44 }) (va_Pc [.int a0, .int a1, .int a2] (ro_B (dC, dI) vwCl [] [])) (va_Qi (fun (r : Int32) (_ : Unit) => r.toInt = mdl (17 + 4 * v) i j) (fun _ _ => True) (fun _ => False)) 0 0 (fun _ => False) := by
  refine Met.ofW (cc := b_Model_module) (maxL := 5) (ret := (some .int)) (by decide) rfl ?_
  intro p e s m args below meth c s₁ B hml hv
  obtain ⟨rfl, hP, hK⟩ := hv
  have hx := B.exec
  have hb := B.bytes
  have hr := B.returns
  have hts : ∀ w ∈ allw, w.before _ s = true := fun w h => atoms_spec (ws := .code y_Model_module b_Model_module 5 (some .int) :: allw) B.pre w (List.mem_cons_of_mem _ h)
  have hown : s.vm.findClass R_Model = some m.cls := findClass_of_methodNamed B.named
  have hlocks := B.notSynchronized
  have hS : va_S (fun _ => False) s.heap s.heap [] := va_S.rf
  have hP : va_P (dC, dI) vwCl [] s.heap := hP
  have hl := lv_entry ([.int a0, .int a1, .int a2]) (n := 5) (Nat.le_of_ble_eq_true rfl)
  rw [lg_entry_eq]
  generalize (lg_sl ([.int a0, .int a1, .int a2]) ++ List.replicate (5 - (lg_sl ([.int a0, .int a1, .int a2])).length) Slot.unset).toArray = ls at hl ⊢
  have hl : lv_has ls 5 [(0, .int a0), (1, .int a1), (2, .int a2)] := hl
  refine lv_iload_n hx hb d_Model_module_0 rfl (lv_at hl 0 rfl) ?_
  have hPc := hP.sub (ws' := []) [] rfl
  have hKc := hK.sub (tys' := []) [] rfl
  refine va_calli (va_runS (As := [.int a0]) (rest := []) ⟨hx, hb, hml, hown, hts⟩ (m_side l dC dI a0 v g0 (by omega) (by omega)) (aw_S 1 hts wd_636 wd_637 wd_5 wd_638 rfl rfl (by decide +kernel) ⟨Nat.le_of_ble_eq_true rfl, Nat.le_of_ble_eq_true rfl⟩) ⟨ro_blind, ro_pre hPc hKc⟩ rfl rfl hl.1 rfl (lv_room (Nat.le_of_ble_eq_true rfl)) d_Model_module_1 ⟨Nat.le_of_ble_eq_true rfl, Nat.le_of_ble_eq_true rfl⟩) hS (fun q _ h => h.elim) (fun q h => h.elim) (fun v1 _ t9 H1 locs ht hvm h1 hB hz1 hk1 hS => ?_)
  have hP := ro_keep hP hk1
  clear hPc hKc ht hvm hB hz1 hk1
  obtain ⟨S, kS⟩ : ∃ c : Int, c = (17 + 4 * v) := ⟨_, rfl⟩
  have h1 : v1.toInt = S := by rw [h1, kS]
  refine lv_istore_n (lv' := [(3, .int v1), (0, .int a0), (1, .int a1), (2, .int a2)]) hx hb d_Model_module_4 rfl hl (by decide) rfl (fun ls hl => ?_)
  have d1 := dst_b (i := i) (j := j) (a := 3) (b := 3) (by omega) (by omega) (by omega) (by omega) (by omega) (by omega) (by omega) (by omega)
  have d2 := dst_b (i := i) (j := j) (a := S - 4) (b := 3) (by omega) (by omega) (by omega) (by omega) (by omega) (by omega) (by omega) (by omega)
  have d3 := dst_b (i := i) (j := j) (a := 3) (b := S - 4) (by omega) (by omega) (by omega) (by omega) (by omega) (by omega) (by omega) (by omega)
  refine lv_iload_n hx hb d_Model_module_5 rfl (lv_at hl 2 rfl) ?_
  refine lv_iload_n hx hb d_Model_module_6 rfl (lv_at hl 3 rfl) ?_
  refine lv_iconst (v := 3) hx hb d_Model_module_7 (by decide) ?_
  refine lv_iconst (v := 3) hx hb d_Model_module_8 (by decide) ?_
  have hPc := hP.sub (ws' := []) [] rfl
  have hKc := hK.sub (tys' := []) [] rfl
  refine va_calli (va_runS (As := [.int a1, .int a2, .int 3, .int 3]) (rest := []) ⟨hx, hb, hml, hown, hts⟩ (m_distance l dC dI a1 a2 3 3 i j 3 3 g1 g2 (ti_k (by decide)) (ti_k (by decide)) (by omega) (by omega) (by omega) (by omega) (by omega) (by omega) (by omega) (by omega)) (aw_S 4 hts wd_646 wd_647 wd_5 wd_648 rfl rfl (by decide +kernel) ⟨Nat.le_of_ble_eq_true rfl, Nat.le_of_ble_eq_true rfl⟩) ⟨ro_blind, ro_pre hPc hKc⟩ rfl rfl hl.1 rfl (lv_room (Nat.le_of_ble_eq_true rfl)) d_Model_module_9 ⟨Nat.le_of_ble_eq_true rfl, Nat.le_of_ble_eq_true rfl⟩) hS (fun q _ h => h.elim) (fun q h => h.elim) (fun v9 _ t9 H9 locs ht hvm h9 hB hz1 hk1 hS => ?_)
  have hP := ro_keep hP hk1
  clear hPc hKc ht hvm hB hz1 hk1
  refine lv_istore (lv' := [(4, .int v9), (3, .int v1), (0, .int a0), (1, .int a1), (2, .int a2)]) hx hb d_Model_module_12 hl (by decide) rfl (fun ls hl => ?_)
  refine w_cut (I := fun H' locs' g' => ∃ (dv : Int32) (zdv : Int) (ls : Array Slot), g' = F0 m 34 ls [.int dv] ∧ lv_has ls 5 [(0, .int a0), (1, .int a1), (2, .int a2), (3, .int v1), (4, .int v9)] ∧ dv.toInt = zdv ∧ (zdv = if dst i j 3 3 ≤ 4 then dst i j 3 3 else dst i j (S - 4) 3) ∧ va_P (dC, dI) vwCl [] H' ∧ va_S (fun _ => False) s.heap H' locs') ?_ ?_
  · skip
    intro H34 locs g' hI
    obtain ⟨dv, zdv, ls, rfl, hl, hdv, idv, hP, hS⟩ := hI
    refine lv_istore (lv' := [(4, .int dv), (0, .int a0), (1, .int a1), (2, .int a2), (3, .int v1)]) hx hb d_Model_module_34 hl (by decide) rfl (fun ls hl => ?_)
    refine w_cut (I := fun H' locs' g' => ∃ (dw : Int32) (zdw : Int) (ls : Array Slot), g' = F0 m 56 ls [.int dw] ∧ lv_has ls 5 [(0, .int a0), (1, .int a1), (2, .int a2), (3, .int v1), (4, .int dv)] ∧ dw.toInt = zdw ∧ (zdw = if dst i j 3 3 ≤ 4 then dst i j 3 3 else if dst i j (S - 4) 3 ≤ 4 then dst i j (S - 4) 3 else dst i j 3 (S - 4)) ∧ va_P (dC, dI) vwCl [] H' ∧ va_S (fun _ => False) s.heap H' locs') ?_ ?_
    · skip
      intro H56 locs g' hI
      obtain ⟨dw, zdw, ls, rfl, hl, hdw, idw, hP, hS⟩ := hI
      refine lv_istore (lv' := [(4, .int dw), (0, .int a0), (1, .int a1), (2, .int a2), (3, .int v1)]) hx hb d_Model_module_56 hl (by decide) rfl (fun ls hl => ?_)
      refine lv_iload hx hb d_Model_module_58 (lv_at hl 0 rfl) ?_
      refine lv_iconst (v := 4) hx hb d_Model_module_60 (by decide) ?_
      refine lv_icmp_gt (tgt := 82) hx hb d_Model_module_61 (by decide) (fun c61 => ?_) (fun c61 => ?_)
      · skip
        have c61 : 4 < zdw := (ti_lt (ti_k (by decide)) hdw).mp c61
        refine lv_iload_n hx hb d_Model_module_82 rfl (lv_at hl 3 rfl) ?_
        refine lv_bipush (v := 6) hx hb d_Model_module_83 (by decide) ?_
        refine lv_icmp_ne (tgt := 114) hx hb d_Model_module_85 (by decide) (fun c85 => ?_) (fun c85 => ?_)
        · skip
          have c85 : ¬ (j = 6) := fun q => c85 ((ti_eq g2 (ti_k (by decide))).mpr q)
          refine lv_iload_n hx hb d_Model_module_114 rfl (lv_at hl 2 rfl) ?_
          refine lv_bipush (v := 6) hx hb d_Model_module_115 (by decide) ?_
          refine lv_icmp_ne (tgt := 146) hx hb d_Model_module_117 (by decide) (fun c117 => ?_) (fun c117 => ?_)
          · skip
            have c117 : ¬ (i = 6) := fun q => c117 ((ti_eq g1 (ti_k (by decide))).mpr q)
            refine lv_iload_n hx hb d_Model_module_146 rfl (lv_at hl 2 rfl) ?_
            refine lv_bipush (v := 8) hx hb d_Model_module_147 (by decide) ?_
            refine lv_icmp_ne (tgt := 164) hx hb d_Model_module_149 (by decide) (fun c149 => ?_) (fun c149 => ?_)
            · skip
              have c149 : ¬ (i = 8) := fun q => c149 ((ti_eq g1 (ti_k (by decide))).mpr q)
              refine lv_iconst (v := (-1)) hx hb d_Model_module_164 (by decide) ?_
              have hpost : ((-1) : Int32).toInt = mdl (17 + 4 * v) i j := by
                rw [← kS, mdl_w idw]
                unfold cC mdl2
                (repeat' split) <;> first | rfl | omega
              exact W.iret (v := (-1)) hx hb hr (fun t ht hW => ⟨⟨(-1), (), rfl, hpost, trivial⟩, hS.F ht⟩) hS.2.2 d_Model_module_165
            · skip
              have c149 : i = 8 := (ti_eq g1 (ti_k (by decide))).mp c149
              refine lv_iload_n hx hb d_Model_module_152 rfl (lv_at hl 3 rfl) ?_
              refine lv_iload_n hx hb d_Model_module_153 rfl (lv_at hl 4 rfl) ?_
              refine lv_bipush (v := 8) hx hb d_Model_module_154 (by decide) ?_
              refine lv_isub hx hb d_Model_module_156 ?_
              refine lv_topi (fun v156 e156 => ?_)
              have h156 : v156.toInt = S - 8 := by rw [e156]; exact ti_sub h1 (ti_k (by decide)) (by omega) (by omega)
              refine lv_icmp_ne (tgt := 164) hx hb d_Model_module_157 (by decide) (fun c157 => ?_) (fun c157 => ?_)
              · skip
                have c157 : ¬ (j = (S - 8)) := fun q => c157 ((ti_eq g2 h156).mpr q)
                refine lv_iconst (v := (-1)) hx hb d_Model_module_164 (by decide) ?_
                have hpost : ((-1) : Int32).toInt = mdl (17 + 4 * v) i j := by
                  rw [← kS, mdl_w idw]
                  unfold cC mdl2
                  (repeat' split) <;> first | rfl | omega
                exact W.iret (v := (-1)) hx hb hr (fun t ht hW => ⟨⟨(-1), (), rfl, hpost, trivial⟩, hS.F ht⟩) hS.2.2 d_Model_module_165
              · skip
                have c157 : j = (S - 8) := (ti_eq g2 h156).mp c157
                refine lv_iconst (v := 1) hx hb d_Model_module_160 (by decide) ?_
                refine lv_goto (tgt := 165) hx hb d_Model_module_161 (by decide) ?_
                have hpost : (1 : Int32).toInt = mdl (17 + 4 * v) i j := by
                  rw [← kS, mdl_w idw]
                  unfold cC mdl2
                  (repeat' split) <;> first | rfl | omega
                exact W.iret (v := 1) hx hb hr (fun t ht hW => ⟨⟨1, (), rfl, hpost, trivial⟩, hS.F ht⟩) hS.2.2 d_Model_module_165
          · skip
            have c117 : i = 6 := (ti_eq g1 (ti_k (by decide))).mp c117
            refine lv_iload_n hx hb d_Model_module_120 rfl (lv_at hl 3 rfl) ?_
            refine lv_bipush (v := 8) hx hb d_Model_module_121 (by decide) ?_
            refine lv_icmp_lt (tgt := 146) hx hb d_Model_module_123 (by decide) (fun c123 => ?_) (fun c123 => ?_)
            · skip
              have c123 : j < 8 := (ti_lt g2 (ti_k (by decide))).mp c123
              refine lv_iload_n hx hb d_Model_module_146 rfl (lv_at hl 2 rfl) ?_
              refine lv_bipush (v := 8) hx hb d_Model_module_147 (by decide) ?_
              refine lv_icmp_ne (tgt := 164) hx hb d_Model_module_149 (by decide) (fun c149 => ?_) (fun c149 => ?_)
              · skip
                have c149 : ¬ (i = 8) := fun q => c149 ((ti_eq g1 (ti_k (by decide))).mpr q)
                refine lv_iconst (v := (-1)) hx hb d_Model_module_164 (by decide) ?_
                have hpost : ((-1) : Int32).toInt = mdl (17 + 4 * v) i j := by
                  rw [← kS, mdl_w idw]
                  unfold cC mdl2
                  (repeat' split) <;> first | rfl | omega
                exact W.iret (v := (-1)) hx hb hr (fun t ht hW => ⟨⟨(-1), (), rfl, hpost, trivial⟩, hS.F ht⟩) hS.2.2 d_Model_module_165
              · skip
                have c149 : i = 8 := (ti_eq g1 (ti_k (by decide))).mp c149
                refine lv_iload_n hx hb d_Model_module_152 rfl (lv_at hl 3 rfl) ?_
                refine lv_iload_n hx hb d_Model_module_153 rfl (lv_at hl 4 rfl) ?_
                refine lv_bipush (v := 8) hx hb d_Model_module_154 (by decide) ?_
                refine lv_isub hx hb d_Model_module_156 ?_
                refine lv_topi (fun v156 e156 => ?_)
                have h156 : v156.toInt = S - 8 := by rw [e156]; exact ti_sub h1 (ti_k (by decide)) (by omega) (by omega)
                refine lv_icmp_ne (tgt := 164) hx hb d_Model_module_157 (by decide) (fun c157 => ?_) (fun c157 => ?_)
                · skip
                  have c157 : ¬ (j = (S - 8)) := fun q => c157 ((ti_eq g2 h156).mpr q)
                  refine lv_iconst (v := (-1)) hx hb d_Model_module_164 (by decide) ?_
                  have hpost : ((-1) : Int32).toInt = mdl (17 + 4 * v) i j := by
                    rw [← kS, mdl_w idw]
                    unfold cC mdl2
                    (repeat' split) <;> first | rfl | omega
                  exact W.iret (v := (-1)) hx hb hr (fun t ht hW => ⟨⟨(-1), (), rfl, hpost, trivial⟩, hS.F ht⟩) hS.2.2 d_Model_module_165
                · skip
                  have c157 : j = (S - 8) := (ti_eq g2 h156).mp c157
                  refine lv_iconst (v := 1) hx hb d_Model_module_160 (by decide) ?_
                  refine lv_goto (tgt := 165) hx hb d_Model_module_161 (by decide) ?_
                  have hpost : (1 : Int32).toInt = mdl (17 + 4 * v) i j := by
                    rw [← kS, mdl_w idw]
                    unfold cC mdl2
                    (repeat' split) <;> first | rfl | omega
                  exact W.iret (v := 1) hx hb hr (fun t ht hW => ⟨⟨1, (), rfl, hpost, trivial⟩, hS.F ht⟩) hS.2.2 d_Model_module_165
            · skip
              have c123 : ¬ (j < 8) := fun q => c123 ((ti_lt g2 (ti_k (by decide))).mpr q)
              refine lv_iload_n hx hb d_Model_module_126 rfl (lv_at hl 3 rfl) ?_
              refine lv_iload_n hx hb d_Model_module_127 rfl (lv_at hl 4 rfl) ?_
              refine lv_bipush (v := 9) hx hb d_Model_module_128 (by decide) ?_
              refine lv_isub hx hb d_Model_module_130 ?_
              refine lv_topi (fun v130 e130 => ?_)
              have h130 : v130.toInt = S - 9 := by rw [e130]; exact ti_sub h1 (ti_k (by decide)) (by omega) (by omega)
              refine lv_icmp_gt (tgt := 146) hx hb d_Model_module_131 (by decide) (fun c131 => ?_) (fun c131 => ?_)
              · skip
                have c131 : (S - 9) < j := (ti_lt h130 g2).mp c131
                refine lv_iload_n hx hb d_Model_module_146 rfl (lv_at hl 2 rfl) ?_
                refine lv_bipush (v := 8) hx hb d_Model_module_147 (by decide) ?_
                refine lv_icmp_ne (tgt := 164) hx hb d_Model_module_149 (by decide) (fun c149 => ?_) (fun c149 => ?_)
                · skip
                  have c149 : ¬ (i = 8) := fun q => c149 ((ti_eq g1 (ti_k (by decide))).mpr q)
                  refine lv_iconst (v := (-1)) hx hb d_Model_module_164 (by decide) ?_
                  have hpost : ((-1) : Int32).toInt = mdl (17 + 4 * v) i j := by
                    rw [← kS, mdl_w idw]
                    unfold cC mdl2
                    (repeat' split) <;> first | rfl | omega
                  exact W.iret (v := (-1)) hx hb hr (fun t ht hW => ⟨⟨(-1), (), rfl, hpost, trivial⟩, hS.F ht⟩) hS.2.2 d_Model_module_165
                · skip
                  have c149 : i = 8 := (ti_eq g1 (ti_k (by decide))).mp c149
                  refine lv_iload_n hx hb d_Model_module_152 rfl (lv_at hl 3 rfl) ?_
                  refine lv_iload_n hx hb d_Model_module_153 rfl (lv_at hl 4 rfl) ?_
                  refine lv_bipush (v := 8) hx hb d_Model_module_154 (by decide) ?_
                  refine lv_isub hx hb d_Model_module_156 ?_
                  refine lv_topi (fun v156 e156 => ?_)
                  have h156 : v156.toInt = S - 8 := by rw [e156]; exact ti_sub h1 (ti_k (by decide)) (by omega) (by omega)
                  refine lv_icmp_ne (tgt := 164) hx hb d_Model_module_157 (by decide) (fun c157 => ?_) (fun c157 => ?_)
                  · skip
                    have c157 : ¬ (j = (S - 8)) := fun q => c157 ((ti_eq g2 h156).mpr q)
                    refine lv_iconst (v := (-1)) hx hb d_Model_module_164 (by decide) ?_
                    have hpost : ((-1) : Int32).toInt = mdl (17 + 4 * v) i j := by
                      rw [← kS, mdl_w idw]
                      unfold cC mdl2
                      (repeat' split) <;> first | rfl | omega
                    exact W.iret (v := (-1)) hx hb hr (fun t ht hW => ⟨⟨(-1), (), rfl, hpost, trivial⟩, hS.F ht⟩) hS.2.2 d_Model_module_165
                  · skip
                    have c157 : j = (S - 8) := (ti_eq g2 h156).mp c157
                    refine lv_iconst (v := 1) hx hb d_Model_module_160 (by decide) ?_
                    refine lv_goto (tgt := 165) hx hb d_Model_module_161 (by decide) ?_
                    have hpost : (1 : Int32).toInt = mdl (17 + 4 * v) i j := by
                      rw [← kS, mdl_w idw]
                      unfold cC mdl2
                      (repeat' split) <;> first | rfl | omega
                    exact W.iret (v := 1) hx hb hr (fun t ht hW => ⟨⟨1, (), rfl, hpost, trivial⟩, hS.F ht⟩) hS.2.2 d_Model_module_165
              · skip
                have c131 : ¬ ((S - 9) < j) := fun q => c131 ((ti_lt h130 g2).mpr q)
                refine lv_iload_n hx hb d_Model_module_134 rfl (lv_at hl 3 rfl) ?_
                refine lv_iconst (v := 2) hx hb d_Model_module_135 (by decide) ?_
                refine lv_irem hx hb d_Model_module_136 (by decide) ?_
                refine lv_topi (fun v136 e136 => ?_)
                have h136 : v136.toInt = j % 2 := by rw [e136]; exact ti_rem g2 (ti_k (by decide)) (by omega) (by omega)
                refine lv_if_ne (tgt := 144) hx hb d_Model_module_137 (by decide) (fun c137 => ?_) (fun c137 => ?_)
                · skip
                  have c137 : ¬ ((j % 2) = 0) := fun q => c137 ((ti_eq h136 (ti_k (by decide))).mpr q)
                  refine lv_iconst (v := 0) hx hb d_Model_module_144 (by decide) ?_
                  have hpost : (0 : Int32).toInt = mdl (17 + 4 * v) i j := by
                    rw [← kS, mdl_w idw]
                    unfold cC mdl2
                    (repeat' split) <;> first | rfl | omega
                  exact W.iret (v := 0) hx hb hr (fun t ht hW => ⟨⟨0, (), rfl, hpost, trivial⟩, hS.F ht⟩) hS.2.2 d_Model_module_145
                · skip
                  have c137 : (j % 2) = 0 := (ti_eq h136 (ti_k (by decide))).mp c137
                  refine lv_iconst (v := 1) hx hb d_Model_module_140 (by decide) ?_
                  refine lv_goto (tgt := 145) hx hb d_Model_module_141 (by decide) ?_
                  have hpost : (1 : Int32).toInt = mdl (17 + 4 * v) i j := by
                    rw [← kS, mdl_w idw]
                    unfold cC mdl2
                    (repeat' split) <;> first | rfl | omega
                  exact W.iret (v := 1) hx hb hr (fun t ht hW => ⟨⟨1, (), rfl, hpost, trivial⟩, hS.F ht⟩) hS.2.2 d_Model_module_145
        · skip
          have c85 : j = 6 := (ti_eq g2 (ti_k (by decide))).mp c85
          refine lv_iload_n hx hb d_Model_module_88 rfl (lv_at hl 2 rfl) ?_
          refine lv_bipush (v := 8) hx hb d_Model_module_89 (by decide) ?_
          refine lv_icmp_lt (tgt := 114) hx hb d_Model_module_91 (by decide) (fun c91 => ?_) (fun c91 => ?_)
          · skip
            have c91 : i < 8 := (ti_lt g1 (ti_k (by decide))).mp c91
            refine lv_iload_n hx hb d_Model_module_114 rfl (lv_at hl 2 rfl) ?_
            refine lv_bipush (v := 6) hx hb d_Model_module_115 (by decide) ?_
            refine lv_icmp_ne (tgt := 146) hx hb d_Model_module_117 (by decide) (fun c117 => ?_) (fun c117 => ?_)
            · skip
              have c117 : ¬ (i = 6) := fun q => c117 ((ti_eq g1 (ti_k (by decide))).mpr q)
              refine lv_iload_n hx hb d_Model_module_146 rfl (lv_at hl 2 rfl) ?_
              refine lv_bipush (v := 8) hx hb d_Model_module_147 (by decide) ?_
              refine lv_icmp_ne (tgt := 164) hx hb d_Model_module_149 (by decide) (fun c149 => ?_) (fun c149 => ?_)
              · skip
                have c149 : ¬ (i = 8) := fun q => c149 ((ti_eq g1 (ti_k (by decide))).mpr q)
                refine lv_iconst (v := (-1)) hx hb d_Model_module_164 (by decide) ?_
                have hpost : ((-1) : Int32).toInt = mdl (17 + 4 * v) i j := by
                  rw [← kS, mdl_w idw]
                  unfold cC mdl2
                  (repeat' split) <;> first | rfl | omega
                exact W.iret (v := (-1)) hx hb hr (fun t ht hW => ⟨⟨(-1), (), rfl, hpost, trivial⟩, hS.F ht⟩) hS.2.2 d_Model_module_165
              · skip
                have c149 : i = 8 := (ti_eq g1 (ti_k (by decide))).mp c149
                refine lv_iload_n hx hb d_Model_module_152 rfl (lv_at hl 3 rfl) ?_
                refine lv_iload_n hx hb d_Model_module_153 rfl (lv_at hl 4 rfl) ?_
                refine lv_bipush (v := 8) hx hb d_Model_module_154 (by decide) ?_
                refine lv_isub hx hb d_Model_module_156 ?_
                refine lv_topi (fun v156 e156 => ?_)
                have h156 : v156.toInt = S - 8 := by rw [e156]; exact ti_sub h1 (ti_k (by decide)) (by omega) (by omega)
                refine lv_icmp_ne (tgt := 164) hx hb d_Model_module_157 (by decide) (fun c157 => ?_) (fun c157 => ?_)
                · skip
                  have c157 : ¬ (j = (S - 8)) := fun q => c157 ((ti_eq g2 h156).mpr q)
                  refine lv_iconst (v := (-1)) hx hb d_Model_module_164 (by decide) ?_
                  have hpost : ((-1) : Int32).toInt = mdl (17 + 4 * v) i j := by
                    rw [← kS, mdl_w idw]
                    unfold cC mdl2
                    (repeat' split) <;> first | rfl | omega
                  exact W.iret (v := (-1)) hx hb hr (fun t ht hW => ⟨⟨(-1), (), rfl, hpost, trivial⟩, hS.F ht⟩) hS.2.2 d_Model_module_165
                · skip
                  have c157 : j = (S - 8) := (ti_eq g2 h156).mp c157
                  refine lv_iconst (v := 1) hx hb d_Model_module_160 (by decide) ?_
                  refine lv_goto (tgt := 165) hx hb d_Model_module_161 (by decide) ?_
                  have hpost : (1 : Int32).toInt = mdl (17 + 4 * v) i j := by
                    rw [← kS, mdl_w idw]
                    unfold cC mdl2
                    (repeat' split) <;> first | rfl | omega
                  exact W.iret (v := 1) hx hb hr (fun t ht hW => ⟨⟨1, (), rfl, hpost, trivial⟩, hS.F ht⟩) hS.2.2 d_Model_module_165
            · skip
              have c117 : i = 6 := (ti_eq g1 (ti_k (by decide))).mp c117
              refine lv_iload_n hx hb d_Model_module_120 rfl (lv_at hl 3 rfl) ?_
              refine lv_bipush (v := 8) hx hb d_Model_module_121 (by decide) ?_
              refine lv_icmp_lt (tgt := 146) hx hb d_Model_module_123 (by decide) (fun c123 => ?_) (fun c123 => ?_)
              · skip
                have c123 : j < 8 := (ti_lt g2 (ti_k (by decide))).mp c123
                refine lv_iload_n hx hb d_Model_module_146 rfl (lv_at hl 2 rfl) ?_
                refine lv_bipush (v := 8) hx hb d_Model_module_147 (by decide) ?_
                refine lv_icmp_ne (tgt := 164) hx hb d_Model_module_149 (by decide) (fun c149 => ?_) (fun c149 => ?_)
                · skip
                  have c149 : ¬ (i = 8) := fun q => c149 ((ti_eq g1 (ti_k (by decide))).mpr q)
                  refine lv_iconst (v := (-1)) hx hb d_Model_module_164 (by decide) ?_
                  have hpost : ((-1) : Int32).toInt = mdl (17 + 4 * v) i j := by
                    rw [← kS, mdl_w idw]
                    unfold cC mdl2
                    (repeat' split) <;> first | rfl | omega
                  exact W.iret (v := (-1)) hx hb hr (fun t ht hW => ⟨⟨(-1), (), rfl, hpost, trivial⟩, hS.F ht⟩) hS.2.2 d_Model_module_165
                · skip
                  have c149 : i = 8 := (ti_eq g1 (ti_k (by decide))).mp c149
                  refine lv_iload_n hx hb d_Model_module_152 rfl (lv_at hl 3 rfl) ?_
                  refine lv_iload_n hx hb d_Model_module_153 rfl (lv_at hl 4 rfl) ?_
                  refine lv_bipush (v := 8) hx hb d_Model_module_154 (by decide) ?_
                  refine lv_isub hx hb d_Model_module_156 ?_
                  refine lv_topi (fun v156 e156 => ?_)
                  have h156 : v156.toInt = S - 8 := by rw [e156]; exact ti_sub h1 (ti_k (by decide)) (by omega) (by omega)
                  refine lv_icmp_ne (tgt := 164) hx hb d_Model_module_157 (by decide) (fun c157 => ?_) (fun c157 => ?_)
                  · skip
                    have c157 : ¬ (j = (S - 8)) := fun q => c157 ((ti_eq g2 h156).mpr q)
                    refine lv_iconst (v := (-1)) hx hb d_Model_module_164 (by decide) ?_
                    have hpost : ((-1) : Int32).toInt = mdl (17 + 4 * v) i j := by
                      rw [← kS, mdl_w idw]
                      unfold cC mdl2
                      (repeat' split) <;> first | rfl | omega
                    exact W.iret (v := (-1)) hx hb hr (fun t ht hW => ⟨⟨(-1), (), rfl, hpost, trivial⟩, hS.F ht⟩) hS.2.2 d_Model_module_165
                  · skip
                    have c157 : j = (S - 8) := (ti_eq g2 h156).mp c157
                    refine lv_iconst (v := 1) hx hb d_Model_module_160 (by decide) ?_
                    refine lv_goto (tgt := 165) hx hb d_Model_module_161 (by decide) ?_
                    have hpost : (1 : Int32).toInt = mdl (17 + 4 * v) i j := by
                      rw [← kS, mdl_w idw]
                      unfold cC mdl2
                      (repeat' split) <;> first | rfl | omega
                    exact W.iret (v := 1) hx hb hr (fun t ht hW => ⟨⟨1, (), rfl, hpost, trivial⟩, hS.F ht⟩) hS.2.2 d_Model_module_165
              · skip
                have c123 : ¬ (j < 8) := fun q => c123 ((ti_lt g2 (ti_k (by decide))).mpr q)
                refine lv_iload_n hx hb d_Model_module_126 rfl (lv_at hl 3 rfl) ?_
                refine lv_iload_n hx hb d_Model_module_127 rfl (lv_at hl 4 rfl) ?_
                refine lv_bipush (v := 9) hx hb d_Model_module_128 (by decide) ?_
                refine lv_isub hx hb d_Model_module_130 ?_
                refine lv_topi (fun v130 e130 => ?_)
                have h130 : v130.toInt = S - 9 := by rw [e130]; exact ti_sub h1 (ti_k (by decide)) (by omega) (by omega)
                refine lv_icmp_gt (tgt := 146) hx hb d_Model_module_131 (by decide) (fun c131 => ?_) (fun c131 => ?_)
                · skip
                  have c131 : (S - 9) < j := (ti_lt h130 g2).mp c131
                  refine lv_iload_n hx hb d_Model_module_146 rfl (lv_at hl 2 rfl) ?_
                  refine lv_bipush (v := 8) hx hb d_Model_module_147 (by decide) ?_
                  refine lv_icmp_ne (tgt := 164) hx hb d_Model_module_149 (by decide) (fun c149 => ?_) (fun c149 => ?_)
                  · skip
                    have c149 : ¬ (i = 8) := fun q => c149 ((ti_eq g1 (ti_k (by decide))).mpr q)
                    refine lv_iconst (v := (-1)) hx hb d_Model_module_164 (by decide) ?_
                    have hpost : ((-1) : Int32).toInt = mdl (17 + 4 * v) i j := by
                      rw [← kS, mdl_w idw]
                      unfold cC mdl2
                      (repeat' split) <;> first | rfl | omega
                    exact W.iret (v := (-1)) hx hb hr (fun t ht hW => ⟨⟨(-1), (), rfl, hpost, trivial⟩, hS.F ht⟩) hS.2.2 d_Model_module_165
                  · skip
                    have c149 : i = 8 := (ti_eq g1 (ti_k (by decide))).mp c149
                    refine lv_iload_n hx hb d_Model_module_152 rfl (lv_at hl 3 rfl) ?_
                    refine lv_iload_n hx hb d_Model_module_153 rfl (lv_at hl 4 rfl) ?_
                    refine lv_bipush (v := 8) hx hb d_Model_module_154 (by decide) ?_
                    refine lv_isub hx hb d_Model_module_156 ?_
                    refine lv_topi (fun v156 e156 => ?_)
                    have h156 : v156.toInt = S - 8 := by rw [e156]; exact ti_sub h1 (ti_k (by decide)) (by omega) (by omega)
                    refine lv_icmp_ne (tgt := 164) hx hb d_Model_module_157 (by decide) (fun c157 => ?_) (fun c157 => ?_)
                    · skip
                      have c157 : ¬ (j = (S - 8)) := fun q => c157 ((ti_eq g2 h156).mpr q)
                      refine lv_iconst (v := (-1)) hx hb d_Model_module_164 (by decide) ?_
                      have hpost : ((-1) : Int32).toInt = mdl (17 + 4 * v) i j := by
                        rw [← kS, mdl_w idw]
                        unfold cC mdl2
                        (repeat' split) <;> first | rfl | omega
                      exact W.iret (v := (-1)) hx hb hr (fun t ht hW => ⟨⟨(-1), (), rfl, hpost, trivial⟩, hS.F ht⟩) hS.2.2 d_Model_module_165
                    · skip
                      have c157 : j = (S - 8) := (ti_eq g2 h156).mp c157
                      refine lv_iconst (v := 1) hx hb d_Model_module_160 (by decide) ?_
                      refine lv_goto (tgt := 165) hx hb d_Model_module_161 (by decide) ?_
                      have hpost : (1 : Int32).toInt = mdl (17 + 4 * v) i j := by
                        rw [← kS, mdl_w idw]
                        unfold cC mdl2
                        (repeat' split) <;> first | rfl | omega
                      exact W.iret (v := 1) hx hb hr (fun t ht hW => ⟨⟨1, (), rfl, hpost, trivial⟩, hS.F ht⟩) hS.2.2 d_Model_module_165
                · skip
                  have c131 : ¬ ((S - 9) < j) := fun q => c131 ((ti_lt h130 g2).mpr q)
                  refine lv_iload_n hx hb d_Model_module_134 rfl (lv_at hl 3 rfl) ?_
                  refine lv_iconst (v := 2) hx hb d_Model_module_135 (by decide) ?_
                  refine lv_irem hx hb d_Model_module_136 (by decide) ?_
                  refine lv_topi (fun v136 e136 => ?_)
                  have h136 : v136.toInt = j % 2 := by rw [e136]; exact ti_rem g2 (ti_k (by decide)) (by omega) (by omega)
                  refine lv_if_ne (tgt := 144) hx hb d_Model_module_137 (by decide) (fun c137 => ?_) (fun c137 => ?_)
                  · skip
                    have c137 : ¬ ((j % 2) = 0) := fun q => c137 ((ti_eq h136 (ti_k (by decide))).mpr q)
                    refine lv_iconst (v := 0) hx hb d_Model_module_144 (by decide) ?_
                    have hpost : (0 : Int32).toInt = mdl (17 + 4 * v) i j := by
                      rw [← kS, mdl_w idw]
                      unfold cC mdl2
                      (repeat' split) <;> first | rfl | omega
                    exact W.iret (v := 0) hx hb hr (fun t ht hW => ⟨⟨0, (), rfl, hpost, trivial⟩, hS.F ht⟩) hS.2.2 d_Model_module_145
                  · skip
                    have c137 : (j % 2) = 0 := (ti_eq h136 (ti_k (by decide))).mp c137
                    refine lv_iconst (v := 1) hx hb d_Model_module_140 (by decide) ?_
                    refine lv_goto (tgt := 145) hx hb d_Model_module_141 (by decide) ?_
                    have hpost : (1 : Int32).toInt = mdl (17 + 4 * v) i j := by
                      rw [← kS, mdl_w idw]
                      unfold cC mdl2
                      (repeat' split) <;> first | rfl | omega
                    exact W.iret (v := 1) hx hb hr (fun t ht hW => ⟨⟨1, (), rfl, hpost, trivial⟩, hS.F ht⟩) hS.2.2 d_Model_module_145
          · skip
            have c91 : ¬ (i < 8) := fun q => c91 ((ti_lt g1 (ti_k (by decide))).mpr q)
            refine lv_iload_n hx hb d_Model_module_94 rfl (lv_at hl 2 rfl) ?_
            refine lv_iload_n hx hb d_Model_module_95 rfl (lv_at hl 4 rfl) ?_
            refine lv_bipush (v := 9) hx hb d_Model_module_96 (by decide) ?_
            refine lv_isub hx hb d_Model_module_98 ?_
            refine lv_topi (fun v98 e98 => ?_)
            have h98 : v98.toInt = S - 9 := by rw [e98]; exact ti_sub h1 (ti_k (by decide)) (by omega) (by omega)
            refine lv_icmp_gt (tgt := 114) hx hb d_Model_module_99 (by decide) (fun c99 => ?_) (fun c99 => ?_)
            · skip
              have c99 : (S - 9) < i := (ti_lt h98 g1).mp c99
              refine lv_iload_n hx hb d_Model_module_114 rfl (lv_at hl 2 rfl) ?_
              refine lv_bipush (v := 6) hx hb d_Model_module_115 (by decide) ?_
              refine lv_icmp_ne (tgt := 146) hx hb d_Model_module_117 (by decide) (fun c117 => ?_) (fun c117 => ?_)
              · skip
                have c117 : ¬ (i = 6) := fun q => c117 ((ti_eq g1 (ti_k (by decide))).mpr q)
                refine lv_iload_n hx hb d_Model_module_146 rfl (lv_at hl 2 rfl) ?_
                refine lv_bipush (v := 8) hx hb d_Model_module_147 (by decide) ?_
                refine lv_icmp_ne (tgt := 164) hx hb d_Model_module_149 (by decide) (fun c149 => ?_) (fun c149 => ?_)
                · skip
                  have c149 : ¬ (i = 8) := fun q => c149 ((ti_eq g1 (ti_k (by decide))).mpr q)
                  refine lv_iconst (v := (-1)) hx hb d_Model_module_164 (by decide) ?_
                  have hpost : ((-1) : Int32).toInt = mdl (17 + 4 * v) i j := by
                    rw [← kS, mdl_w idw]
                    unfold cC mdl2
                    (repeat' split) <;> first | rfl | omega
                  exact W.iret (v := (-1)) hx hb hr (fun t ht hW => ⟨⟨(-1), (), rfl, hpost, trivial⟩, hS.F ht⟩) hS.2.2 d_Model_module_165
                · skip
                  have c149 : i = 8 := (ti_eq g1 (ti_k (by decide))).mp c149
                  refine lv_iload_n hx hb d_Model_module_152 rfl (lv_at hl 3 rfl) ?_
                  refine lv_iload_n hx hb d_Model_module_153 rfl (lv_at hl 4 rfl) ?_
                  refine lv_bipush (v := 8) hx hb d_Model_module_154 (by decide) ?_
                  refine lv_isub hx hb d_Model_module_156 ?_
                  refine lv_topi (fun v156 e156 => ?_)
                  have h156 : v156.toInt = S - 8 := by rw [e156]; exact ti_sub h1 (ti_k (by decide)) (by omega) (by omega)
                  refine lv_icmp_ne (tgt := 164) hx hb d_Model_module_157 (by decide) (fun c157 => ?_) (fun c157 => ?_)
                  · skip
                    have c157 : ¬ (j = (S - 8)) := fun q => c157 ((ti_eq g2 h156).mpr q)
                    refine lv_iconst (v := (-1)) hx hb d_Model_module_164 (by decide) ?_
                    have hpost : ((-1) : Int32).toInt = mdl (17 + 4 * v) i j := by
                      rw [← kS, mdl_w idw]
                      unfold cC mdl2
                      (repeat' split) <;> first | rfl | omega
                    exact W.iret (v := (-1)) hx hb hr (fun t ht hW => ⟨⟨(-1), (), rfl, hpost, trivial⟩, hS.F ht⟩) hS.2.2 d_Model_module_165
                  · skip
                    have c157 : j = (S - 8) := (ti_eq g2 h156).mp c157
                    refine lv_iconst (v := 1) hx hb d_Model_module_160 (by decide) ?_
                    refine lv_goto (tgt := 165) hx hb d_Model_module_161 (by decide) ?_
                    have hpost : (1 : Int32).toInt = mdl (17 + 4 * v) i j := by
                      rw [← kS, mdl_w idw]
                      unfold cC mdl2
                      (repeat' split) <;> first | rfl | omega
                    exact W.iret (v := 1) hx hb hr (fun t ht hW => ⟨⟨1, (), rfl, hpost, trivial⟩, hS.F ht⟩) hS.2.2 d_Model_module_165
              · skip
                have c117 : i = 6 := (ti_eq g1 (ti_k (by decide))).mp c117
                refine lv_iload_n hx hb d_Model_module_120 rfl (lv_at hl 3 rfl) ?_
                refine lv_bipush (v := 8) hx hb d_Model_module_121 (by decide) ?_
                refine lv_icmp_lt (tgt := 146) hx hb d_Model_module_123 (by decide) (fun c123 => ?_) (fun c123 => ?_)
                · skip
                  have c123 : j < 8 := (ti_lt g2 (ti_k (by decide))).mp c123
                  refine lv_iload_n hx hb d_Model_module_146 rfl (lv_at hl 2 rfl) ?_
                  refine lv_bipush (v := 8) hx hb d_Model_module_147 (by decide) ?_
                  refine lv_icmp_ne (tgt := 164) hx hb d_Model_module_149 (by decide) (fun c149 => ?_) (fun c149 => ?_)
                  · skip
                    have c149 : ¬ (i = 8) := fun q => c149 ((ti_eq g1 (ti_k (by decide))).mpr q)
                    refine lv_iconst (v := (-1)) hx hb d_Model_module_164 (by decide) ?_
                    have hpost : ((-1) : Int32).toInt = mdl (17 + 4 * v) i j := by
                      rw [← kS, mdl_w idw]
                      unfold cC mdl2
                      (repeat' split) <;> first | rfl | omega
                    exact W.iret (v := (-1)) hx hb hr (fun t ht hW => ⟨⟨(-1), (), rfl, hpost, trivial⟩, hS.F ht⟩) hS.2.2 d_Model_module_165
                  · skip
                    have c149 : i = 8 := (ti_eq g1 (ti_k (by decide))).mp c149
                    refine lv_iload_n hx hb d_Model_module_152 rfl (lv_at hl 3 rfl) ?_
                    refine lv_iload_n hx hb d_Model_module_153 rfl (lv_at hl 4 rfl) ?_
                    refine lv_bipush (v := 8) hx hb d_Model_module_154 (by decide) ?_
                    refine lv_isub hx hb d_Model_module_156 ?_
                    refine lv_topi (fun v156 e156 => ?_)
                    have h156 : v156.toInt = S - 8 := by rw [e156]; exact ti_sub h1 (ti_k (by decide)) (by omega) (by omega)
                    refine lv_icmp_ne (tgt := 164) hx hb d_Model_module_157 (by decide) (fun c157 => ?_) (fun c157 => ?_)
                    · skip
                      have c157 : ¬ (j = (S - 8)) := fun q => c157 ((ti_eq g2 h156).mpr q)
                      refine lv_iconst (v := (-1)) hx hb d_Model_module_164 (by decide) ?_
                      have hpost : ((-1) : Int32).toInt = mdl (17 + 4 * v) i j := by
                        rw [← kS, mdl_w idw]
                        unfold cC mdl2
                        (repeat' split) <;> first | rfl | omega
                      exact W.iret (v := (-1)) hx hb hr (fun t ht hW => ⟨⟨(-1), (), rfl, hpost, trivial⟩, hS.F ht⟩) hS.2.2 d_Model_module_165
                    · skip
                      have c157 : j = (S - 8) := (ti_eq g2 h156).mp c157
                      refine lv_iconst (v := 1) hx hb d_Model_module_160 (by decide) ?_
                      refine lv_goto (tgt := 165) hx hb d_Model_module_161 (by decide) ?_
                      have hpost : (1 : Int32).toInt = mdl (17 + 4 * v) i j := by
                        rw [← kS, mdl_w idw]
                        unfold cC mdl2
                        (repeat' split) <;> first | rfl | omega
                      exact W.iret (v := 1) hx hb hr (fun t ht hW => ⟨⟨1, (), rfl, hpost, trivial⟩, hS.F ht⟩) hS.2.2 d_Model_module_165
                · skip
                  have c123 : ¬ (j < 8) := fun q => c123 ((ti_lt g2 (ti_k (by decide))).mpr q)
                  refine lv_iload_n hx hb d_Model_module_126 rfl (lv_at hl 3 rfl) ?_
                  refine lv_iload_n hx hb d_Model_module_127 rfl (lv_at hl 4 rfl) ?_
                  refine lv_bipush (v := 9) hx hb d_Model_module_128 (by decide) ?_
                  refine lv_isub hx hb d_Model_module_130 ?_
                  refine lv_topi (fun v130 e130 => ?_)
                  have h130 : v130.toInt = S - 9 := by rw [e130]; exact ti_sub h1 (ti_k (by decide)) (by omega) (by omega)
                  refine lv_icmp_gt (tgt := 146) hx hb d_Model_module_131 (by decide) (fun c131 => ?_) (fun c131 => ?_)
                  · skip
                    have c131 : (S - 9) < j := (ti_lt h130 g2).mp c131
                    refine lv_iload_n hx hb d_Model_module_146 rfl (lv_at hl 2 rfl) ?_
                    refine lv_bipush (v := 8) hx hb d_Model_module_147 (by decide) ?_
                    refine lv_icmp_ne (tgt := 164) hx hb d_Model_module_149 (by decide) (fun c149 => ?_) (fun c149 => ?_)
                    · skip
                      have c149 : ¬ (i = 8) := fun q => c149 ((ti_eq g1 (ti_k (by decide))).mpr q)
                      refine lv_iconst (v := (-1)) hx hb d_Model_module_164 (by decide) ?_
                      have hpost : ((-1) : Int32).toInt = mdl (17 + 4 * v) i j := by
                        rw [← kS, mdl_w idw]
                        unfold cC mdl2
                        (repeat' split) <;> first | rfl | omega
                      exact W.iret (v := (-1)) hx hb hr (fun t ht hW => ⟨⟨(-1), (), rfl, hpost, trivial⟩, hS.F ht⟩) hS.2.2 d_Model_module_165
                    · skip
                      have c149 : i = 8 := (ti_eq g1 (ti_k (by decide))).mp c149
                      refine lv_iload_n hx hb d_Model_module_152 rfl (lv_at hl 3 rfl) ?_
                      refine lv_iload_n hx hb d_Model_module_153 rfl (lv_at hl 4 rfl) ?_
                      refine lv_bipush (v := 8) hx hb d_Model_module_154 (by decide) ?_
                      refine lv_isub hx hb d_Model_module_156 ?_
                      refine lv_topi (fun v156 e156 => ?_)
                      have h156 : v156.toInt = S - 8 := by rw [e156]; exact ti_sub h1 (ti_k (by decide)) (by omega) (by omega)
                      refine lv_icmp_ne (tgt := 164) hx hb d_Model_module_157 (by decide) (fun c157 => ?_) (fun c157 => ?_)
                      · skip
                        have c157 : ¬ (j = (S - 8)) := fun q => c157 ((ti_eq g2 h156).mpr q)
                        refine lv_iconst (v := (-1)) hx hb d_Model_module_164 (by decide) ?_
                        have hpost : ((-1) : Int32).toInt = mdl (17 + 4 * v) i j := by
                          rw [← kS, mdl_w idw]
                          unfold cC mdl2
                          (repeat' split) <;> first | rfl | omega
                        exact W.iret (v := (-1)) hx hb hr (fun t ht hW => ⟨⟨(-1), (), rfl, hpost, trivial⟩, hS.F ht⟩) hS.2.2 d_Model_module_165
                      · skip
                        have c157 : j = (S - 8) := (ti_eq g2 h156).mp c157
                        refine lv_iconst (v := 1) hx hb d_Model_module_160 (by decide) ?_
                        refine lv_goto (tgt := 165) hx hb d_Model_module_161 (by decide) ?_
                        have hpost : (1 : Int32).toInt = mdl (17 + 4 * v) i j := by
                          rw [← kS, mdl_w idw]
                          unfold cC mdl2
                          (repeat' split) <;> first | rfl | omega
                        exact W.iret (v := 1) hx hb hr (fun t ht hW => ⟨⟨1, (), rfl, hpost, trivial⟩, hS.F ht⟩) hS.2.2 d_Model_module_165
                  · skip
                    have c131 : ¬ ((S - 9) < j) := fun q => c131 ((ti_lt h130 g2).mpr q)
                    refine lv_iload_n hx hb d_Model_module_134 rfl (lv_at hl 3 rfl) ?_
                    refine lv_iconst (v := 2) hx hb d_Model_module_135 (by decide) ?_
                    refine lv_irem hx hb d_Model_module_136 (by decide) ?_
                    refine lv_topi (fun v136 e136 => ?_)
                    have h136 : v136.toInt = j % 2 := by rw [e136]; exact ti_rem g2 (ti_k (by decide)) (by omega) (by omega)
                    refine lv_if_ne (tgt := 144) hx hb d_Model_module_137 (by decide) (fun c137 => ?_) (fun c137 => ?_)
                    · skip
                      have c137 : ¬ ((j % 2) = 0) := fun q => c137 ((ti_eq h136 (ti_k (by decide))).mpr q)
                      refine lv_iconst (v := 0) hx hb d_Model_module_144 (by decide) ?_
                      have hpost : (0 : Int32).toInt = mdl (17 + 4 * v) i j := by
                        rw [← kS, mdl_w idw]
                        unfold cC mdl2
                        (repeat' split) <;> first | rfl | omega
                      exact W.iret (v := 0) hx hb hr (fun t ht hW => ⟨⟨0, (), rfl, hpost, trivial⟩, hS.F ht⟩) hS.2.2 d_Model_module_145
                    · skip
                      have c137 : (j % 2) = 0 := (ti_eq h136 (ti_k (by decide))).mp c137
                      refine lv_iconst (v := 1) hx hb d_Model_module_140 (by decide) ?_
                      refine lv_goto (tgt := 145) hx hb d_Model_module_141 (by decide) ?_
                      have hpost : (1 : Int32).toInt = mdl (17 + 4 * v) i j := by
                        rw [← kS, mdl_w idw]
                        unfold cC mdl2
                        (repeat' split) <;> first | rfl | omega
                      exact W.iret (v := 1) hx hb hr (fun t ht hW => ⟨⟨1, (), rfl, hpost, trivial⟩, hS.F ht⟩) hS.2.2 d_Model_module_145
            · skip
              have c99 : ¬ ((S - 9) < i) := fun q => c99 ((ti_lt h98 g1).mpr q)
              refine lv_iload_n hx hb d_Model_module_102 rfl (lv_at hl 2 rfl) ?_
              refine lv_iconst (v := 2) hx hb d_Model_module_103 (by decide) ?_
              refine lv_irem hx hb d_Model_module_104 (by decide) ?_
              refine lv_topi (fun v104 e104 => ?_)
              have h104 : v104.toInt = i % 2 := by rw [e104]; exact ti_rem g1 (ti_k (by decide)) (by omega) (by omega)
              refine lv_if_ne (tgt := 112) hx hb d_Model_module_105 (by decide) (fun c105 => ?_) (fun c105 => ?_)
              · skip
                have c105 : ¬ ((i % 2) = 0) := fun q => c105 ((ti_eq h104 (ti_k (by decide))).mpr q)
                refine lv_iconst (v := 0) hx hb d_Model_module_112 (by decide) ?_
                have hpost : (0 : Int32).toInt = mdl (17 + 4 * v) i j := by
                  rw [← kS, mdl_w idw]
                  unfold cC mdl2
                  (repeat' split) <;> first | rfl | omega
                exact W.iret (v := 0) hx hb hr (fun t ht hW => ⟨⟨0, (), rfl, hpost, trivial⟩, hS.F ht⟩) hS.2.2 d_Model_module_113
              · skip
                have c105 : (i % 2) = 0 := (ti_eq h104 (ti_k (by decide))).mp c105
                refine lv_iconst (v := 1) hx hb d_Model_module_108 (by decide) ?_
                refine lv_goto (tgt := 113) hx hb d_Model_module_109 (by decide) ?_
                have hpost : (1 : Int32).toInt = mdl (17 + 4 * v) i j := by
                  rw [← kS, mdl_w idw]
                  unfold cC mdl2
                  (repeat' split) <;> first | rfl | omega
                exact W.iret (v := 1) hx hb hr (fun t ht hW => ⟨⟨1, (), rfl, hpost, trivial⟩, hS.F ht⟩) hS.2.2 d_Model_module_113
      · skip
        have c61 : ¬ (4 < zdw) := fun q => c61 ((ti_lt (ti_k (by decide)) hdw).mpr q)
        refine lv_iload hx hb d_Model_module_64 (lv_at hl 0 rfl) ?_
        refine lv_iconst (v := 2) hx hb d_Model_module_66 (by decide) ?_
        refine lv_icmp_eq (tgt := 76) hx hb d_Model_module_67 (by decide) (fun c67 => ?_) (fun c67 => ?_)
        · skip
          have c67 : zdw = 2 := (ti_eq hdw (ti_k (by decide))).mp c67
          refine lv_iconst (v := 0) hx hb d_Model_module_76 (by decide) ?_
          refine lv_goto (tgt := 81) hx hb d_Model_module_77 (by decide) ?_
          have hpost : (0 : Int32).toInt = mdl (17 + 4 * v) i j := by
            rw [← kS, mdl_w idw]
            unfold cC mdl2
            (repeat' split) <;> first | rfl | omega
          exact W.iret (v := 0) hx hb hr (fun t ht hW => ⟨⟨0, (), rfl, hpost, trivial⟩, hS.F ht⟩) hS.2.2 d_Model_module_81
        · skip
          have c67 : ¬ (zdw = 2) := fun q => c67 ((ti_eq hdw (ti_k (by decide))).mpr q)
          refine lv_iload hx hb d_Model_module_70 (lv_at hl 0 rfl) ?_
          refine lv_iconst (v := 4) hx hb d_Model_module_72 (by decide) ?_
          refine lv_icmp_ne (tgt := 80) hx hb d_Model_module_73 (by decide) (fun c73 => ?_) (fun c73 => ?_)
          · skip
            have c73 : ¬ (zdw = 4) := fun q => c73 ((ti_eq hdw (ti_k (by decide))).mpr q)
            refine lv_iconst (v := 1) hx hb d_Model_module_80 (by decide) ?_
            have hpost : (1 : Int32).toInt = mdl (17 + 4 * v) i j := by
              rw [← kS, mdl_w idw]
              unfold cC mdl2
              (repeat' split) <;> first | rfl | omega
            exact W.iret (v := 1) hx hb hr (fun t ht hW => ⟨⟨1, (), rfl, hpost, trivial⟩, hS.F ht⟩) hS.2.2 d_Model_module_81
          · skip
            have c73 : zdw = 4 := (ti_eq hdw (ti_k (by decide))).mp c73
            refine lv_iconst (v := 0) hx hb d_Model_module_76 (by decide) ?_
            refine lv_goto (tgt := 81) hx hb d_Model_module_77 (by decide) ?_
            have hpost : (0 : Int32).toInt = mdl (17 + 4 * v) i j := by
              rw [← kS, mdl_w idw]
              unfold cC mdl2
              (repeat' split) <;> first | rfl | omega
            exact W.iret (v := 0) hx hb hr (fun t ht hW => ⟨⟨0, (), rfl, hpost, trivial⟩, hS.F ht⟩) hS.2.2 d_Model_module_81
    · skip
      intro hj56
      refine lv_iload hx hb d_Model_module_36 (lv_at hl 0 rfl) ?_
      refine lv_iconst (v := 4) hx hb d_Model_module_38 (by decide) ?_
      refine lv_icmp_le (tgt := 54) hx hb d_Model_module_39 (by decide) (fun c39 => ?_) (fun c39 => ?_)
      · skip
        have c39 : zdv ≤ 4 := (ti_le hdv (ti_k (by decide))).mp c39
        refine lv_iload hx hb d_Model_module_54 (lv_at hl 0 rfl) ?_
        exact hj56 _ _ _ ⟨dv, zdv, ls, rfl, lv_sub hl [1, 2, 3, 4, 0] rfl, hdv, by (repeat' split at idv) <;> (repeat' split) <;> omega, hP, hS⟩
      · skip
        have c39 : ¬ (zdv ≤ 4) := fun q => c39 ((ti_le hdv (ti_k (by decide))).mpr q)
        refine lv_iload_n hx hb d_Model_module_42 rfl (lv_at hl 2 rfl) ?_
        refine lv_iload_n hx hb d_Model_module_43 rfl (lv_at hl 3 rfl) ?_
        refine lv_iconst (v := 3) hx hb d_Model_module_44 (by decide) ?_
        refine lv_iload_n hx hb d_Model_module_45 rfl (lv_at hl 4 rfl) ?_
        refine lv_iconst (v := 4) hx hb d_Model_module_46 (by decide) ?_
        refine lv_isub hx hb d_Model_module_47 ?_
        refine lv_topi (fun v47 e47 => ?_)
        have h47 : v47.toInt = S - 4 := by rw [e47]; exact ti_sub h1 (ti_k (by decide)) (by omega) (by omega)
        have hPc := hP.sub (ws' := []) [] rfl
        have hKc := hK.sub (tys' := []) [] rfl
        refine va_calli (va_runS (As := [.int a1, .int a2, .int 3, .int v47]) (rest := []) ⟨hx, hb, hml, hown, hts⟩ (m_distance l dC dI a1 a2 3 v47 i j 3 (S - 4) g1 g2 (ti_k (by decide)) h47 (by omega) (by omega) (by omega) (by omega) (by omega) (by omega) (by omega) (by omega)) (aw_S 4 hts wd_646 wd_647 wd_5 wd_648 rfl rfl (by decide +kernel) ⟨Nat.le_of_ble_eq_true rfl, Nat.le_of_ble_eq_true rfl⟩) ⟨ro_blind, ro_pre hPc hKc⟩ rfl rfl hl.1 rfl (lv_room (Nat.le_of_ble_eq_true rfl)) d_Model_module_48 ⟨Nat.le_of_ble_eq_true rfl, Nat.le_of_ble_eq_true rfl⟩) hS (fun q _ h => h.elim) (fun q h => h.elim) (fun v48 _ t9 H48 locs ht hvm h48 hB hz1 hk1 hS => ?_)
        have hP := ro_keep hP hk1
        clear hPc hKc ht hvm hB hz1 hk1
        refine lv_goto (tgt := 56) hx hb d_Model_module_51 (by decide) ?_
        exact hj56 _ _ _ ⟨v48, (dst i j 3 (S - 4)), ls, rfl, lv_sub hl [1, 2, 3, 4, 0] rfl, h48, by (repeat' split at idv) <;> (repeat' split) <;> omega, hP, hS⟩
  · skip
    intro hj34
    refine lv_iload hx hb d_Model_module_14 (lv_at hl 0 rfl) ?_
    refine lv_iconst (v := 4) hx hb d_Model_module_16 (by decide) ?_
    refine lv_icmp_le (tgt := 32) hx hb d_Model_module_17 (by decide) (fun c17 => ?_) (fun c17 => ?_)
    · skip
      have c17 : (dst i j 3 3) ≤ 4 := (ti_le h9 (ti_k (by decide))).mp c17
      refine lv_iload hx hb d_Model_module_32 (lv_at hl 0 rfl) ?_
      exact hj34 _ _ _ ⟨v9, (dst i j 3 3), ls, rfl, lv_sub hl [2, 3, 4, 1, 0] rfl, h9, by first | rw [if_neg (by omega)] | rw [if_pos (by omega)], hP, hS⟩
    · skip
      have c17 : ¬ ((dst i j 3 3) ≤ 4) := fun q => c17 ((ti_le h9 (ti_k (by decide))).mpr q)
      refine lv_iload_n hx hb d_Model_module_20 rfl (lv_at hl 3 rfl) ?_
      refine lv_iload_n hx hb d_Model_module_21 rfl (lv_at hl 4 rfl) ?_
      refine lv_iload_n hx hb d_Model_module_22 rfl (lv_at hl 1 rfl) ?_
      refine lv_iconst (v := 4) hx hb d_Model_module_23 (by decide) ?_
      refine lv_isub hx hb d_Model_module_24 ?_
      refine lv_topi (fun v24 e24 => ?_)
      have h24 : v24.toInt = S - 4 := by rw [e24]; exact ti_sub h1 (ti_k (by decide)) (by omega) (by omega)
      refine lv_iconst (v := 3) hx hb d_Model_module_25 (by decide) ?_
      have hPc := hP.sub (ws' := []) [] rfl
      have hKc := hK.sub (tys' := []) [] rfl
      refine va_calli (va_runS (As := [.int a1, .int a2, .int v24, .int 3]) (rest := []) ⟨hx, hb, hml, hown, hts⟩ (m_distance l dC dI a1 a2 v24 3 i j (S - 4) 3 g1 g2 h24 (ti_k (by decide)) (by omega) (by omega) (by omega) (by omega) (by omega) (by omega) (by omega) (by omega)) (aw_S 4 hts wd_646 wd_647 wd_5 wd_648 rfl rfl (by decide +kernel) ⟨Nat.le_of_ble_eq_true rfl, Nat.le_of_ble_eq_true rfl⟩) ⟨ro_blind, ro_pre hPc hKc⟩ rfl rfl hl.1 rfl (lv_room (Nat.le_of_ble_eq_true rfl)) d_Model_module_26 ⟨Nat.le_of_ble_eq_true rfl, Nat.le_of_ble_eq_true rfl⟩) hS (fun q _ h => h.elim) (fun q h => h.elim) (fun v26 _ t9 H26 locs ht hvm h26 hB hz1 hk1 hS => ?_)
      have hP := ro_keep hP hk1
      clear hPc hKc ht hvm hB hz1 hk1
      refine lv_goto (tgt := 34) hx hb d_Model_module_29 (by decide) ?_
      exact hj34 _ _ _ ⟨v26, (dst i j (S - 4) 3), ls, rfl, lv_sub hl [2, 3, 4, 1, 0] rfl, h26, by first | rw [if_neg (by omega)] | rw [if_pos (by omega)], hP, hS⟩
